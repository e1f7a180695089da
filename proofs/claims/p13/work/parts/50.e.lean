set_option maxHeartbeats 400000 in
set_option maxRecDepth 100000 in
theorem pj_with_287 (S : mS) (t : Int32) (q : Int32) (b : Int32)  (h1 : fre S t) (h3 : mInv S) (j287_s0 : Int32)  (rZ : Int32) (SZ : mS) (hj287 : (0 ≤ b ∧ b < 24) ∧ gA S 28 b ≠ 5) (hZ : (rZ, SZ) = G_with S t q b) (hG : G_with S t q b = G_with_J287 S t b j287_s0) : (fun (r9 : Int32) (S9 : mS) => pas S S9 t r9) rZ SZ := by
  obtain ⟨h2, h5⟩ := id hj287
  rw [G_with_J287] at hG
  have w1 := stp_rf h3
  rcases Classical.em ((j287_s0 : Int32) = 0) with c2 | c2
  · replace hG := gIf_p hG c2
    rcases Classical.em ((j287_s0 : Int32) = 0) with c3 | c3
    · replace hG := gIf_p hG c3
      obtain ⟨S4, eS4⟩ : ∃ z : mS, z = sA S 14 t (0) := ⟨_, rfl⟩
      replace hG := gLt_e hG eS4
      have w5 := st_irr w1 eS4 (by simp [smK])
      exact gE2 (P := (fun (r9 : Int32) (S9 : mS) => pas S S9 t r9)) hZ hG (pas_1 h1 w5)
    · replace hG := gIf_n hG c3
      obtain ⟨S6, eS6⟩ : ∃ z : mS, z = sA S 14 t (1) := ⟨_, rfl⟩
      replace hG := gLt_e hG eS6
      have w7 := st_irr w1 eS6 (by simp [smK])
      exact gE2 (P := (fun (r9 : Int32) (S9 : mS) => pas S S9 t r9)) hZ hG (pas_1 h1 w7)
  · replace hG := gIf_n hG c2
    obtain ⟨S8, eS8⟩ : ∃ z : mS, z = sA S 30 b (1) := ⟨_, rfl⟩
    replace hG := gLt_e hG eS8
    have w9 := st_irr w1 eS8 (by simp [smK])
    obtain ⟨S10, eS10⟩ : ∃ z : mS, z = sA S8 29 b ((gA S8 14 t)) := ⟨_, rfl⟩
    replace hG := gLt_e hG eS10
    have w11 := st_first w9 h5 h2 eS10
    have loop313 : ∀ (N313 : Nat)  (SL313 : mS), (stp S SL313) → ((gA SL313 33 b).toInt.toNat) < N313 → (G_with S t q b = G_with_L313 t b j287_s0 N313  SL313) → (fun (r9 : Int32) (S9 : mS) => pas S S9 t r9) rZ SZ := by
      intro N313
      induction N313 with
      | zero => intro  SL313 hi313 hm313; exact absurd hm313 (Nat.not_lt_zero _)
      | succ N313 ih313 =>
        intro  SL313 hi313 hm313 hG
        rw [G_with_L313] at hG
        have w12 := hi313
        rcases Classical.em (((gA SL313 33 b) : Int32) ≤ 0) with c13 | c13
        · replace hG := gIf_p hG c13
          rcases Classical.em ((j287_s0 : Int32) = 0) with c14 | c14
          · replace hG := gIf_p hG c14
            obtain ⟨S15, eS15⟩ : ∃ z : mS, z = sA SL313 14 t (0) := ⟨_, rfl⟩
            replace hG := gLt_e hG eS15
            have w16 := st_irr w12 eS15 (by simp [smK])
            exact gE2 (P := (fun (r9 : Int32) (S9 : mS) => pas S S9 t r9)) hZ hG (pas_1 h1 w16)
          · replace hG := gIf_n hG c14
            obtain ⟨S17, eS17⟩ : ∃ z : mS, z = sA SL313 14 t (1) := ⟨_, rfl⟩
            replace hG := gLt_e hG eS17
            have w18 := st_irr w12 eS17 (by simp [smK])
            exact gE2 (P := (fun (r9 : Int32) (S9 : mS) => pas S S9 t r9)) hZ hG (pas_1 h1 w18)
        · replace hG := gIf_n hG c13
          obtain ⟨r20, S19, ghq21⟩ : ∃ (z : Int32) (y : mS), (z, y) = G_firstGoesOn SL313 b := ⟨_, _, rfl⟩
          have hq21 := p_firstGoesOn SL313 b  (h2) (w12.1) (i_gt c13) r20 S19 ghq21
          replace hG := gC_e hG ghq21
          have w22 := stp_tr w12 hq21.1
          obtain ⟨S23, eS23⟩ : ∃ z : mS, z = sA S19 14 r20 ((gA S19 29 b)) := ⟨_, rfl⟩
          replace hG := gLt_e hG eS23
          have w24 := st_irr w22 eS23 (by simp [smK])
          exact ih313  S23 (w24) (show _ < _ from by rw [eS23]; simp only [gA_sA, if_neg (show ¬ (33 = 14) by decide)]; exact msd hm313 hq21.2.2.2.1.1 hq21.2.2.2.1.2) hG
    exact loop313 ((gA S10 33 b).toInt.toNat + 1)  S10 (w11) (Nat.lt_succ_self _) hG
set_option maxHeartbeats 400000 in
set_option maxRecDepth 100000 in
theorem pj_with_104 (S : mS) (t : Int32) (q : Int32) (b : Int32)  (h1 : fre S t) (h3 : mInv S)   (rZ : Int32) (SZ : mS) (hj104 : (0 ≤ b ∧ b < 24) ∧ gA S 28 b ≠ 5) (hZ : (rZ, SZ) = G_with S t q b) (hG : G_with S t q b = G_with_J104 S t q b ) : (fun (r9 : Int32) (S9 : mS) => pas S S9 t r9) rZ SZ := by
  obtain ⟨h2, h5⟩ := id hj104
  rw [G_with_J104] at hG
  have w25 := stp_rf h3
  rcases (Classical.em ((q : Int32) = 20)).symm with c26 | c26
  · replace hG := gIf_n hG c26
    rcases (Classical.em ((q : Int32) = 21)).symm with c27 | c27
    · replace hG := gIf_n hG c27
      rcases (Classical.em ((q : Int32) = 22)).symm with c28 | c28
      · replace hG := gIf_n hG c28
        rcases (Classical.em ((q : Int32) = 27)).symm with c29 | c29
        · replace hG := gIf_n hG c29
          rcases (Classical.em (((gA S 30 b) : Int32) = 0)).symm with c30 | c30
          · replace hG := gIf_n hG c30
            obtain ⟨S31, eS31⟩ : ∃ z : mS, z = sA S 14 t ((gA S 29 b)) := ⟨_, rfl⟩
            replace hG := gLt_e hG eS31
            have w32 := st_irr w25 eS31 (by simp [smK])
            exact gE2 (P := (fun (r9 : Int32) (S9 : mS) => pas S S9 t r9)) hZ hG (pas_1 h1 w32)
          · replace hG := gIf_p hG c30
            obtain ⟨r34, S33, ghq35⟩ : ∃ (z : Int32) (y : mS), (z, y) = G_passes S t b := ⟨_, _, rfl⟩
            have hq35 := p_passes S t b  (fre_stp h1 w25) (h2) (w25.1) r34 S33 ghq35
            replace hG := gC_e hG ghq35
            exact gE2 (P := (fun (r9 : Int32) (S9 : mS) => pas S S9 t r9)) hZ hG (hq35)
        · replace hG := gIf_p hG c29
          rcases (Classical.em (((gA S 30 b) : Int32) = 0)).symm with c36 | c36
          · replace hG := gIf_n hG c36
            exact pj_with_287 S t q b h1 h3 0  rZ SZ (hj104) hZ hG
          · replace hG := gIf_p hG c36
            exact pj_with_287 S t q b h1 h3 1  rZ SZ (hj104) hZ hG
      · replace hG := gIf_p hG c28
        obtain ⟨x37, ex37⟩ : ∃ z : Int32, z = (((gA S 29 b) - (gA S 33 b)) - 1) := ⟨_, rfl⟩
        replace hG := gLt_e hG ex37
        rcases Classical.em ((x37 : Int32) ≤ 0) with c38 | c38
        · replace hG := gIf_p hG c38
          obtain ⟨S39, eS39⟩ : ∃ z : mS, z = sA S 14 t (0) := ⟨_, rfl⟩
          replace hG := gLt_e hG eS39
          have w40 := st_irr w25 eS39 (by simp [smK])
          have loop247 : ∀ (N247 : Nat)  (SL247 : mS), (stp S SL247) → ((gA SL247 33 b).toInt.toNat) < N247 → (G_with S t q b = G_with_L247 b N247  SL247) → (fun (r9 : Int32) (S9 : mS) => pas S S9 t r9) rZ SZ := by
            intro N247
            induction N247 with
            | zero => intro  SL247 hi247 hm247; exact absurd hm247 (Nat.not_lt_zero _)
            | succ N247 ih247 =>
              intro  SL247 hi247 hm247 hG
              rw [G_with_L247] at hG
              have w41 := hi247
              rcases Classical.em (((gA SL247 33 b) : Int32) ≤ 0) with c42 | c42
              · replace hG := gIf_p hG c42
                exact gE2 (P := (fun (r9 : Int32) (S9 : mS) => pas S S9 t r9)) hZ hG (pas_1 h1 w41)
              · replace hG := gIf_n hG c42
                obtain ⟨r44, S43, ghq45⟩ : ∃ (z : Int32) (y : mS), (z, y) = G_firstGoesOn SL247 b := ⟨_, _, rfl⟩
                have hq45 := p_firstGoesOn SL247 b  (h2) (w41.1) (i_gt c42) r44 S43 ghq45
                replace hG := gC_e hG ghq45
                have w46 := stp_tr w41 hq45.1
                exact ih247  S43 (w46) (msd hm247 hq45.2.2.2.1.1 hq45.2.2.2.1.2) hG
          exact loop247 ((gA S39 33 b).toInt.toNat + 1)  S39 (w40) (Nat.lt_succ_self _) hG
        · replace hG := gIf_n hG c38
          obtain ⟨r48, S47, ghq49⟩ : ∃ (z : Int32) (y : mS), (z, y) = G_passes S t b := ⟨_, _, rfl⟩
          have hq49 := p_passes S t b  (fre_stp h1 w25) (h2) (w25.1) r48 S47 ghq49
          replace hG := gC_e hG ghq49
          rcases (Classical.em ((r48 : Int32) = 0)).symm with c50 | c50
          · replace hG := gIf_n hG c50
            exact gE2 (P := (fun (r9 : Int32) (S9 : mS) => pas S S9 t r9)) hZ hG (by clear hG hZ; first | exact pas_irr hq49 nope9 (by simp [smK]) | exact hq49)
          · replace hG := gIf_p hG c50
            obtain ⟨S51, eS51⟩ : ∃ z : mS, z = sA S47 14 t (x37) := ⟨_, rfl⟩
            replace hG := gLt_e hG eS51
            exact gE2 (P := (fun (r9 : Int32) (S9 : mS) => pas S S9 t r9)) hZ hG (by clear hG hZ; first | exact pas_irr hq49 eS51 (by simp [smK]) | exact hq49)
    · replace hG := gIf_p hG c27
      rcases Classical.em (((gA S 29 b) : Int32) = 0) with c52 | c52
      · replace hG := gIf_p hG c52
        exact gE2 (P := (fun (r9 : Int32) (S9 : mS) => pas S S9 t r9)) hZ hG (by clear hG hZ; first | exact pas_1 h1 (stp_rf h3) | exact pas_n nope9 nope9 | (have z9 := nope9; rw [nope9] at z9; exact z9))
      · replace hG := gIf_n hG c52
        obtain ⟨r54, S53, ghq55⟩ : ∃ (z : Int32) (y : mS), (z, y) = G_passes S t b := ⟨_, _, rfl⟩
        have hq55 := p_passes S t b  (fre_stp h1 w25) (h2) (w25.1) r54 S53 ghq55
        replace hG := gC_e hG ghq55
        rcases Classical.em ((r54 : Int32) = 0) with c56 | c56
        · replace hG := gIf_p hG c56
          exact gE2 (P := (fun (r9 : Int32) (S9 : mS) => pas S S9 t r9)) hZ hG (by clear hG hZ; first | exact pas_1 h1 (stp_rf h3) | exact pas_n hq55 c56 | (have z9 := hq55; rw [c56] at z9; exact z9))
        · replace hG := gIf_n hG c56
          exact gE2 (P := (fun (r9 : Int32) (S9 : mS) => pas S S9 t r9)) hZ hG (by clear hG hZ; first | exact pas_1 h1 (stp_rf h3) | exact pas_n hq55 c56 | (have z9 := hq55; rw [c56] at z9; exact z9))
  · replace hG := gIf_p hG c26
    rcases Classical.em (((gA S 29 b) : Int32) ≤ 0) with c57 | c57
    · replace hG := gIf_p hG c57
      exact gE2 (P := (fun (r9 : Int32) (S9 : mS) => pas S S9 t r9)) hZ hG (pas_1 h1 w25)
    · replace hG := gIf_n hG c57
      obtain ⟨S58, eS58⟩ : ∃ z : mS, z = sA S 29 b (((gA S 29 b) - 1)) := ⟨_, rfl⟩
      replace hG := gLt_e hG eS58
      have w59 := st_first w25 h5 h2 eS58
      have loop129 : ∀ (N129 : Nat)  (SL129 : mS), (stp S SL129) → ((gA SL129 33 b).toInt.toNat) < N129 → (G_with S t q b = G_with_L129 b N129  SL129) → (fun (r9 : Int32) (S9 : mS) => pas S S9 t r9) rZ SZ := by
        intro N129
        induction N129 with
        | zero => intro  SL129 hi129 hm129; exact absurd hm129 (Nat.not_lt_zero _)
        | succ N129 ih129 =>
          intro  SL129 hi129 hm129 hG
          rw [G_with_L129] at hG
          have w60 := hi129
          rcases (Classical.em (((gA SL129 29 b) : Int32) = 0)).symm with c61 | c61
          · replace hG := gIf_n hG c61
            exact gE2 (P := (fun (r9 : Int32) (S9 : mS) => pas S S9 t r9)) hZ hG (pas_1 h1 w60)
          · replace hG := gIf_p hG c61
            rcases Classical.em (((gA SL129 33 b) : Int32) ≤ 0) with c62 | c62
            · replace hG := gIf_p hG c62
              exact gE2 (P := (fun (r9 : Int32) (S9 : mS) => pas S S9 t r9)) hZ hG (pas_1 h1 w60)
            · replace hG := gIf_n hG c62
              obtain ⟨r64, S63, ghq65⟩ : ∃ (z : Int32) (y : mS), (z, y) = G_firstGoesOn SL129 b := ⟨_, _, rfl⟩
              have hq65 := p_firstGoesOn SL129 b  (h2) (w60.1) (i_gt c62) r64 S63 ghq65
              replace hG := gC_e hG ghq65
              have w66 := stp_tr w60 hq65.1
              exact ih129  S63 (w66) (msd hm129 hq65.2.2.2.1.1 hq65.2.2.2.1.2) hG
      exact loop129 ((gA S58 33 b).toInt.toNat + 1)  S58 (w59) (Nat.lt_succ_self _) hG
set_option maxHeartbeats 400000 in
set_option maxRecDepth 100000 in
theorem pj_with_21 (S : mS) (t : Int32) (q : Int32) (b : Int32)  (h1 : fre S t) (h3 : mInv S)   (rZ : Int32) (SZ : mS) (hj21 : True) (hZ : (rZ, SZ) = G_with S t q b) (hG : G_with S t q b = G_with_J21 S t ) : (fun (r9 : Int32) (S9 : mS) => pas S S9 t r9) rZ SZ := by
  rw [G_with_J21] at hG
  have w67 := stp_rf h3
  obtain ⟨r69, S68, ghq70⟩ : ∃ (z : Int32) (y : mS), (z, y) = G_fails S t 2 := ⟨_, _, rfl⟩
  have hq70 := p_fails S t 2  (h1.1) r69 S68 ghq70
  replace hG := gC_e hG ghq70
  exact gE2 (P := (fun (r9 : Int32) (S9 : mS) => pas S S9 t r9)) hZ hG (by clear hG hZ; obtain ⟨q1, q2⟩ := hq70; rw [q1]; exact pas_f h1 (stp_rf h3) q2)
set_option maxHeartbeats 400000 in
set_option maxRecDepth 100000 in
theorem p_with (S : mS) (t : Int32) (q : Int32) (b : Int32)  (h1 : fre S t) (h3 : mInv S) (rZ : Int32) (SZ : mS) (hZ : (rZ, SZ) = G_with S t q b) : (fun (r9 : Int32) (S9 : mS) => pas S S9 t r9) rZ SZ := by
  have hG := G_with.eq_1 S t q b
  have w0 : stp S S := stp_rf h3
  obtain ⟨r72, ghq73⟩ : ∃ z : Int32, z = G_isThere S b := ⟨_, rfl⟩
  have hq73 := (p_isThere S b   r72 ghq73).2
  replace hG := gLt_e hG ghq73
  rcases Classical.em ((r72 : Int32) = 0) with c74 | c74
  · replace hG := gIf_p hG c74
    exact pj_with_21 S t q b h1 h3   rZ SZ (trivial) hZ hG
  · replace hG := gIf_n hG c74
    have h2 : 0 ≤ b ∧ b < 24 := by rcases hq73 with z | z; exact ⟨z.2.1, z.2.2.1⟩; exact absurd z.1 c74
    obtain ⟨r76, ghq77⟩ : ∃ z : Int32, z = G_kindOf S q := ⟨_, rfl⟩
    have hq77 := (p_kindOf S q   r76 ghq77).2
    replace hG := gLt_e hG ghq77
    rcases Classical.em (((gA S 28 b) : Int32) = r76) with c78 | c78
    · replace hG := gIf_p hG c78
      have hk := hq77
      rw [← c78] at hk
      rcases Classical.em (12 < (q : Int32)) with c79 | c79
      · replace hG := gIf_p hG c79
        rcases Classical.em (16 < (q : Int32)) with c80 | c80
        · replace hG := gIf_p hG c80
          rcases Classical.em (19 < (q : Int32)) with c81 | c81
          · replace hG := gIf_p hG c81
            rcases Classical.em ((q : Int32) < 29) with c82 | c82
            · replace hG := gIf_p hG c82
              rcases Classical.em ((q : Int32) < 23) with c83 | c83
              · replace hG := gIf_p hG c83
                exact pj_with_104 S t q b h1 h3   rZ SZ (⟨h2, by first | exact hk.2.1 c79 (a_22 c83) | exact hk.2.2.2 nope9⟩) hZ hG
              · replace hG := gIf_n hG c83
                rcases Classical.em (26 < (q : Int32)) with c84 | c84
                · replace hG := gIf_p hG c84
                  exact pj_with_104 S t q b h1 h3   rZ SZ (⟨h2, by first | exact hk.2.1 c79 (a_22 c83) | exact hk.2.2.2 c84⟩) hZ hG
                · replace hG := gIf_n hG c84
                  obtain ⟨r86, S85, ghq87⟩ : ∃ (z : Int32) (y : mS), (z, y) = G_atQueue S t q b := ⟨_, _, rfl⟩
                  have hq87 := p_atQueue S t q b  (h1) (h2) (h3) (hk.2.2.1 (a_23 c83) (i_le c84)) r86 S85 ghq87
                  replace hG := gC_e hG ghq87
                  exact gE2 (P := (fun (r9 : Int32) (S9 : mS) => pas S S9 t r9)) hZ hG (hq87)
            · replace hG := gIf_n hG c82
              obtain ⟨r89, S88, ghq90⟩ : ∃ (z : Int32) (y : mS), (z, y) = G_atGate S t q b := ⟨_, _, rfl⟩
              have hq90 := p_atGate S t q b  (h1) (h2) (h3) (hk.2.2.2 (a_29 c82)) r89 S88 ghq90
              replace hG := gC_e hG ghq90
              exact gE2 (P := (fun (r9 : Int32) (S9 : mS) => pas S S9 t r9)) hZ hG (hq90)
          · replace hG := gIf_n hG c81
            obtain ⟨r92, S91, ghq93⟩ : ∃ (z : Int32) (y : mS), (z, y) = G_atSemaphore S t q b := ⟨_, _, rfl⟩
            have hq93 := p_atSemaphore S t q b  (h1) (h2) (h3) (hk.2.1 c79 (a_19 c81)) r92 S91 ghq93
            replace hG := gC_e hG ghq93
            exact gE2 (P := (fun (r9 : Int32) (S9 : mS) => pas S S9 t r9)) hZ hG (hq93)
        · replace hG := gIf_n hG c80
          obtain ⟨r95, S94, ghq96⟩ : ∃ (z : Int32) (y : mS), (z, y) = G_atCell S t q b := ⟨_, _, rfl⟩
          have hq96 := p_atCell S t q b  (h1) (h2) (h3) (hk.2.1 c79 (a_16 c80)) r95 S94 ghq96
          replace hG := gC_e hG ghq96
          exact gE2 (P := (fun (r9 : Int32) (S9 : mS) => pas S S9 t r9)) hZ hG (hq96)
      · replace hG := gIf_n hG c79
        obtain ⟨r98, S97, ghq99⟩ : ∃ (z : Int32) (y : mS), (z, y) = G_atLock S t q b := ⟨_, _, rfl⟩
        have hq99 := p_atLock S t q b  (h1) (h2) (h3) (hk.1 (i_le c79)) r98 S97 ghq99
        replace hG := gC_e hG ghq99
        exact gE2 (P := (fun (r9 : Int32) (S9 : mS) => pas S S9 t r9)) hZ hG (hq99)
    · replace hG := gIf_n hG c78
      exact pj_with_21 S t q b h1 h3   rZ SZ (trivial) hZ hG
set_option maxHeartbeats 400000 in
set_option maxRecDepth 100000 in
theorem pj_one_273 (S : mS) (t : Int32)  (h1 : 0 ≤ t ∧ t < 8) (h2 : mInv S) (h3 : gA S 13 t = 1) (j273_5 : Int32) (SJ273 : mS) (SZ : mS) (hj273 : onP S SJ273 t ∧ 0 ≤ j273_5) (hZ : SZ = G_one S t) (hG : G_one S t = G_one_J273 t j273_5 SJ273) : (fun S9 : mS => mInv S9 ∧ gI S9 2 = gI S 2) SZ := by
  rw [G_one_J273] at hG
  obtain ⟨S1, eS1⟩ : ∃ z : mS, z = sA SJ273 15 t (j273_5) := ⟨_, rfl⟩
  replace hG := gLt_e hG eS1
  rcases Classical.em ((j273_5 : Int32) < (gA S1 12 t)) with c2 | c2
  · replace hG := gIf_p hG c2
    exact gE1 (P := (fun S9 : mS => mInv S9 ∧ gI S9 2 = gI S 2)) hZ hG (by clear hG hZ; first | exact on_nx hj273.1 hj273.2 eS1 c2 | exact on_end hj273.1 eS1 nope9)
  · replace hG := gIf_n hG c2
    obtain ⟨S3, eS3⟩ : ∃ z : mS, z = sA S1 13 t (4) := ⟨_, rfl⟩
    replace hG := gLt_e hG eS3
    exact gE1 (P := (fun S9 : mS => mInv S9 ∧ gI S9 2 = gI S 2)) hZ hG (by clear hG hZ; first | exact on_nx hj273.1 hj273.2 eS1 c2 | exact on_end hj273.1 eS1 eS3)
set_option maxHeartbeats 400000 in
set_option maxRecDepth 100000 in
theorem pj_one_198 (S : mS) (t : Int32)  (h1 : 0 ≤ t ∧ t < 8) (h2 : mInv S) (h3 : gA S 13 t = 1) (j198_4 : Int32) (j198_5 : Int32) (SJ198 : mS) (SZ : mS) (hj198 : (onP S SJ198 t ∧ 0 ≤ j198_5)) (hZ : SZ = G_one S t) (hG : G_one S t = G_one_J198 t j198_4 j198_5 SJ198) : (fun S9 : mS => mInv S9 ∧ gI S9 2 = gI S 2) SZ := by
  have hj198 := And.intro hj198 trivial
  rw [G_one_J198] at hG
  rcases Classical.em ((j198_4 : Int32) ≤ 0) with c4 | c4
  · replace hG := gIf_p hG c4
    exact pj_one_273 S t h1 h2 h3 j198_5 SJ198 SZ (by clear hG hZ; first | exact ⟨on_irr on nope9 (by simp [smK]), o5⟩ | exact ⟨on_irr on nope9 (by simp [smK]), o5⟩ | exact ⟨on_irr (on_irr on nope9 (by simp [smK])) nope9 (by simp [smK]), o5⟩ | exact ⟨on_irr on nope9 (by simp [smK]), o5⟩ | exact ⟨on_pas on nope9 nope9, o5⟩ | exact ⟨on, o5⟩ | exact ⟨hj150.1, hj150.2⟩ | exact hj198.1 | exact ⟨on_irr (on_irr hj198.1.1 nope9 (by simp [smK])) nope9 (by simp [smK]), hj198.1.2⟩) hZ hG
  · replace hG := gIf_n hG c4
    obtain ⟨S5, eS5⟩ : ∃ z : mS, z = sA SJ198 20 t (vp_nar .boolean 0) := ⟨_, rfl⟩
    replace hG := gLt_e hG eS5
    obtain ⟨S6, eS6⟩ : ∃ z : mS, z = sA S5 14 t ((-2)) := ⟨_, rfl⟩
    replace hG := gLt_e hG eS6
    exact pj_one_273 S t h1 h2 h3 j198_5 S6 SZ (by clear hG hZ; first | exact ⟨on_irr on nope9 (by simp [smK]), o5⟩ | exact ⟨on_irr on nope9 (by simp [smK]), o5⟩ | exact ⟨on_irr (on_irr on eS5 (by simp [smK])) eS6 (by simp [smK]), o5⟩ | exact ⟨on_irr on nope9 (by simp [smK]), o5⟩ | exact ⟨on_pas on nope9 nope9, o5⟩ | exact ⟨on, o5⟩ | exact ⟨hj150.1, hj150.2⟩ | exact hj198.1 | exact ⟨on_irr (on_irr hj198.1.1 eS5 (by simp [smK])) eS6 (by simp [smK]), hj198.1.2⟩) hZ hG
set_option maxHeartbeats 400000 in
set_option maxRecDepth 100000 in
theorem pj_one_150 (S : mS) (t : Int32)  (h1 : 0 ≤ t ∧ t < 8) (h2 : mInv S) (h3 : gA S 13 t = 1) (j150_4 : Int32) (SJ150 : mS) (SZ : mS) (hj150 : onP S SJ150 t ∧ 0 ≤ j150_4) (hZ : SZ = G_one S t) (hG : G_one S t = G_one_J150 t j150_4 SJ150) : (fun S9 : mS => mInv S9 ∧ gI S9 2 = gI S 2) SZ := by
  rw [G_one_J150] at hG
  exact pj_one_273 S t h1 h2 h3 j150_4 SJ150 SZ (by clear hG hZ; first | exact ⟨on_irr on nope9 (by simp [smK]), o5⟩ | exact ⟨on_irr on nope9 (by simp [smK]), o5⟩ | exact ⟨on_irr (on_irr on nope9 (by simp [smK])) nope9 (by simp [smK]), o5⟩ | exact ⟨on_irr on nope9 (by simp [smK]), o5⟩ | exact ⟨on_pas on nope9 nope9, o5⟩ | exact ⟨on, o5⟩ | exact ⟨hj150.1, hj150.2⟩ | exact hj198.1 | exact ⟨on_irr (on_irr hj198.1.1 nope9 (by simp [smK])) nope9 (by simp [smK]), hj198.1.2⟩) hZ hG
set_option maxHeartbeats 400000 in
set_option maxRecDepth 100000 in
theorem p_one (S : mS) (t : Int32)  (h1 : 0 ≤ t ∧ t < 8) (h2 : mInv S) (h3 : gA S 13 t = 1) (SZ : mS) (hZ : SZ = G_one S t) : (fun S9 : mS => mInv S9 ∧ gI S9 2 = gI S 2) SZ := by
  have hG := G_one.eq_1 S t
  obtain ⟨S7, eS7⟩ : ∃ z : mS, z = sI S 26 t := ⟨_, rfl⟩
  replace hG := gLt_e hG eS7
  obtain ⟨S8, eS8⟩ : ∃ z : mS, z = sJ S7 25 ((gJ S7 25) + 1) := ⟨_, rfl⟩
  replace hG := gLt_e hG eS8
  obtain ⟨a1, a2, a3⟩ := one_0 h1 h2 eS7 eS8
  have a13 : gA S8 13 t = 1 := (a3 13 t).trans h3
  obtain ⟨r10, ghq11⟩ : ∃ z : Int32, z = G_rowOf S8 t := ⟨_, rfl⟩
  have hq11 := (p_rowOf S8 t  (a1) r10 ghq11).2
  replace hG := gLt_e hG ghq11
  rcases Classical.em ((r10 : Int32) < 0) with c12 | c12
  · replace hG := gIf_p hG c12
    have on : onP S S8 t := ⟨a1, one_f a1 h1 a13 (by rcases hq11 with q | q; exact q.2; exact absurd q.1 (by have z9 := c12; clear a3; grind)), a2⟩
    obtain ⟨r14, ghq15⟩ : ∃ z : Int32, z = G_part S8 t 0 := ⟨_, rfl⟩
    have hq15 := (p_part S8 t 0  (h1) (on_at on) (by clear hG hZ; decide) r14 ghq15).2
    replace hG := gLt_e hG ghq15
    obtain ⟨r17, ghq18⟩ : ∃ z : Int32, z = G_part S8 t 1 := ⟨_, rfl⟩
    have hq18 := (p_part S8 t 1  (h1) (on_at on) (by clear hG hZ; decide) r17 ghq18).2
    replace hG := gLt_e hG ghq18
    obtain ⟨x19, ex19⟩ : ∃ z : Int32, z = ((gA S8 15 t) + 1) := ⟨_, rfl⟩
    replace hG := gLt_e hG ex19
    have o5 : 0 ≤ x19 := a_at (on_at on) ex19
    rcases (Classical.em ((r14 : Int32) = 0)).symm with c20 | c20
    · replace hG := gIf_n hG c20
      rcases (Classical.em ((r14 : Int32) = 1)).symm with c21 | c21
      · replace hG := gIf_n hG c21
        rcases Classical.em ((r14 : Int32) = 2) with c22 | c22
        · replace hG := gIf_p hG c22
          exact pj_one_150 S t h1 h2 h3 r17 S8 SZ (⟨on, on_jmp on.1 on.2.1 hq15 hq18 (by clear hG hZ; first | (rw [c22]; decide) | (rw [nope9]; decide) | (rw [nope9]; decide))⟩) hZ hG
        · replace hG := gIf_n hG c22
          rcases (Classical.em ((r14 : Int32) = 3)).symm with c23 | c23
          · replace hG := gIf_n hG c23
            rcases (Classical.em ((r14 : Int32) = 4)).symm with c24 | c24
            · replace hG := gIf_n hG c24
              rcases (Classical.em ((r14 : Int32) = 5)).symm with c25 | c25
              · replace hG := gIf_n hG c25
                rcases (Classical.em ((r14 : Int32) = 6)).symm with c26 | c26
                · replace hG := gIf_n hG c26
                  rcases (Classical.em ((r14 : Int32) = 33)).symm with c27 | c27
                  · replace hG := gIf_n hG c27
                    rcases Classical.em ((r14 : Int32) ≤ 6) with c28 | c28
                    · replace hG := gIf_p hG c28
                      exact pj_one_273 S t h1 h2 h3 x19 S8 SZ (by clear hG hZ; first | exact ⟨on_irr on nope9 (by simp [smK]), o5⟩ | exact ⟨on_irr on nope9 (by simp [smK]), o5⟩ | exact ⟨on_irr (on_irr on nope9 (by simp [smK])) nope9 (by simp [smK]), o5⟩ | exact ⟨on_irr on nope9 (by simp [smK]), o5⟩ | exact ⟨on_pas on nope9 nope9, o5⟩ | exact ⟨on, o5⟩ | exact ⟨hj150.1, hj150.2⟩ | exact hj198.1 | exact ⟨on_irr (on_irr hj198.1.1 nope9 (by simp [smK])) nope9 (by simp [smK]), hj198.1.2⟩) hZ hG
                    · replace hG := gIf_n hG c28
                      obtain ⟨r30, S29, ghq31⟩ : ∃ (z : Int32) (y : mS), (z, y) = G_with S8 t r14 r17 := ⟨_, _, rfl⟩
                      have hq31 := p_with S8 t r14 r17  (on.2.1) (on.1) r30 S29 ghq31
                      replace hG := gC_e hG ghq31
                      rcases (Classical.em ((r30 : Int32) = 0)).symm with c32 | c32
                      · replace hG := gIf_n hG c32
                        exact pj_one_273 S t h1 h2 h3 x19 S29 SZ (by clear hG hZ; first | exact ⟨on_irr on nope9 (by simp [smK]), o5⟩ | exact ⟨on_irr on nope9 (by simp [smK]), o5⟩ | exact ⟨on_irr (on_irr on nope9 (by simp [smK])) nope9 (by simp [smK]), o5⟩ | exact ⟨on_irr on nope9 (by simp [smK]), o5⟩ | exact ⟨on_pas on hq31 c32, o5⟩ | exact ⟨on, o5⟩ | exact ⟨hj150.1, hj150.2⟩ | exact hj198.1 | exact ⟨on_irr (on_irr hj198.1.1 nope9 (by simp [smK])) nope9 (by simp [smK]), hj198.1.2⟩) hZ hG
                      · replace hG := gIf_p hG c32
                        exact gE1 (P := (fun S9 : mS => mInv S9 ∧ gI S9 2 = gI S 2)) hZ hG (⟨hq31.1, (hq31.2.1 2).trans on.2.2⟩)
                  · replace hG := gIf_p hG c27
                    obtain ⟨S33, eS33⟩ : ∃ z : mS, z = sA S8 14 t ((Int64.toInt32 (gJ S8 24))) := ⟨_, rfl⟩
                    replace hG := gLt_e hG eS33
                    exact pj_one_273 S t h1 h2 h3 x19 S33 SZ (by clear hG hZ; first | exact ⟨on_irr on nope9 (by simp [smK]), o5⟩ | exact ⟨on_irr on nope9 (by simp [smK]), o5⟩ | exact ⟨on_irr (on_irr on nope9 (by simp [smK])) nope9 (by simp [smK]), o5⟩ | exact ⟨on_irr on eS33 (by simp [smK]), o5⟩ | exact ⟨on_pas on nope9 nope9, o5⟩ | exact ⟨on, o5⟩ | exact ⟨hj150.1, hj150.2⟩ | exact hj198.1 | exact ⟨on_irr (on_irr hj198.1.1 nope9 (by simp [smK])) nope9 (by simp [smK]), hj198.1.2⟩) hZ hG
                · replace hG := gIf_p hG c26
                  obtain ⟨S34, eS34⟩ : ∃ z : mS, z = sA S8 13 t (4) := ⟨_, rfl⟩
                  replace hG := gLt_e hG eS34
                  exact gE1 (P := (fun S9 : mS => mInv S9 ∧ gI S9 2 = gI S 2)) hZ hG (on_st on eS34 (Or.inr rfl))
              · replace hG := gIf_p hG c25
                rcases Classical.em ((r17 : Int32) ≤ 0) with c35 | c35
                · replace hG := gIf_p hG c35
                  exact pj_one_198 S t h1 h2 h3 r17 x19 S8 SZ (⟨on, o5⟩) hZ hG
                · replace hG := gIf_n hG c35
                  rcases (Classical.em (((gA S8 20 t) : Int32) = 0)).symm with c36 | c36
                  · replace hG := gIf_n hG c36
                    exact pj_one_198 S t h1 h2 h3 r17 x19 S8 SZ (⟨on, o5⟩) hZ hG
                  · replace hG := gIf_p hG c36
                    obtain ⟨S37, eS37⟩ : ∃ z : mS, z = sA S8 13 t (3) := ⟨_, rfl⟩
                    replace hG := gLt_e hG eS37
                    obtain ⟨S38, eS38⟩ : ∃ z : mS, z = sL S37 23 t (((gJ S37 24) + (Int32.toInt64 r17))) := ⟨_, rfl⟩
                    replace hG := gLt_e hG eS38
                    exact gE1 (P := (fun S9 : mS => mInv S9 ∧ gI S9 2 = gI S 2)) hZ hG (on_L (on_st on eS37 (Or.inl rfl)) eS38)
            · replace hG := gIf_p hG c24
              rcases Classical.em (0 ≤ ((gA S8 14 t) : Int32)) with c39 | c39
              · replace hG := gIf_p hG c39
                rcases (Classical.em ((r14 : Int32) = 5)).symm with c40 | c40
                · replace hG := gIf_n hG c40
                  rcases (Classical.em ((r14 : Int32) = 6)).symm with c41 | c41
                  · replace hG := gIf_n hG c41
                    rcases (Classical.em ((r14 : Int32) = 33)).symm with c42 | c42
                    · replace hG := gIf_n hG c42
                      rcases Classical.em ((r14 : Int32) ≤ 6) with c43 | c43
                      · replace hG := gIf_p hG c43
                        exact pj_one_273 S t h1 h2 h3 x19 S8 SZ (by clear hG hZ; first | exact ⟨on_irr on nope9 (by simp [smK]), o5⟩ | exact ⟨on_irr on nope9 (by simp [smK]), o5⟩ | exact ⟨on_irr (on_irr on nope9 (by simp [smK])) nope9 (by simp [smK]), o5⟩ | exact ⟨on_irr on nope9 (by simp [smK]), o5⟩ | exact ⟨on_pas on nope9 nope9, o5⟩ | exact ⟨on, o5⟩ | exact ⟨hj150.1, hj150.2⟩ | exact hj198.1 | exact ⟨on_irr (on_irr hj198.1.1 nope9 (by simp [smK])) nope9 (by simp [smK]), hj198.1.2⟩) hZ hG
                      · replace hG := gIf_n hG c43
                        obtain ⟨r45, S44, ghq46⟩ : ∃ (z : Int32) (y : mS), (z, y) = G_with S8 t r14 r17 := ⟨_, _, rfl⟩
                        have hq46 := p_with S8 t r14 r17  (on.2.1) (on.1) r45 S44 ghq46
                        replace hG := gC_e hG ghq46
                        rcases (Classical.em ((r45 : Int32) = 0)).symm with c47 | c47
                        · replace hG := gIf_n hG c47
                          exact pj_one_273 S t h1 h2 h3 x19 S44 SZ (by clear hG hZ; first | exact ⟨on_irr on nope9 (by simp [smK]), o5⟩ | exact ⟨on_irr on nope9 (by simp [smK]), o5⟩ | exact ⟨on_irr (on_irr on nope9 (by simp [smK])) nope9 (by simp [smK]), o5⟩ | exact ⟨on_irr on nope9 (by simp [smK]), o5⟩ | exact ⟨on_pas on hq46 c47, o5⟩ | exact ⟨on, o5⟩ | exact ⟨hj150.1, hj150.2⟩ | exact hj198.1 | exact ⟨on_irr (on_irr hj198.1.1 nope9 (by simp [smK])) nope9 (by simp [smK]), hj198.1.2⟩) hZ hG
                        · replace hG := gIf_p hG c47
                          exact gE1 (P := (fun S9 : mS => mInv S9 ∧ gI S9 2 = gI S 2)) hZ hG (⟨hq46.1, (hq46.2.1 2).trans on.2.2⟩)
                    · replace hG := gIf_p hG c42
                      obtain ⟨S48, eS48⟩ : ∃ z : mS, z = sA S8 14 t ((Int64.toInt32 (gJ S8 24))) := ⟨_, rfl⟩
                      replace hG := gLt_e hG eS48
                      exact pj_one_273 S t h1 h2 h3 x19 S48 SZ (by clear hG hZ; first | exact ⟨on_irr on nope9 (by simp [smK]), o5⟩ | exact ⟨on_irr on nope9 (by simp [smK]), o5⟩ | exact ⟨on_irr (on_irr on nope9 (by simp [smK])) nope9 (by simp [smK]), o5⟩ | exact ⟨on_irr on eS48 (by simp [smK]), o5⟩ | exact ⟨on_pas on nope9 nope9, o5⟩ | exact ⟨on, o5⟩ | exact ⟨hj150.1, hj150.2⟩ | exact hj198.1 | exact ⟨on_irr (on_irr hj198.1.1 nope9 (by simp [smK])) nope9 (by simp [smK]), hj198.1.2⟩) hZ hG
                  · replace hG := gIf_p hG c41
                    obtain ⟨S49, eS49⟩ : ∃ z : mS, z = sA S8 13 t (4) := ⟨_, rfl⟩
                    replace hG := gLt_e hG eS49
                    exact gE1 (P := (fun S9 : mS => mInv S9 ∧ gI S9 2 = gI S 2)) hZ hG (on_st on eS49 (Or.inr rfl))
                · replace hG := gIf_p hG c40
                  rcases Classical.em ((r17 : Int32) ≤ 0) with c50 | c50
                  · replace hG := gIf_p hG c50
                    exact pj_one_198 S t h1 h2 h3 r17 x19 S8 SZ (⟨on, o5⟩) hZ hG
                  · replace hG := gIf_n hG c50
                    rcases (Classical.em (((gA S8 20 t) : Int32) = 0)).symm with c51 | c51
                    · replace hG := gIf_n hG c51
                      exact pj_one_198 S t h1 h2 h3 r17 x19 S8 SZ (⟨on, o5⟩) hZ hG
                    · replace hG := gIf_p hG c51
                      obtain ⟨S52, eS52⟩ : ∃ z : mS, z = sA S8 13 t (3) := ⟨_, rfl⟩
                      replace hG := gLt_e hG eS52
                      obtain ⟨S53, eS53⟩ : ∃ z : mS, z = sL S52 23 t (((gJ S52 24) + (Int32.toInt64 r17))) := ⟨_, rfl⟩
                      replace hG := gLt_e hG eS53
                      exact gE1 (P := (fun S9 : mS => mInv S9 ∧ gI S9 2 = gI S 2)) hZ hG (on_L (on_st on eS52 (Or.inl rfl)) eS53)
              · replace hG := gIf_n hG c39
                exact pj_one_150 S t h1 h2 h3 r17 S8 SZ (⟨on, on_jmp on.1 on.2.1 hq15 hq18 (by clear hG hZ; first | (rw [c22]; decide) | (rw [c23]; decide) | (rw [c24]; decide))⟩) hZ hG
          · replace hG := gIf_p hG c23
            rcases Classical.em (((gA S8 14 t) : Int32) = 0) with c54 | c54
            · replace hG := gIf_p hG c54
              exact pj_one_150 S t h1 h2 h3 r17 S8 SZ (⟨on, on_jmp on.1 on.2.1 hq15 hq18 (by clear hG hZ; first | (rw [c22]; decide) | (rw [c23]; decide) | (rw [nope9]; decide))⟩) hZ hG
            · replace hG := gIf_n hG c54
              rcases (Classical.em ((r14 : Int32) = 4)).symm with c55 | c55
              · replace hG := gIf_n hG c55
                rcases (Classical.em ((r14 : Int32) = 5)).symm with c56 | c56
                · replace hG := gIf_n hG c56
                  rcases (Classical.em ((r14 : Int32) = 6)).symm with c57 | c57
                  · replace hG := gIf_n hG c57
                    rcases (Classical.em ((r14 : Int32) = 33)).symm with c58 | c58
                    · replace hG := gIf_n hG c58
                      rcases Classical.em ((r14 : Int32) ≤ 6) with c59 | c59
                      · replace hG := gIf_p hG c59
                        exact pj_one_273 S t h1 h2 h3 x19 S8 SZ (by clear hG hZ; first | exact ⟨on_irr on nope9 (by simp [smK]), o5⟩ | exact ⟨on_irr on nope9 (by simp [smK]), o5⟩ | exact ⟨on_irr (on_irr on nope9 (by simp [smK])) nope9 (by simp [smK]), o5⟩ | exact ⟨on_irr on nope9 (by simp [smK]), o5⟩ | exact ⟨on_pas on nope9 nope9, o5⟩ | exact ⟨on, o5⟩ | exact ⟨hj150.1, hj150.2⟩ | exact hj198.1 | exact ⟨on_irr (on_irr hj198.1.1 nope9 (by simp [smK])) nope9 (by simp [smK]), hj198.1.2⟩) hZ hG
                      · replace hG := gIf_n hG c59
                        obtain ⟨r61, S60, ghq62⟩ : ∃ (z : Int32) (y : mS), (z, y) = G_with S8 t r14 r17 := ⟨_, _, rfl⟩
                        have hq62 := p_with S8 t r14 r17  (on.2.1) (on.1) r61 S60 ghq62
                        replace hG := gC_e hG ghq62
                        rcases (Classical.em ((r61 : Int32) = 0)).symm with c63 | c63
                        · replace hG := gIf_n hG c63
                          exact pj_one_273 S t h1 h2 h3 x19 S60 SZ (by clear hG hZ; first | exact ⟨on_irr on nope9 (by simp [smK]), o5⟩ | exact ⟨on_irr on nope9 (by simp [smK]), o5⟩ | exact ⟨on_irr (on_irr on nope9 (by simp [smK])) nope9 (by simp [smK]), o5⟩ | exact ⟨on_irr on nope9 (by simp [smK]), o5⟩ | exact ⟨on_pas on hq62 c63, o5⟩ | exact ⟨on, o5⟩ | exact ⟨hj150.1, hj150.2⟩ | exact hj198.1 | exact ⟨on_irr (on_irr hj198.1.1 nope9 (by simp [smK])) nope9 (by simp [smK]), hj198.1.2⟩) hZ hG
                        · replace hG := gIf_p hG c63
                          exact gE1 (P := (fun S9 : mS => mInv S9 ∧ gI S9 2 = gI S 2)) hZ hG (⟨hq62.1, (hq62.2.1 2).trans on.2.2⟩)
                    · replace hG := gIf_p hG c58
                      obtain ⟨S64, eS64⟩ : ∃ z : mS, z = sA S8 14 t ((Int64.toInt32 (gJ S8 24))) := ⟨_, rfl⟩
                      replace hG := gLt_e hG eS64
                      exact pj_one_273 S t h1 h2 h3 x19 S64 SZ (by clear hG hZ; first | exact ⟨on_irr on nope9 (by simp [smK]), o5⟩ | exact ⟨on_irr on nope9 (by simp [smK]), o5⟩ | exact ⟨on_irr (on_irr on nope9 (by simp [smK])) nope9 (by simp [smK]), o5⟩ | exact ⟨on_irr on eS64 (by simp [smK]), o5⟩ | exact ⟨on_pas on nope9 nope9, o5⟩ | exact ⟨on, o5⟩ | exact ⟨hj150.1, hj150.2⟩ | exact hj198.1 | exact ⟨on_irr (on_irr hj198.1.1 nope9 (by simp [smK])) nope9 (by simp [smK]), hj198.1.2⟩) hZ hG
                  · replace hG := gIf_p hG c57
                    obtain ⟨S65, eS65⟩ : ∃ z : mS, z = sA S8 13 t (4) := ⟨_, rfl⟩
                    replace hG := gLt_e hG eS65
                    exact gE1 (P := (fun S9 : mS => mInv S9 ∧ gI S9 2 = gI S 2)) hZ hG (on_st on eS65 (Or.inr rfl))
                · replace hG := gIf_p hG c56
                  rcases Classical.em ((r17 : Int32) ≤ 0) with c66 | c66
                  · replace hG := gIf_p hG c66
                    exact pj_one_198 S t h1 h2 h3 r17 x19 S8 SZ (⟨on, o5⟩) hZ hG
                  · replace hG := gIf_n hG c66
                    rcases (Classical.em (((gA S8 20 t) : Int32) = 0)).symm with c67 | c67
                    · replace hG := gIf_n hG c67
                      exact pj_one_198 S t h1 h2 h3 r17 x19 S8 SZ (⟨on, o5⟩) hZ hG
                    · replace hG := gIf_p hG c67
                      obtain ⟨S68, eS68⟩ : ∃ z : mS, z = sA S8 13 t (3) := ⟨_, rfl⟩
                      replace hG := gLt_e hG eS68
                      obtain ⟨S69, eS69⟩ : ∃ z : mS, z = sL S68 23 t (((gJ S68 24) + (Int32.toInt64 r17))) := ⟨_, rfl⟩
                      replace hG := gLt_e hG eS69
                      exact gE1 (P := (fun S9 : mS => mInv S9 ∧ gI S9 2 = gI S 2)) hZ hG (on_L (on_st on eS68 (Or.inl rfl)) eS69)
              · replace hG := gIf_p hG c55
                rcases Classical.em (0 ≤ ((gA S8 14 t) : Int32)) with c70 | c70
                · replace hG := gIf_p hG c70
                  rcases (Classical.em ((r14 : Int32) = 5)).symm with c71 | c71
                  · replace hG := gIf_n hG c71
                    rcases (Classical.em ((r14 : Int32) = 6)).symm with c72 | c72
                    · replace hG := gIf_n hG c72
                      rcases (Classical.em ((r14 : Int32) = 33)).symm with c73 | c73
                      · replace hG := gIf_n hG c73
                        rcases Classical.em ((r14 : Int32) ≤ 6) with c74 | c74
                        · replace hG := gIf_p hG c74
                          exact pj_one_273 S t h1 h2 h3 x19 S8 SZ (by clear hG hZ; first | exact ⟨on_irr on nope9 (by simp [smK]), o5⟩ | exact ⟨on_irr on nope9 (by simp [smK]), o5⟩ | exact ⟨on_irr (on_irr on nope9 (by simp [smK])) nope9 (by simp [smK]), o5⟩ | exact ⟨on_irr on nope9 (by simp [smK]), o5⟩ | exact ⟨on_pas on nope9 nope9, o5⟩ | exact ⟨on, o5⟩ | exact ⟨hj150.1, hj150.2⟩ | exact hj198.1 | exact ⟨on_irr (on_irr hj198.1.1 nope9 (by simp [smK])) nope9 (by simp [smK]), hj198.1.2⟩) hZ hG
                        · replace hG := gIf_n hG c74
                          obtain ⟨r76, S75, ghq77⟩ : ∃ (z : Int32) (y : mS), (z, y) = G_with S8 t r14 r17 := ⟨_, _, rfl⟩
                          have hq77 := p_with S8 t r14 r17  (on.2.1) (on.1) r76 S75 ghq77
                          replace hG := gC_e hG ghq77
                          rcases (Classical.em ((r76 : Int32) = 0)).symm with c78 | c78
                          · replace hG := gIf_n hG c78
                            exact pj_one_273 S t h1 h2 h3 x19 S75 SZ (by clear hG hZ; first | exact ⟨on_irr on nope9 (by simp [smK]), o5⟩ | exact ⟨on_irr on nope9 (by simp [smK]), o5⟩ | exact ⟨on_irr (on_irr on nope9 (by simp [smK])) nope9 (by simp [smK]), o5⟩ | exact ⟨on_irr on nope9 (by simp [smK]), o5⟩ | exact ⟨on_pas on hq77 c78, o5⟩ | exact ⟨on, o5⟩ | exact ⟨hj150.1, hj150.2⟩ | exact hj198.1 | exact ⟨on_irr (on_irr hj198.1.1 nope9 (by simp [smK])) nope9 (by simp [smK]), hj198.1.2⟩) hZ hG
                          · replace hG := gIf_p hG c78
                            exact gE1 (P := (fun S9 : mS => mInv S9 ∧ gI S9 2 = gI S 2)) hZ hG (⟨hq77.1, (hq77.2.1 2).trans on.2.2⟩)
                      · replace hG := gIf_p hG c73
                        obtain ⟨S79, eS79⟩ : ∃ z : mS, z = sA S8 14 t ((Int64.toInt32 (gJ S8 24))) := ⟨_, rfl⟩
                        replace hG := gLt_e hG eS79
                        exact pj_one_273 S t h1 h2 h3 x19 S79 SZ (by clear hG hZ; first | exact ⟨on_irr on nope9 (by simp [smK]), o5⟩ | exact ⟨on_irr on nope9 (by simp [smK]), o5⟩ | exact ⟨on_irr (on_irr on nope9 (by simp [smK])) nope9 (by simp [smK]), o5⟩ | exact ⟨on_irr on eS79 (by simp [smK]), o5⟩ | exact ⟨on_pas on nope9 nope9, o5⟩ | exact ⟨on, o5⟩ | exact ⟨hj150.1, hj150.2⟩ | exact hj198.1 | exact ⟨on_irr (on_irr hj198.1.1 nope9 (by simp [smK])) nope9 (by simp [smK]), hj198.1.2⟩) hZ hG
                    · replace hG := gIf_p hG c72
                      obtain ⟨S80, eS80⟩ : ∃ z : mS, z = sA S8 13 t (4) := ⟨_, rfl⟩
                      replace hG := gLt_e hG eS80
                      exact gE1 (P := (fun S9 : mS => mInv S9 ∧ gI S9 2 = gI S 2)) hZ hG (on_st on eS80 (Or.inr rfl))
                  · replace hG := gIf_p hG c71
                    rcases Classical.em ((r17 : Int32) ≤ 0) with c81 | c81
                    · replace hG := gIf_p hG c81
                      exact pj_one_198 S t h1 h2 h3 r17 x19 S8 SZ (⟨on, o5⟩) hZ hG
                    · replace hG := gIf_n hG c81
                      rcases (Classical.em (((gA S8 20 t) : Int32) = 0)).symm with c82 | c82
                      · replace hG := gIf_n hG c82
                        exact pj_one_198 S t h1 h2 h3 r17 x19 S8 SZ (⟨on, o5⟩) hZ hG
                      · replace hG := gIf_p hG c82
                        obtain ⟨S83, eS83⟩ : ∃ z : mS, z = sA S8 13 t (3) := ⟨_, rfl⟩
                        replace hG := gLt_e hG eS83
                        obtain ⟨S84, eS84⟩ : ∃ z : mS, z = sL S83 23 t (((gJ S83 24) + (Int32.toInt64 r17))) := ⟨_, rfl⟩
                        replace hG := gLt_e hG eS84
                        exact gE1 (P := (fun S9 : mS => mInv S9 ∧ gI S9 2 = gI S 2)) hZ hG (on_L (on_st on eS83 (Or.inl rfl)) eS84)
                · replace hG := gIf_n hG c70
                  exact pj_one_150 S t h1 h2 h3 r17 S8 SZ (⟨on, on_jmp on.1 on.2.1 hq15 hq18 (by clear hG hZ; first | (rw [c22]; decide) | (rw [c23]; decide) | (rw [c55]; decide))⟩) hZ hG
      · replace hG := gIf_p hG c21
        obtain ⟨S85, eS85⟩ : ∃ z : mS, z = sA S8 14 t (((gA S8 14 t) + r17)) := ⟨_, rfl⟩
        replace hG := gLt_e hG eS85
        exact pj_one_273 S t h1 h2 h3 x19 S85 SZ (by clear hG hZ; first | exact ⟨on_irr on nope9 (by simp [smK]), o5⟩ | exact ⟨on_irr on eS85 (by simp [smK]), o5⟩ | exact ⟨on_irr (on_irr on nope9 (by simp [smK])) nope9 (by simp [smK]), o5⟩ | exact ⟨on_irr on nope9 (by simp [smK]), o5⟩ | exact ⟨on_pas on nope9 nope9, o5⟩ | exact ⟨on, o5⟩ | exact ⟨hj150.1, hj150.2⟩ | exact hj198.1 | exact ⟨on_irr (on_irr hj198.1.1 nope9 (by simp [smK])) nope9 (by simp [smK]), hj198.1.2⟩) hZ hG
    · replace hG := gIf_p hG c20
      obtain ⟨S86, eS86⟩ : ∃ z : mS, z = sA S8 14 t (r17) := ⟨_, rfl⟩
      replace hG := gLt_e hG eS86
      exact pj_one_273 S t h1 h2 h3 x19 S86 SZ (by clear hG hZ; first | exact ⟨on_irr on eS86 (by simp [smK]), o5⟩ | exact ⟨on_irr on nope9 (by simp [smK]), o5⟩ | exact ⟨on_irr (on_irr on nope9 (by simp [smK])) nope9 (by simp [smK]), o5⟩ | exact ⟨on_irr on nope9 (by simp [smK]), o5⟩ | exact ⟨on_pas on nope9 nope9, o5⟩ | exact ⟨on, o5⟩ | exact ⟨hj150.1, hj150.2⟩ | exact hj198.1 | exact ⟨on_irr (on_irr hj198.1.1 nope9 (by simp [smK])) nope9 (by simp [smK]), hj198.1.2⟩) hZ hG
  · replace hG := gIf_n hG c12
    have b9 : (0 ≤ r10 ∧ r10 < 24) ∧ gA S8 28 r10 = 1 ∧ ∃ i, 0 ≤ i ∧ i < gA S8 33 r10 ∧ gA S8 32 (8 * r10 + i) = t := by
      rcases hq11 with q | q
      · exact absurd (show r10 < 0 by rw [q.1]; decide) c12
      · exact ⟨⟨q.1, q.2.1⟩, q.2.2.1, q.2.2.2⟩
    rcases Classical.em (0 ≤ ((gA S8 31 r10) : Int32)) with c87 | c87
    · replace hG := gIf_p hG c87
      obtain ⟨S88, eS88⟩ : ∃ z : mS, z = sA S8 13 t (2) := ⟨_, rfl⟩
      replace hG := gLt_e hG eS88
      obtain ⟨S89, eS89⟩ : ∃ z : mS, z = sA S88 16 t (r10) := ⟨_, rfl⟩
      replace hG := gLt_e hG eS89
      exact gE1 (P := (fun S9 : mS => mInv S9 ∧ gI S9 2 = gI S 2)) hZ hG (by clear hG hZ; first | exact ⟨nope9.1.1, (nope9.1.2.1 2).trans a2⟩ | (obtain ⟨q1, q2⟩ := one_w b9.1 a1 b9.2.2 eS88 eS89; exact ⟨q1, q2.trans a2⟩))
    · replace hG := gIf_n hG c87
      obtain ⟨S90, ghq92⟩ : ∃ z : mS, z = G_has S8 r10 t := ⟨_, rfl⟩
      have hq92 := p_has S8 r10 t  (b9.1) (a1) (b9.2.1) (b9.2.2) S90 ghq92
      replace hG := gLt_e hG ghq92
      exact gE1 (P := (fun S9 : mS => mInv S9 ∧ gI S9 2 = gI S 2)) hZ hG (by clear hG hZ; first | exact ⟨hq92.1.1, (hq92.1.2.1 2).trans a2⟩ | (obtain ⟨q1, q2⟩ := one_w b9.1 a1 b9.2.2 nope9 nope9; exact ⟨q1, q2.trans a2⟩))

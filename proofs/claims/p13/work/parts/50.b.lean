set_option maxHeartbeats 2000000 in
set_option maxRecDepth 100000 in
theorem p_next (S : mS)   (h1 : 0 ≤ gI S 9 ∧ gI S 9 ≤ gI S 7 ∧ gI S 7 ≤ 1600) (SZ : mS) (hZ : SZ = G_next S ) : (fun S9 : mS => 0 ≤ gI S9 8 ∧ gI S9 8 ≤ gI S9 9 ∧ gI S9 9 ≤ gI S9 7 ∧ gI S9 7 ≤ 1600 ∧ (gI S9 8 < gI S9 7 → gI S9 8 < gI S9 9) ∧ gI S 9 ≤ gI S9 8 ∧ (∀ k, k ≠ 8 → k ≠ 9 → gI S9 k = gI S k) ∧ (∀ k, gJ S9 k = gJ S k) ∧ (∀ k i, gA S9 k i = gA S k i) ∧ (∀ k i, gL S9 k i = gL S k i)) SZ := by
  have hG := G_next.eq_1 S 
  obtain ⟨S1, eS1⟩ : ∃ z : mS, z = sI S 8 (gI S 9) := ⟨_, rfl⟩
  replace hG := gLt_e hG eS1
  have loop8 : ∀ (N8 : Nat)  (SL8 : mS), (gI S 9 ≤ gI SL8 8 ∧ gI SL8 8 ≤ gI S 7 ∧ (∀ k, k ≠ 8 → gI SL8 k = gI S k) ∧ (∀ k, gJ SL8 k = gJ S k) ∧ (∀ k i, gA SL8 k i = gA S k i) ∧ (∀ k i, gL SL8 k i = gL S k i)) → ((gI S 7 - gI SL8 8).toInt.toNat) < N8 → (G_next S  = G_next_L8 S N8  SL8) → (fun S9 : mS => 0 ≤ gI S9 8 ∧ gI S9 8 ≤ gI S9 9 ∧ gI S9 9 ≤ gI S9 7 ∧ gI S9 7 ≤ 1600 ∧ (gI S9 8 < gI S9 7 → gI S9 8 < gI S9 9) ∧ gI S 9 ≤ gI S9 8 ∧ (∀ k, k ≠ 8 → k ≠ 9 → gI S9 k = gI S k) ∧ (∀ k, gJ S9 k = gJ S k) ∧ (∀ k i, gA S9 k i = gA S k i) ∧ (∀ k i, gL S9 k i = gL S k i)) SZ := by
    intro N8
    induction N8 with
    | zero => intro  SL8 hi8 hm8; exact absurd hm8 (Nat.not_lt_zero _)
    | succ N8 ih8 =>
      intro  SL8 hi8 hm8 hG
      rw [G_next_L8] at hG
      obtain ⟨r3, ghq4⟩ : ∃ z : Int32, z = G_byteAt SL8 (gI SL8 8) := ⟨_, rfl⟩
      have hq4 := (p_byteAt SL8 (gI SL8 8)  (by clear hG hZ ih8 hm8; grind [gI_sI, gI_sJ, gI_sA, gI_sL, gJ_sI, gJ_sJ, gJ_sA, gJ_sL, gA_sI, gA_sJ, gA_sA, gA_sL, gL_sI, gL_sJ, gL_sA, gL_sL]) r3 ghq4).2
      replace hG := gLt_e hG ghq4
      rcases (Classical.em ((r3 : Int32) = 32)).symm with c5 | c5
      · replace hG := gIf_n hG c5
        obtain ⟨S6, eS6⟩ : ∃ z : mS, z = sI SL8 9 (gI SL8 8) := ⟨_, rfl⟩
        replace hG := gLt_e hG eS6
        obtain ⟨r8, ghq9⟩ : ∃ z : Int32, z = G_byteAt S6 (gI S6 9) := ⟨_, rfl⟩
        have hq9 := (p_byteAt S6 (gI S6 9)  (by clear hG hZ ih8 hm8; grind [gI_sI, gI_sJ, gI_sA, gI_sL, gJ_sI, gJ_sJ, gJ_sA, gJ_sL, gA_sI, gA_sJ, gA_sA, gA_sL, gL_sI, gL_sJ, gL_sA, gL_sL]) r8 ghq9).2
        replace hG := gLt_e hG ghq9
        rcases (Classical.em ((r8 : Int32) = 59)).symm with c10 | c10
        · replace hG := gIf_n hG c10
          have loop66 : ∀ (N66 : Nat)  (SL66 : mS), (0 ≤ gI SL66 8 ∧ gI S 9 ≤ gI SL66 8 ∧ gI SL66 8 ≤ gI SL66 9 ∧ gI SL66 9 ≤ gI S 7 ∧ (gI SL66 8 = gI SL66 9 → gI SL66 8 < gI S 7 → gA S 1 (gI SL66 9) ≠ 32 ∧ gA S 1 (gI SL66 9) ≠ 59) ∧ (∀ k, k ≠ 8 → k ≠ 9 → gI SL66 k = gI S k) ∧ (∀ k, gJ SL66 k = gJ S k) ∧ (∀ k i, gA SL66 k i = gA S k i) ∧ (∀ k i, gL SL66 k i = gL S k i)) → ((gI S 7 - gI SL66 9).toInt.toNat) < N66 → (G_next S  = G_next_L66  N66  SL66) → (fun S9 : mS => 0 ≤ gI S9 8 ∧ gI S9 8 ≤ gI S9 9 ∧ gI S9 9 ≤ gI S9 7 ∧ gI S9 7 ≤ 1600 ∧ (gI S9 8 < gI S9 7 → gI S9 8 < gI S9 9) ∧ gI S 9 ≤ gI S9 8 ∧ (∀ k, k ≠ 8 → k ≠ 9 → gI S9 k = gI S k) ∧ (∀ k, gJ S9 k = gJ S k) ∧ (∀ k i, gA S9 k i = gA S k i) ∧ (∀ k i, gL S9 k i = gL S k i)) SZ := by
            intro N66
            induction N66 with
            | zero => intro  SL66 hi66 hm66; exact absurd hm66 (Nat.not_lt_zero _)
            | succ N66 ih66 =>
              intro  SL66 hi66 hm66 hG
              rw [G_next_L66] at hG
              rcases Classical.em ((gI SL66 7) ≤ ((gI SL66 9) : Int32)) with c11 | c11
              · replace hG := gIf_p hG c11
                exact gE1 (P := (fun S9 : mS => 0 ≤ gI S9 8 ∧ gI S9 8 ≤ gI S9 9 ∧ gI S9 9 ≤ gI S9 7 ∧ gI S9 7 ≤ 1600 ∧ (gI S9 8 < gI S9 7 → gI S9 8 < gI S9 9) ∧ gI S 9 ≤ gI S9 8 ∧ (∀ k, k ≠ 8 → k ≠ 9 → gI S9 k = gI S k) ∧ (∀ k, gJ S9 k = gJ S k) ∧ (∀ k i, gA S9 k i = gA S k i) ∧ (∀ k i, gL S9 k i = gL S k i))) hZ hG (by clear hG hZ ih8 ih66 hm8 hm66; grind [gI_sI, gI_sJ, gI_sA, gI_sL, gJ_sI, gJ_sJ, gJ_sA, gJ_sL, gA_sI, gA_sJ, gA_sA, gA_sL, gL_sI, gL_sJ, gL_sA, gL_sL])
              · replace hG := gIf_n hG c11
                rcases Classical.em (((gA SL66 1 (gI SL66 9)) : Int32) = 32) with c12 | c12
                · replace hG := gIf_p hG c12
                  exact gE1 (P := (fun S9 : mS => 0 ≤ gI S9 8 ∧ gI S9 8 ≤ gI S9 9 ∧ gI S9 9 ≤ gI S9 7 ∧ gI S9 7 ≤ 1600 ∧ (gI S9 8 < gI S9 7 → gI S9 8 < gI S9 9) ∧ gI S 9 ≤ gI S9 8 ∧ (∀ k, k ≠ 8 → k ≠ 9 → gI S9 k = gI S k) ∧ (∀ k, gJ S9 k = gJ S k) ∧ (∀ k i, gA S9 k i = gA S k i) ∧ (∀ k i, gL S9 k i = gL S k i))) hZ hG (by clear hG hZ ih8 ih66 hm8 hm66; grind [gI_sI, gI_sJ, gI_sA, gI_sL, gJ_sI, gJ_sJ, gJ_sA, gJ_sL, gA_sI, gA_sJ, gA_sA, gA_sL, gL_sI, gL_sJ, gL_sA, gL_sL])
                · replace hG := gIf_n hG c12
                  rcases Classical.em (((gA SL66 1 (gI SL66 9)) : Int32) = 59) with c13 | c13
                  · replace hG := gIf_p hG c13
                    exact gE1 (P := (fun S9 : mS => 0 ≤ gI S9 8 ∧ gI S9 8 ≤ gI S9 9 ∧ gI S9 9 ≤ gI S9 7 ∧ gI S9 7 ≤ 1600 ∧ (gI S9 8 < gI S9 7 → gI S9 8 < gI S9 9) ∧ gI S 9 ≤ gI S9 8 ∧ (∀ k, k ≠ 8 → k ≠ 9 → gI S9 k = gI S k) ∧ (∀ k, gJ S9 k = gJ S k) ∧ (∀ k i, gA S9 k i = gA S k i) ∧ (∀ k i, gL S9 k i = gL S k i))) hZ hG (by clear hG hZ ih8 ih66 hm8 hm66; grind [gI_sI, gI_sJ, gI_sA, gI_sL, gJ_sI, gJ_sJ, gJ_sA, gJ_sL, gA_sI, gA_sJ, gA_sA, gA_sL, gL_sI, gL_sJ, gL_sA, gL_sL])
                  · replace hG := gIf_n hG c13
                    obtain ⟨S14, eS14⟩ : ∃ z : mS, z = sI SL66 9 ((gI SL66 9) + 1) := ⟨_, rfl⟩
                    replace hG := gLt_e hG eS14
                    exact ih66  S14 (by clear hG hZ ih8 ih66 hm8 hm66; grind [gI_sI, gI_sJ, gI_sA, gI_sL, gJ_sI, gJ_sJ, gJ_sA, gJ_sL, gA_sI, gA_sJ, gA_sA, gA_sL, gL_sI, gL_sJ, gL_sA, gL_sL]) (msd hm66 (by clear hG hZ ih8 ih66 hm8 hm66; grind [gI_sI, gI_sJ, gI_sA, gI_sL, gJ_sI, gJ_sJ, gJ_sA, gJ_sL, gA_sI, gA_sJ, gA_sA, gA_sL, gL_sI, gL_sJ, gL_sA, gL_sL]) (by clear hG hZ ih8 ih66 hm8 hm66; grind [gI_sI, gI_sJ, gI_sA, gI_sL, gJ_sI, gJ_sJ, gJ_sA, gJ_sL, gA_sI, gA_sJ, gA_sA, gA_sL, gL_sI, gL_sJ, gL_sA, gL_sL])) hG
          exact loop66 ((gI S 7 - gI S6 9).toInt.toNat + 1)  S6 (by clear hG hZ ih8 hm8; grind [gI_sI, gI_sJ, gI_sA, gI_sL, gJ_sI, gJ_sJ, gJ_sA, gJ_sL, gA_sI, gA_sJ, gA_sA, gA_sL, gL_sI, gL_sJ, gL_sA, gL_sL]) (Nat.lt_succ_self _) hG
        · replace hG := gIf_p hG c10
          obtain ⟨S15, eS15⟩ : ∃ z : mS, z = sI S6 9 ((gI S6 9) + 1) := ⟨_, rfl⟩
          replace hG := gLt_e hG eS15
          exact gE1 (P := (fun S9 : mS => 0 ≤ gI S9 8 ∧ gI S9 8 ≤ gI S9 9 ∧ gI S9 9 ≤ gI S9 7 ∧ gI S9 7 ≤ 1600 ∧ (gI S9 8 < gI S9 7 → gI S9 8 < gI S9 9) ∧ gI S 9 ≤ gI S9 8 ∧ (∀ k, k ≠ 8 → k ≠ 9 → gI S9 k = gI S k) ∧ (∀ k, gJ S9 k = gJ S k) ∧ (∀ k i, gA S9 k i = gA S k i) ∧ (∀ k i, gL S9 k i = gL S k i))) hZ hG (by clear hG hZ ih8 hm8; grind [gI_sI, gI_sJ, gI_sA, gI_sL, gJ_sI, gJ_sJ, gJ_sA, gJ_sL, gA_sI, gA_sJ, gA_sA, gA_sL, gL_sI, gL_sJ, gL_sA, gL_sL])
      · replace hG := gIf_p hG c5
        obtain ⟨S16, eS16⟩ : ∃ z : mS, z = sI SL8 8 ((gI SL8 8) + 1) := ⟨_, rfl⟩
        replace hG := gLt_e hG eS16
        exact ih8  S16 (by clear hG hZ ih8 hm8; grind [gI_sI, gI_sJ, gI_sA, gI_sL, gJ_sI, gJ_sJ, gJ_sA, gJ_sL, gA_sI, gA_sJ, gA_sA, gA_sL, gL_sI, gL_sJ, gL_sA, gL_sL]) (msd hm8 (by clear hG hZ ih8 hm8; grind [gI_sI, gI_sJ, gI_sA, gI_sL, gJ_sI, gJ_sJ, gJ_sA, gJ_sL, gA_sI, gA_sJ, gA_sA, gA_sL, gL_sI, gL_sJ, gL_sA, gL_sL]) (by clear hG hZ ih8 hm8; grind [gI_sI, gI_sJ, gI_sA, gI_sL, gJ_sI, gJ_sJ, gJ_sA, gJ_sL, gA_sI, gA_sJ, gA_sA, gA_sL, gL_sI, gL_sJ, gL_sA, gL_sL])) hG
  exact loop8 ((gI S 7 - gI S1 8).toInt.toNat + 1)  S1 (by clear hG hZ; subst_vars; grind [gI_sI, gI_sJ, gI_sA, gI_sL, gJ_sI, gJ_sJ, gJ_sA, gJ_sL, gA_sI, gA_sJ, gA_sA, gA_sL, gL_sI, gL_sJ, gL_sA, gL_sL]) (Nat.lt_succ_self _) hG
set_option maxHeartbeats 2000000 in
set_option maxRecDepth 100000 in
theorem pj_word_41 (S : mS)   (h1 : 0 ≤ gI S 8 ∧ gI S 8 ≤ gI S 9 ∧ gI S 9 ≤ gI S 7 ∧ gI S 7 ≤ 1600 ∧ (gI S 8 < gI S 7 → gI S 8 < gI S 9)) (j41_1 : Int64)  (rZ : Int32) (hj41 : True) (hZ : rZ = G_word S ) (hG : G_word S  = G_word_J41 S j41_1) : (fun r9 : Int32 => S = S ∧ -1 ≤ r9 ∧ r9 < 34) rZ := by
  rw [G_word_J41] at hG
  obtain ⟨x1, ex1⟩ : ∃ z : Int32, z = (gI S 8) := ⟨_, rfl⟩
  replace hG := gLt_e hG ex1
  have loop46 : ∀ (N46 : Nat) (v46_1 : Int64) (v46_3 : Int32) , (0 ≤ v46_3 ∧ v46_3 ≤ gI S 9) → ((gI S 9 - v46_3).toInt.toNat) < N46 → (G_word S  = G_word_L46 S N46 v46_1 v46_3) → (fun r9 : Int32 => S = S ∧ -1 ≤ r9 ∧ r9 < 34) rZ := by
    intro N46
    induction N46 with
    | zero => intro v46_1 v46_3  hi46 hm46; exact absurd hm46 (Nat.not_lt_zero _)
    | succ N46 ih46 =>
      intro v46_1 v46_3  hi46 hm46 hG
      rw [G_word_L46] at hG
      rcases Classical.em ((gI S 9) ≤ (v46_3 : Int32)) with c2 | c2
      · replace hG := gIf_p hG c2
        obtain ⟨x3, ex3⟩ : ∃ z : Int32, z = 0 := ⟨_, rfl⟩
        replace hG := gLt_e hG ex3
        have loop75 : ∀ (N75 : Nat) (v75_3 : Int32) , (0 ≤ v75_3 ∧ v75_3 ≤ 34) → ((34 - v75_3).toInt.toNat) < N75 → (G_word S  = G_word_L75 S v46_1 N75 v75_3) → (fun r9 : Int32 => S = S ∧ -1 ≤ r9 ∧ r9 < 34) rZ := by
          intro N75
          induction N75 with
          | zero => intro v75_3  hi75 hm75; exact absurd hm75 (Nat.not_lt_zero _)
          | succ N75 ih75 =>
            intro v75_3  hi75 hm75 hG
            rw [G_word_L75] at hG
            rcases Classical.em (34 ≤ (v75_3 : Int32)) with c4 | c4
            · replace hG := gIf_p hG c4
              exact gE1 (P := (fun r9 : Int32 => S = S ∧ -1 ≤ r9 ∧ r9 < 34)) hZ hG (⟨rfl, by clear hG hZ; grind⟩)
            · replace hG := gIf_n hG c4
              rcases (Classical.em (((lg_cmp (gL S 4 v75_3) v46_1) : Int32) = 0)).symm with c5 | c5
              · replace hG := gIf_n hG c5
                obtain ⟨x6, ex6⟩ : ∃ z : Int32, z = v75_3 + (1) := ⟨_, rfl⟩
                replace hG := gLt_e hG ex6
                exact ih75 x6  (by clear hG hZ ih46 ih75 hm46 hm75; subst_vars; grind) (msd hm75 (by clear hG hZ ih46 ih75 hm46 hm75; subst_vars; grind) (by clear hG hZ ih46 ih75 hm46 hm75; subst_vars; grind)) hG
              · replace hG := gIf_p hG c5
                exact gE1 (P := (fun r9 : Int32 => S = S ∧ -1 ≤ r9 ∧ r9 < 34)) hZ hG (⟨rfl, by clear hG hZ; grind⟩)
        exact loop75 ((34 - x3).toInt.toNat + 1) x3  (by clear hG hZ ih46 hm46; subst_vars; grind) (Nat.lt_succ_self _) hG
      · replace hG := gIf_n hG c2
        obtain ⟨x7, ex7⟩ : ∃ z : Int64, z = (v46_1 : Int64) <<< (Int32.toInt64 8 &&& 63) := ⟨_, rfl⟩
        replace hG := gLt_e hG ex7
        obtain ⟨x8, ex8⟩ : ∃ z : Int64, z = (x7 ||| (Int32.toInt64 (gA S 1 v46_3))) := ⟨_, rfl⟩
        replace hG := gLt_e hG ex8
        obtain ⟨x9, ex9⟩ : ∃ z : Int32, z = v46_3 + (1) := ⟨_, rfl⟩
        replace hG := gLt_e hG ex9
        exact ih46 x8 x9  (by clear hG hZ ih46 hm46; subst_vars; grind) (msd hm46 (by clear hG hZ ih46 hm46; subst_vars; grind) (by clear hG hZ ih46 hm46; subst_vars; grind)) hG
  exact loop46 ((gI S 9 - x1).toInt.toNat + 1) j41_1 x1  (by clear hG hZ; subst_vars; grind) (Nat.lt_succ_self _) hG
set_option maxHeartbeats 2000000 in
set_option maxRecDepth 100000 in
theorem p_word (S : mS)   (h1 : 0 ≤ gI S 8 ∧ gI S 8 ≤ gI S 9 ∧ gI S 9 ≤ gI S 7 ∧ gI S 7 ≤ 1600 ∧ (gI S 8 < gI S 7 → gI S 8 < gI S 9)) (rZ : Int32) (hZ : rZ = G_word S ) : (fun r9 : Int32 => S = S ∧ -1 ≤ r9 ∧ r9 < 34) rZ := by
  have hG := G_word.eq_1 S 
  obtain ⟨x10, ex10⟩ : ∃ z : Int64, z = 0 := ⟨_, rfl⟩
  replace hG := gLt_e hG ex10
  rcases Classical.em (7 < (((gI S 9) - (gI S 8)) : Int32)) with c11 | c11
  · replace hG := gIf_p hG c11
    exact gE1 (P := (fun r9 : Int32 => S = S ∧ -1 ≤ r9 ∧ r9 < 34)) hZ hG (⟨rfl, by clear hG hZ; grind⟩)
  · replace hG := gIf_n hG c11
    rcases Classical.em (((gI S 9) : Int32) ≤ (gI S 8)) with c12 | c12
    · replace hG := gIf_p hG c12
      exact pj_word_41 S  h1 x10  rZ (trivial) hZ hG
    · replace hG := gIf_n hG c12
      rcases (Classical.em (((gA S 1 (gI S 8)) : Int32) = 0)).symm with c13 | c13
      · replace hG := gIf_n hG c13
        exact pj_word_41 S  h1 x10  rZ (trivial) hZ hG
      · replace hG := gIf_p hG c13
        exact gE1 (P := (fun r9 : Int32 => S = S ∧ -1 ≤ r9 ∧ r9 < 34)) hZ hG (⟨rfl, by clear hG hZ; grind⟩)
set_option maxHeartbeats 2000000 in
set_option maxRecDepth 100000 in
theorem pj_number_130 (S : mS) (lo : Int32) (hi : Int32)  (h1 : 0 ≤ gI S 8 ∧ gI S 8 ≤ gI S 9 ∧ gI S 9 ≤ gI S 7 ∧ gI S 7 ≤ 1600 ∧ (gI S 8 < gI S 7 → gI S 8 < gI S 9)) (j130_5 : Int32)  (rZ : Int32) (SZ : mS) (hj130 : gI S 10 < 0) (hZ : (rZ, SZ) = G_number S lo hi) (hG : G_number S lo hi = G_number_J130 S lo hi j130_5) : (fun (r9 : Int32) (S9 : mS) => ((lo ≤ r9 ∧ r9 ≤ hi) ∨ r9 = 0) ∧ 0 ≤ gI S9 8 ∧ gI S9 8 ≤ gI S9 9 ∧ gI S9 9 ≤ gI S9 7 ∧ gI S9 7 ≤ 1600 ∧ (gI S9 8 < gI S9 7 → gI S9 8 < gI S9 9) ∧ gI S 8 ≤ gI S9 8 ∧ (0 ≤ gI S 10 → 0 ≤ gI S9 10) ∧ (∀ k, k ≠ 8 → k ≠ 9 → k ≠ 10 → gI S9 k = gI S k) ∧ (∀ k, gJ S9 k = gJ S k) ∧ (∀ k i, gA S9 k i = gA S k i) ∧ (∀ k i, gL S9 k i = gL S k i)) rZ SZ := by
  rw [G_number_J130] at hG
  obtain ⟨r2, ghq3⟩ : ∃ z : Int32, z = G_in S j130_5 lo hi := ⟨_, rfl⟩
  have hq3 := (p_in S j130_5 lo hi   r2 ghq3).2
  replace hG := gLt_e hG ghq3
  rcases (Classical.em ((r2 : Int32) = 0)).symm with c4 | c4
  · replace hG := gIf_n hG c4
    obtain ⟨S5, ghq7⟩ : ∃ z : mS, z = G_next S  := ⟨_, rfl⟩
    have hq7 := p_next S   (by clear hG hZ; grind) S5 ghq7
    replace hG := gLt_e hG ghq7
    exact gE2 (P := (fun (r9 : Int32) (S9 : mS) => ((lo ≤ r9 ∧ r9 ≤ hi) ∨ r9 = 0) ∧ 0 ≤ gI S9 8 ∧ gI S9 8 ≤ gI S9 9 ∧ gI S9 9 ≤ gI S9 7 ∧ gI S9 7 ≤ 1600 ∧ (gI S9 8 < gI S9 7 → gI S9 8 < gI S9 9) ∧ gI S 8 ≤ gI S9 8 ∧ (0 ≤ gI S 10 → 0 ≤ gI S9 10) ∧ (∀ k, k ≠ 8 → k ≠ 9 → k ≠ 10 → gI S9 k = gI S k) ∧ (∀ k, gJ S9 k = gJ S k) ∧ (∀ k i, gA S9 k i = gA S k i) ∧ (∀ k i, gL S9 k i = gL S k i))) hZ hG (by clear hG hZ; grind [gI_sI, gI_sJ, gI_sA, gI_sL, gJ_sI, gJ_sJ, gJ_sA, gJ_sL, gA_sI, gA_sJ, gA_sA, gA_sL, gL_sI, gL_sJ, gL_sA, gL_sL])
  · replace hG := gIf_p hG c4
    obtain ⟨r9, S8, ghq10⟩ : ∃ (z : Int32) (y : mS), (z, y) = G_wrong S  := ⟨_, _, rfl⟩
    have hq10 := p_wrong S    r9 S8 ghq10
    replace hG := gC_e hG ghq10
    exact gE2 (P := (fun (r9 : Int32) (S9 : mS) => ((lo ≤ r9 ∧ r9 ≤ hi) ∨ r9 = 0) ∧ 0 ≤ gI S9 8 ∧ gI S9 8 ≤ gI S9 9 ∧ gI S9 9 ≤ gI S9 7 ∧ gI S9 7 ≤ 1600 ∧ (gI S9 8 < gI S9 7 → gI S9 8 < gI S9 9) ∧ gI S 8 ≤ gI S9 8 ∧ (0 ≤ gI S 10 → 0 ≤ gI S9 10) ∧ (∀ k, k ≠ 8 → k ≠ 9 → k ≠ 10 → gI S9 k = gI S k) ∧ (∀ k, gJ S9 k = gJ S k) ∧ (∀ k i, gA S9 k i = gA S k i) ∧ (∀ k i, gL S9 k i = gL S k i))) hZ hG (by clear hG hZ; grind [gI_sI, gI_sJ, gI_sA, gI_sL, gJ_sI, gJ_sJ, gJ_sA, gJ_sL, gA_sI, gA_sJ, gA_sA, gA_sL, gL_sI, gL_sJ, gL_sA, gL_sL])
set_option maxHeartbeats 2000000 in
set_option maxRecDepth 100000 in
theorem pj_number_39 (S : mS) (lo : Int32) (hi : Int32)  (h1 : 0 ≤ gI S 8 ∧ gI S 8 ≤ gI S 9 ∧ gI S 9 ≤ gI S 7 ∧ gI S 7 ≤ 1600 ∧ (gI S 8 < gI S 7 → gI S 8 < gI S 9)) (j39_3 : Int32) (j39_4 : Int32)  (rZ : Int32) (SZ : mS) (hj39 : 0 ≤ j39_3 ∧ gI S 10 < 0) (hZ : (rZ, SZ) = G_number S lo hi) (hG : G_number S lo hi = G_number_J39 S lo hi j39_3 j39_4) : (fun (r9 : Int32) (S9 : mS) => ((lo ≤ r9 ∧ r9 ≤ hi) ∨ r9 = 0) ∧ 0 ≤ gI S9 8 ∧ gI S9 8 ≤ gI S9 9 ∧ gI S9 9 ≤ gI S9 7 ∧ gI S9 7 ≤ 1600 ∧ (gI S9 8 < gI S9 7 → gI S9 8 < gI S9 9) ∧ gI S 8 ≤ gI S9 8 ∧ (0 ≤ gI S 10 → 0 ≤ gI S9 10) ∧ (∀ k, k ≠ 8 → k ≠ 9 → k ≠ 10 → gI S9 k = gI S k) ∧ (∀ k, gJ S9 k = gJ S k) ∧ (∀ k i, gA S9 k i = gA S k i) ∧ (∀ k i, gL S9 k i = gL S k i)) rZ SZ := by
  rw [G_number_J39] at hG
  rcases Classical.em ((((gI S 9) - j39_3) : Int32) < 1) with c11 | c11
  · replace hG := gIf_p hG c11
    obtain ⟨r13, S12, ghq14⟩ : ∃ (z : Int32) (y : mS), (z, y) = G_wrong S  := ⟨_, _, rfl⟩
    have hq14 := p_wrong S    r13 S12 ghq14
    replace hG := gC_e hG ghq14
    exact gE2 (P := (fun (r9 : Int32) (S9 : mS) => ((lo ≤ r9 ∧ r9 ≤ hi) ∨ r9 = 0) ∧ 0 ≤ gI S9 8 ∧ gI S9 8 ≤ gI S9 9 ∧ gI S9 9 ≤ gI S9 7 ∧ gI S9 7 ≤ 1600 ∧ (gI S9 8 < gI S9 7 → gI S9 8 < gI S9 9) ∧ gI S 8 ≤ gI S9 8 ∧ (0 ≤ gI S 10 → 0 ≤ gI S9 10) ∧ (∀ k, k ≠ 8 → k ≠ 9 → k ≠ 10 → gI S9 k = gI S k) ∧ (∀ k, gJ S9 k = gJ S k) ∧ (∀ k i, gA S9 k i = gA S k i) ∧ (∀ k i, gL S9 k i = gL S k i))) hZ hG (by clear hG hZ; grind [gI_sI, gI_sJ, gI_sA, gI_sL, gJ_sI, gJ_sJ, gJ_sA, gJ_sL, gA_sI, gA_sJ, gA_sA, gA_sL, gL_sI, gL_sJ, gL_sA, gL_sL])
  · replace hG := gIf_n hG c11
    rcases Classical.em ((((gI S 9) - j39_3) : Int32) ≤ 9) with c15 | c15
    · replace hG := gIf_p hG c15
      obtain ⟨x16, ex16⟩ : ∃ z : Int32, z = 0 := ⟨_, rfl⟩
      replace hG := gLt_e hG ex16
      have loop68 : ∀ (N68 : Nat) (v68_3 : Int32) (v68_5 : Int32) , (0 ≤ v68_3 ∧ v68_3 ≤ gI S 9 ∧ gI S 10 < 0) → ((gI S 9 - v68_3).toInt.toNat) < N68 → (G_number S lo hi = G_number_L68 S lo hi j39_4 N68 v68_3 v68_5) → (fun (r9 : Int32) (S9 : mS) => ((lo ≤ r9 ∧ r9 ≤ hi) ∨ r9 = 0) ∧ 0 ≤ gI S9 8 ∧ gI S9 8 ≤ gI S9 9 ∧ gI S9 9 ≤ gI S9 7 ∧ gI S9 7 ≤ 1600 ∧ (gI S9 8 < gI S9 7 → gI S9 8 < gI S9 9) ∧ gI S 8 ≤ gI S9 8 ∧ (0 ≤ gI S 10 → 0 ≤ gI S9 10) ∧ (∀ k, k ≠ 8 → k ≠ 9 → k ≠ 10 → gI S9 k = gI S k) ∧ (∀ k, gJ S9 k = gJ S k) ∧ (∀ k i, gA S9 k i = gA S k i) ∧ (∀ k i, gL S9 k i = gL S k i)) rZ SZ := by
        intro N68
        induction N68 with
        | zero => intro v68_3 v68_5  hi68 hm68; exact absurd hm68 (Nat.not_lt_zero _)
        | succ N68 ih68 =>
          intro v68_3 v68_5  hi68 hm68 hG
          rw [G_number_L68] at hG
          rcases Classical.em ((gI S 9) ≤ (v68_3 : Int32)) with c17 | c17
          · replace hG := gIf_p hG c17
            rcases Classical.em ((j39_4 : Int32) = 0) with c18 | c18
            · replace hG := gIf_p hG c18
              exact pj_number_130 S lo hi h1 v68_5  rZ SZ (by clear hG hZ ih68 hm68; subst_vars; grind) hZ hG
            · replace hG := gIf_n hG c18
              obtain ⟨x19, ex19⟩ : ∃ z : Int32, z = (-v68_5) := ⟨_, rfl⟩
              replace hG := gLt_e hG ex19
              exact pj_number_130 S lo hi h1 x19  rZ SZ (by clear hG hZ ih68 hm68; subst_vars; grind) hZ hG
          · replace hG := gIf_n hG c17
            obtain ⟨r21, ghq22⟩ : ∃ z : Int32, z = G_in S (gA S 1 v68_3) 48 57 := ⟨_, rfl⟩
            have hq22 := (p_in S (gA S 1 v68_3) 48 57   r21 ghq22).2
            replace hG := gLt_e hG ghq22
            rcases (Classical.em ((r21 : Int32) = 0)).symm with c23 | c23
            · replace hG := gIf_n hG c23
              obtain ⟨x24, ex24⟩ : ∃ z : Int32, z = (((10 * v68_5) + (gA S 1 v68_3)) - 48) := ⟨_, rfl⟩
              replace hG := gLt_e hG ex24
              obtain ⟨x25, ex25⟩ : ∃ z : Int32, z = v68_3 + (1) := ⟨_, rfl⟩
              replace hG := gLt_e hG ex25
              exact ih68 x25 x24  (by clear hG hZ ih68 hm68 c11 c15 ex16 hq22 c23 ex24 h1 hj39; subst_vars; grind) (msd hm68 (by clear hG hZ ih68 hm68 c11 c15 ex16 hq22 c23 ex24 hj39; subst_vars; grind) (by clear hG hZ ih68 hm68 c11 c15 ex16 hq22 c23 ex24 hj39; subst_vars; grind)) hG
            · replace hG := gIf_p hG c23
              obtain ⟨r27, S26, ghq28⟩ : ∃ (z : Int32) (y : mS), (z, y) = G_wrong S  := ⟨_, _, rfl⟩
              have hq28 := p_wrong S    r27 S26 ghq28
              replace hG := gC_e hG ghq28
              exact gE2 (P := (fun (r9 : Int32) (S9 : mS) => ((lo ≤ r9 ∧ r9 ≤ hi) ∨ r9 = 0) ∧ 0 ≤ gI S9 8 ∧ gI S9 8 ≤ gI S9 9 ∧ gI S9 9 ≤ gI S9 7 ∧ gI S9 7 ≤ 1600 ∧ (gI S9 8 < gI S9 7 → gI S9 8 < gI S9 9) ∧ gI S 8 ≤ gI S9 8 ∧ (0 ≤ gI S 10 → 0 ≤ gI S9 10) ∧ (∀ k, k ≠ 8 → k ≠ 9 → k ≠ 10 → gI S9 k = gI S k) ∧ (∀ k, gJ S9 k = gJ S k) ∧ (∀ k i, gA S9 k i = gA S k i) ∧ (∀ k i, gL S9 k i = gL S k i))) hZ hG (by clear hG hZ ih68 hm68; grind [gI_sI, gI_sJ, gI_sA, gI_sL, gJ_sI, gJ_sJ, gJ_sA, gJ_sL, gA_sI, gA_sJ, gA_sA, gA_sL, gL_sI, gL_sJ, gL_sA, gL_sL])
      exact loop68 ((gI S 9 - j39_3).toInt.toNat + 1) j39_3 x16  (by clear hG hZ; subst_vars; grind) (Nat.lt_succ_self _) hG
    · replace hG := gIf_n hG c15
      obtain ⟨r30, S29, ghq31⟩ : ∃ (z : Int32) (y : mS), (z, y) = G_wrong S  := ⟨_, _, rfl⟩
      have hq31 := p_wrong S    r30 S29 ghq31
      replace hG := gC_e hG ghq31
      exact gE2 (P := (fun (r9 : Int32) (S9 : mS) => ((lo ≤ r9 ∧ r9 ≤ hi) ∨ r9 = 0) ∧ 0 ≤ gI S9 8 ∧ gI S9 8 ≤ gI S9 9 ∧ gI S9 9 ≤ gI S9 7 ∧ gI S9 7 ≤ 1600 ∧ (gI S9 8 < gI S9 7 → gI S9 8 < gI S9 9) ∧ gI S 8 ≤ gI S9 8 ∧ (0 ≤ gI S 10 → 0 ≤ gI S9 10) ∧ (∀ k, k ≠ 8 → k ≠ 9 → k ≠ 10 → gI S9 k = gI S k) ∧ (∀ k, gJ S9 k = gJ S k) ∧ (∀ k i, gA S9 k i = gA S k i) ∧ (∀ k i, gL S9 k i = gL S k i))) hZ hG (by clear hG hZ; grind [gI_sI, gI_sJ, gI_sA, gI_sL, gJ_sI, gJ_sJ, gJ_sA, gJ_sL, gA_sI, gA_sJ, gA_sA, gA_sL, gL_sI, gL_sJ, gL_sA, gL_sL])
set_option maxHeartbeats 2000000 in
set_option maxRecDepth 100000 in
theorem pj_number_29 (S : mS) (lo : Int32) (hi : Int32)  (h1 : 0 ≤ gI S 8 ∧ gI S 8 ≤ gI S 9 ∧ gI S 9 ≤ gI S 7 ∧ gI S 7 ≤ 1600 ∧ (gI S 8 < gI S 7 → gI S 8 < gI S 9)) (j29_3 : Int32) (j29_s0 : Int32)  (rZ : Int32) (SZ : mS) (hj29 : 0 ≤ j29_3 ∧ j29_3 ≤ 1600 ∧ gI S 10 < 0) (hZ : (rZ, SZ) = G_number S lo hi) (hG : G_number S lo hi = G_number_J29 S lo hi j29_3 j29_s0) : (fun (r9 : Int32) (S9 : mS) => ((lo ≤ r9 ∧ r9 ≤ hi) ∨ r9 = 0) ∧ 0 ≤ gI S9 8 ∧ gI S9 8 ≤ gI S9 9 ∧ gI S9 9 ≤ gI S9 7 ∧ gI S9 7 ≤ 1600 ∧ (gI S9 8 < gI S9 7 → gI S9 8 < gI S9 9) ∧ gI S 8 ≤ gI S9 8 ∧ (0 ≤ gI S 10 → 0 ≤ gI S9 10) ∧ (∀ k, k ≠ 8 → k ≠ 9 → k ≠ 10 → gI S9 k = gI S k) ∧ (∀ k, gJ S9 k = gJ S k) ∧ (∀ k i, gA S9 k i = gA S k i) ∧ (∀ k i, gL S9 k i = gL S k i)) rZ SZ := by
  rw [G_number_J29] at hG
  rcases Classical.em ((j29_s0 : Int32) = 0) with c32 | c32
  · replace hG := gIf_p hG c32
    exact pj_number_39 S lo hi h1 j29_3 j29_s0  rZ SZ (by clear hG hZ; subst_vars; grind) hZ hG
  · replace hG := gIf_n hG c32
    obtain ⟨x33, ex33⟩ : ∃ z : Int32, z = j29_3 + (1) := ⟨_, rfl⟩
    replace hG := gLt_e hG ex33
    exact pj_number_39 S lo hi h1 x33 j29_s0  rZ SZ (by clear hG hZ; subst_vars; grind) hZ hG
set_option maxHeartbeats 2000000 in
set_option maxRecDepth 100000 in
theorem p_number (S : mS) (lo : Int32) (hi : Int32)  (h1 : 0 ≤ gI S 8 ∧ gI S 8 ≤ gI S 9 ∧ gI S 9 ≤ gI S 7 ∧ gI S 7 ≤ 1600 ∧ (gI S 8 < gI S 7 → gI S 8 < gI S 9)) (rZ : Int32) (SZ : mS) (hZ : (rZ, SZ) = G_number S lo hi) : (fun (r9 : Int32) (S9 : mS) => ((lo ≤ r9 ∧ r9 ≤ hi) ∨ r9 = 0) ∧ 0 ≤ gI S9 8 ∧ gI S9 8 ≤ gI S9 9 ∧ gI S9 9 ≤ gI S9 7 ∧ gI S9 7 ≤ 1600 ∧ (gI S9 8 < gI S9 7 → gI S9 8 < gI S9 9) ∧ gI S 8 ≤ gI S9 8 ∧ (0 ≤ gI S 10 → 0 ≤ gI S9 10) ∧ (∀ k, k ≠ 8 → k ≠ 9 → k ≠ 10 → gI S9 k = gI S k) ∧ (∀ k, gJ S9 k = gJ S k) ∧ (∀ k i, gA S9 k i = gA S k i) ∧ (∀ k i, gL S9 k i = gL S k i)) rZ SZ := by
  have hG := G_number.eq_1 S lo hi
  rcases Classical.em (((gI S 10) : Int32) < 0) with c34 | c34
  · replace hG := gIf_p hG c34
    obtain ⟨x35, ex35⟩ : ∃ z : Int32, z = (gI S 8) := ⟨_, rfl⟩
    replace hG := gLt_e hG ex35
    obtain ⟨r37, ghq38⟩ : ∃ z : Int32, z = G_byteAt S x35 := ⟨_, rfl⟩
    have hq38 := (p_byteAt S x35  (by clear hG hZ; grind) r37 ghq38).2
    replace hG := gLt_e hG ghq38
    rcases (Classical.em ((r37 : Int32) = 45)).symm with c39 | c39
    · replace hG := gIf_n hG c39
      exact pj_number_29 S lo hi h1 x35 0  rZ SZ (by clear hG hZ; subst_vars; grind) hZ hG
    · replace hG := gIf_p hG c39
      exact pj_number_29 S lo hi h1 x35 1  rZ SZ (by clear hG hZ; subst_vars; grind) hZ hG
  · replace hG := gIf_n hG c34
    exact gE2 (P := (fun (r9 : Int32) (S9 : mS) => ((lo ≤ r9 ∧ r9 ≤ hi) ∨ r9 = 0) ∧ 0 ≤ gI S9 8 ∧ gI S9 8 ≤ gI S9 9 ∧ gI S9 9 ≤ gI S9 7 ∧ gI S9 7 ≤ 1600 ∧ (gI S9 8 < gI S9 7 → gI S9 8 < gI S9 9) ∧ gI S 8 ≤ gI S9 8 ∧ (0 ≤ gI S 10 → 0 ≤ gI S9 10) ∧ (∀ k, k ≠ 8 → k ≠ 9 → k ≠ 10 → gI S9 k = gI S k) ∧ (∀ k, gJ S9 k = gJ S k) ∧ (∀ k i, gA S9 k i = gA S k i) ∧ (∀ k i, gL S9 k i = gL S k i))) hZ hG (by clear hG hZ; grind [gI_sI, gI_sJ, gI_sA, gI_sL, gJ_sI, gJ_sJ, gJ_sA, gJ_sL, gA_sI, gA_sJ, gA_sA, gA_sL, gL_sI, gL_sJ, gL_sA, gL_sL])
set_option maxHeartbeats 2000000 in
set_option maxRecDepth 100000 in
theorem pj_line_166 (S : mS)   (h1 : 0 ≤ gI S 8 ∧ gI S 8 ≤ gI S 9 ∧ gI S 9 ≤ gI S 7 ∧ gI S 7 ≤ 1600 ∧ (gI S 8 < gI S 7 → gI S 8 < gI S 9)) (h2 : 0 ≤ gI S 6 ∧ gI S 6 ≤ 60) (h3 : (∀ k, 0 ≤ k → k < gI S 6 → 2 ≤ gA S 5 (4 * k) → gA S 5 (4 * k) ≤ 4 → 0 ≤ gA S 5 (4 * k + 1))) (j166_1 : Int32) (j166_2 : Int32) (j166_3 : Int32) (j166_4 : Int32) (j166_5 : Int32) (SJ166 : mS) (SZ : mS) (hj166 : 0 ≤ j166_1 ∧ j166_1 < 34 ∧ gI S 6 < 60 ∧ (2 ≤ j166_1 → j166_1 ≤ 4 → 0 ≤ j166_3) ∧ 0 ≤ gI SJ166 8 ∧ gI SJ166 8 ≤ gI SJ166 9 ∧ gI SJ166 9 ≤ gI SJ166 7 ∧ gI SJ166 7 ≤ 1600 ∧ (gI SJ166 8 < gI SJ166 7 → gI SJ166 8 < gI SJ166 9) ∧ gI S 8 ≤ gI SJ166 8 ∧ (∀ k, k ≠ 8 → k ≠ 9 → k ≠ 10 → gI SJ166 k = gI S k) ∧ (∀ k, gJ SJ166 k = gJ S k) ∧ (∀ k i, gA SJ166 k i = gA S k i) ∧ (∀ k i, gL SJ166 k i = gL S k i)) (hZ : SZ = G_line S ) (hG : G_line S  = G_line_J166  j166_1 j166_2 j166_3 j166_4 j166_5 SJ166) : (fun S9 : mS => 0 ≤ gI S9 8 ∧ gI S9 8 ≤ gI S9 9 ∧ gI S9 9 ≤ gI S9 7 ∧ gI S9 7 ≤ 1600 ∧ (gI S9 8 < gI S9 7 → gI S9 8 < gI S9 9) ∧ gI S 8 ≤ gI S9 8 ∧ 0 ≤ gI S9 6 ∧ gI S9 6 ≤ 60 ∧ (gI S9 10 < 0 → 1 ≤ gI S9 6) ∧ (∀ k, 0 ≤ k → k < gI S9 6 → 2 ≤ gA S9 5 (4 * k) → gA S9 5 (4 * k) ≤ 4 → 0 ≤ gA S9 5 (4 * k + 1)) ∧ (∀ k, k ≠ 6 → k ≠ 8 → k ≠ 9 → k ≠ 10 → gI S9 k = gI S k) ∧ (∀ k, gJ S9 k = gJ S k) ∧ (∀ k i, k ≠ 5 → gA S9 k i = gA S k i) ∧ (∀ k i, gL S9 k i = gL S k i)) SZ := by
  rw [G_line_J166] at hG
  obtain ⟨x1, ex1⟩ : ∃ z : Int32, z = (4 * (gI SJ166 6)) := ⟨_, rfl⟩
  replace hG := gLt_e hG ex1
  obtain ⟨S2, eS2⟩ : ∃ z : mS, z = sA SJ166 5 x1 (j166_1) := ⟨_, rfl⟩
  replace hG := gLt_e hG eS2
  obtain ⟨S3, eS3⟩ : ∃ z : mS, z = sA S2 5 (x1 + 1) (j166_3) := ⟨_, rfl⟩
  replace hG := gLt_e hG eS3
  obtain ⟨S4, eS4⟩ : ∃ z : mS, z = sA S3 5 (x1 + 2) (j166_4) := ⟨_, rfl⟩
  replace hG := gLt_e hG eS4
  obtain ⟨S5, eS5⟩ : ∃ z : mS, z = sA S4 5 (x1 + 3) (j166_5) := ⟨_, rfl⟩
  replace hG := gLt_e hG eS5
  obtain ⟨S6, eS6⟩ : ∃ z : mS, z = sI S5 6 ((gI S5 6) + 1) := ⟨_, rfl⟩
  replace hG := gLt_e hG eS6
  exact gE1 (P := (fun S9 : mS => 0 ≤ gI S9 8 ∧ gI S9 8 ≤ gI S9 9 ∧ gI S9 9 ≤ gI S9 7 ∧ gI S9 7 ≤ 1600 ∧ (gI S9 8 < gI S9 7 → gI S9 8 < gI S9 9) ∧ gI S 8 ≤ gI S9 8 ∧ 0 ≤ gI S9 6 ∧ gI S9 6 ≤ 60 ∧ (gI S9 10 < 0 → 1 ≤ gI S9 6) ∧ (∀ k, 0 ≤ k → k < gI S9 6 → 2 ≤ gA S9 5 (4 * k) → gA S9 5 (4 * k) ≤ 4 → 0 ≤ gA S9 5 (4 * k + 1)) ∧ (∀ k, k ≠ 6 → k ≠ 8 → k ≠ 9 → k ≠ 10 → gI S9 k = gI S k) ∧ (∀ k, gJ S9 k = gJ S k) ∧ (∀ k i, k ≠ 5 → gA S9 k i = gA S k i) ∧ (∀ k i, gL S9 k i = gL S k i))) hZ hG (by clear hG hZ; have hpo := po_step (S := SJ166) (by grind) (by grind) ex1 eS2 eS3 eS4 eS5 eS6 (by grind); refine ⟨?_, ?_, ?_, ?_, ?_, ?_, ?_, ?_, ?_, hpo, ?_, ?_, ?_, ?_⟩ <;> (clear hpo h3; subst_vars; grind [gI_sI, gI_sJ, gI_sA, gI_sL, gJ_sI, gJ_sJ, gJ_sA, gJ_sL, gA_sI, gA_sJ, gA_sA, gA_sL, gL_sI, gL_sJ, gL_sA, gL_sL]))
set_option maxHeartbeats 2000000 in
set_option maxRecDepth 100000 in
theorem pj_line_158 (S : mS)   (h1 : 0 ≤ gI S 8 ∧ gI S 8 ≤ gI S 9 ∧ gI S 9 ≤ gI S 7 ∧ gI S 7 ≤ 1600 ∧ (gI S 8 < gI S 7 → gI S 8 < gI S 9)) (h2 : 0 ≤ gI S 6 ∧ gI S 6 ≤ 60) (h3 : (∀ k, 0 ≤ k → k < gI S 6 → 2 ≤ gA S 5 (4 * k) → gA S 5 (4 * k) ≤ 4 → 0 ≤ gA S 5 (4 * k + 1))) (j158_1 : Int32) (j158_2 : Int32) (j158_3 : Int32) (j158_4 : Int32) (j158_5 : Int32) (SJ158 : mS) (SZ : mS) (hj158 : 0 ≤ j158_1 ∧ j158_1 < 34 ∧ gI S 6 < 60 ∧ (2 ≤ j158_1 → j158_1 ≤ 4 → 0 ≤ j158_3) ∧ 0 ≤ gI SJ158 8 ∧ gI SJ158 8 ≤ gI SJ158 9 ∧ gI SJ158 9 ≤ gI SJ158 7 ∧ gI SJ158 7 ≤ 1600 ∧ (gI SJ158 8 < gI SJ158 7 → gI SJ158 8 < gI SJ158 9) ∧ gI S 8 ≤ gI SJ158 8 ∧ (∀ k, k ≠ 8 → k ≠ 9 → k ≠ 10 → gI SJ158 k = gI S k) ∧ (∀ k, gJ SJ158 k = gJ S k) ∧ (∀ k i, gA SJ158 k i = gA S k i) ∧ (∀ k i, gL SJ158 k i = gL S k i)) (hZ : SZ = G_line S ) (hG : G_line S  = G_line_J158  j158_1 j158_2 j158_3 j158_4 j158_5 SJ158) : (fun S9 : mS => 0 ≤ gI S9 8 ∧ gI S9 8 ≤ gI S9 9 ∧ gI S9 9 ≤ gI S9 7 ∧ gI S9 7 ≤ 1600 ∧ (gI S9 8 < gI S9 7 → gI S9 8 < gI S9 9) ∧ gI S 8 ≤ gI S9 8 ∧ 0 ≤ gI S9 6 ∧ gI S9 6 ≤ 60 ∧ (gI S9 10 < 0 → 1 ≤ gI S9 6) ∧ (∀ k, 0 ≤ k → k < gI S9 6 → 2 ≤ gA S9 5 (4 * k) → gA S9 5 (4 * k) ≤ 4 → 0 ≤ gA S9 5 (4 * k + 1)) ∧ (∀ k, k ≠ 6 → k ≠ 8 → k ≠ 9 → k ≠ 10 → gI S9 k = gI S k) ∧ (∀ k, gJ S9 k = gJ S k) ∧ (∀ k i, k ≠ 5 → gA S9 k i = gA S k i) ∧ (∀ k i, gL S9 k i = gL S k i)) SZ := by
  rw [G_line_J158] at hG
  obtain ⟨r8, S7, ghq9⟩ : ∃ (z : Int32) (y : mS), (z, y) = G_number SJ158 1 j158_2 := ⟨_, _, rfl⟩
  have hq9 := p_number SJ158 1 j158_2  (by clear hG hZ; grind [gI_sI, gI_sJ, gI_sA, gI_sL, gJ_sI, gJ_sJ, gJ_sA, gJ_sL, gA_sI, gA_sJ, gA_sA, gA_sL, gL_sI, gL_sJ, gL_sA, gL_sL]) r8 S7 ghq9
  replace hG := gC_e hG ghq9
  exact pj_line_166 S  h1 h2 h3 j158_1 j158_2 j158_3 r8 j158_5 S7 SZ (by clear hG hZ; subst_vars; grind [gI_sI, gI_sJ, gI_sA, gI_sL, gJ_sI, gJ_sJ, gJ_sA, gJ_sL, gA_sI, gA_sJ, gA_sA, gA_sL, gL_sI, gL_sJ, gL_sA, gL_sL]) hZ hG
set_option maxHeartbeats 2000000 in
set_option maxRecDepth 100000 in
theorem pj_line_146 (S : mS)   (h1 : 0 ≤ gI S 8 ∧ gI S 8 ≤ gI S 9 ∧ gI S 9 ≤ gI S 7 ∧ gI S 7 ≤ 1600 ∧ (gI S 8 < gI S 7 → gI S 8 < gI S 9)) (h2 : 0 ≤ gI S 6 ∧ gI S 6 ≤ 60) (h3 : (∀ k, 0 ≤ k → k < gI S 6 → 2 ≤ gA S 5 (4 * k) → gA S 5 (4 * k) ≤ 4 → 0 ≤ gA S 5 (4 * k + 1))) (j146_1 : Int32) (j146_2 : Int32) (j146_3 : Int32) (j146_4 : Int32) (j146_5 : Int32) (SJ146 : mS) (SZ : mS) (hj146 : 0 ≤ j146_1 ∧ j146_1 < 34 ∧ gI S 6 < 60 ∧ (2 ≤ j146_1 → j146_1 ≤ 4 → 0 ≤ j146_3) ∧ 0 ≤ gI SJ146 8 ∧ gI SJ146 8 ≤ gI SJ146 9 ∧ gI SJ146 9 ≤ gI SJ146 7 ∧ gI SJ146 7 ≤ 1600 ∧ (gI SJ146 8 < gI SJ146 7 → gI SJ146 8 < gI SJ146 9) ∧ gI S 8 ≤ gI SJ146 8 ∧ (∀ k, k ≠ 8 → k ≠ 9 → k ≠ 10 → gI SJ146 k = gI S k) ∧ (∀ k, gJ SJ146 k = gJ S k) ∧ (∀ k i, gA SJ146 k i = gA S k i) ∧ (∀ k i, gL SJ146 k i = gL S k i)) (hZ : SZ = G_line S ) (hG : G_line S  = G_line_J146  j146_1 j146_2 j146_3 j146_4 j146_5 SJ146) : (fun S9 : mS => 0 ≤ gI S9 8 ∧ gI S9 8 ≤ gI S9 9 ∧ gI S9 9 ≤ gI S9 7 ∧ gI S9 7 ≤ 1600 ∧ (gI S9 8 < gI S9 7 → gI S9 8 < gI S9 9) ∧ gI S 8 ≤ gI S9 8 ∧ 0 ≤ gI S9 6 ∧ gI S9 6 ≤ 60 ∧ (gI S9 10 < 0 → 1 ≤ gI S9 6) ∧ (∀ k, 0 ≤ k → k < gI S9 6 → 2 ≤ gA S9 5 (4 * k) → gA S9 5 (4 * k) ≤ 4 → 0 ≤ gA S9 5 (4 * k + 1)) ∧ (∀ k, k ≠ 6 → k ≠ 8 → k ≠ 9 → k ≠ 10 → gI S9 k = gI S k) ∧ (∀ k, gJ S9 k = gJ S k) ∧ (∀ k i, k ≠ 5 → gA S9 k i = gA S k i) ∧ (∀ k i, gL S9 k i = gL S k i)) SZ := by
  rw [G_line_J146] at hG
  rcases Classical.em ((j146_1 : Int32) = 17) with c10 | c10
  · replace hG := gIf_p hG c10
    exact pj_line_158 S  h1 h2 h3 j146_1 j146_2 j146_3 j146_4 j146_5 SJ146 SZ (by clear hG hZ; subst_vars; grind [gI_sI, gI_sJ, gI_sA, gI_sL, gJ_sI, gJ_sJ, gJ_sA, gJ_sL, gA_sI, gA_sJ, gA_sA, gA_sL, gL_sI, gL_sJ, gL_sA, gL_sL]) hZ hG
  · replace hG := gIf_n hG c10
    rcases (Classical.em ((j146_1 : Int32) = 18)).symm with c11 | c11
    · replace hG := gIf_n hG c11
      exact pj_line_166 S  h1 h2 h3 j146_1 j146_2 j146_3 j146_4 j146_5 SJ146 SZ (by clear hG hZ; subst_vars; grind [gI_sI, gI_sJ, gI_sA, gI_sL, gJ_sI, gJ_sJ, gJ_sA, gJ_sL, gA_sI, gA_sJ, gA_sA, gA_sL, gL_sI, gL_sJ, gL_sA, gL_sL]) hZ hG
    · replace hG := gIf_p hG c11
      exact pj_line_158 S  h1 h2 h3 j146_1 j146_2 j146_3 j146_4 j146_5 SJ146 SZ (by clear hG hZ; subst_vars; grind [gI_sI, gI_sJ, gI_sA, gI_sL, gJ_sI, gJ_sJ, gJ_sA, gJ_sL, gA_sI, gA_sJ, gA_sA, gA_sL, gL_sI, gL_sJ, gL_sA, gL_sL]) hZ hG
set_option maxHeartbeats 2000000 in
set_option maxRecDepth 100000 in
theorem pj_line_131 (S : mS)   (h1 : 0 ≤ gI S 8 ∧ gI S 8 ≤ gI S 9 ∧ gI S 9 ≤ gI S 7 ∧ gI S 7 ≤ 1600 ∧ (gI S 8 < gI S 7 → gI S 8 < gI S 9)) (h2 : 0 ≤ gI S 6 ∧ gI S 6 ≤ 60) (h3 : (∀ k, 0 ≤ k → k < gI S 6 → 2 ≤ gA S 5 (4 * k) → gA S 5 (4 * k) ≤ 4 → 0 ≤ gA S 5 (4 * k + 1))) (j131_1 : Int32) (j131_2 : Int32) (j131_3 : Int32) (j131_4 : Int32) (j131_5 : Int32) (SJ131 : mS) (SZ : mS) (hj131 : 0 ≤ j131_1 ∧ j131_1 < 34 ∧ gI S 6 < 60 ∧ (2 ≤ j131_1 → j131_1 ≤ 4 → 0 ≤ j131_3) ∧ 0 ≤ gI SJ131 8 ∧ gI SJ131 8 ≤ gI SJ131 9 ∧ gI SJ131 9 ≤ gI SJ131 7 ∧ gI SJ131 7 ≤ 1600 ∧ (gI SJ131 8 < gI SJ131 7 → gI SJ131 8 < gI SJ131 9) ∧ gI S 8 ≤ gI SJ131 8 ∧ (∀ k, k ≠ 8 → k ≠ 9 → k ≠ 10 → gI SJ131 k = gI S k) ∧ (∀ k, gJ SJ131 k = gJ S k) ∧ (∀ k i, gA SJ131 k i = gA S k i) ∧ (∀ k i, gL SJ131 k i = gL S k i)) (hZ : SZ = G_line S ) (hG : G_line S  = G_line_J131  j131_1 j131_2 j131_3 j131_4 j131_5 SJ131) : (fun S9 : mS => 0 ≤ gI S9 8 ∧ gI S9 8 ≤ gI S9 9 ∧ gI S9 9 ≤ gI S9 7 ∧ gI S9 7 ≤ 1600 ∧ (gI S9 8 < gI S9 7 → gI S9 8 < gI S9 9) ∧ gI S 8 ≤ gI S9 8 ∧ 0 ≤ gI S9 6 ∧ gI S9 6 ≤ 60 ∧ (gI S9 10 < 0 → 1 ≤ gI S9 6) ∧ (∀ k, 0 ≤ k → k < gI S9 6 → 2 ≤ gA S9 5 (4 * k) → gA S9 5 (4 * k) ≤ 4 → 0 ≤ gA S9 5 (4 * k + 1)) ∧ (∀ k, k ≠ 6 → k ≠ 8 → k ≠ 9 → k ≠ 10 → gI S9 k = gI S k) ∧ (∀ k, gJ S9 k = gJ S k) ∧ (∀ k i, k ≠ 5 → gA S9 k i = gA S k i) ∧ (∀ k i, gL S9 k i = gL S k i)) SZ := by
  rw [G_line_J131] at hG
  rcases (Classical.em ((j131_1 : Int32) = 16)).symm with c12 | c12
  · replace hG := gIf_n hG c12
    exact pj_line_146 S  h1 h2 h3 j131_1 j131_2 j131_3 j131_4 j131_5 SJ131 SZ (by clear hG hZ; subst_vars; grind [gI_sI, gI_sJ, gI_sA, gI_sL, gJ_sI, gJ_sJ, gJ_sA, gJ_sL, gA_sI, gA_sJ, gA_sA, gA_sL, gL_sI, gL_sJ, gL_sA, gL_sL]) hZ hG
  · replace hG := gIf_p hG c12
    obtain ⟨r14, S13, ghq15⟩ : ∃ (z : Int32) (y : mS), (z, y) = G_number SJ131 (-j131_2) j131_2 := ⟨_, _, rfl⟩
    have hq15 := p_number SJ131 (-j131_2) j131_2  (by clear hG hZ; grind [gI_sI, gI_sJ, gI_sA, gI_sL, gJ_sI, gJ_sJ, gJ_sA, gJ_sL, gA_sI, gA_sJ, gA_sA, gA_sL, gL_sI, gL_sJ, gL_sA, gL_sL]) r14 S13 ghq15
    replace hG := gC_e hG ghq15
    exact pj_line_146 S  h1 h2 h3 j131_1 j131_2 j131_3 j131_4 r14 S13 SZ (by clear hG hZ; subst_vars; grind [gI_sI, gI_sJ, gI_sA, gI_sL, gJ_sI, gJ_sJ, gJ_sA, gJ_sL, gA_sI, gA_sJ, gA_sA, gA_sL, gL_sI, gL_sJ, gL_sA, gL_sL]) hZ hG
set_option maxHeartbeats 2000000 in
set_option maxRecDepth 100000 in
theorem pj_line_122 (S : mS)   (h1 : 0 ≤ gI S 8 ∧ gI S 8 ≤ gI S 9 ∧ gI S 9 ≤ gI S 7 ∧ gI S 7 ≤ 1600 ∧ (gI S 8 < gI S 7 → gI S 8 < gI S 9)) (h2 : 0 ≤ gI S 6 ∧ gI S 6 ≤ 60) (h3 : (∀ k, 0 ≤ k → k < gI S 6 → 2 ≤ gA S 5 (4 * k) → gA S 5 (4 * k) ≤ 4 → 0 ≤ gA S 5 (4 * k + 1))) (j122_1 : Int32) (j122_2 : Int32) (j122_3 : Int32) (j122_4 : Int32) (j122_5 : Int32) (SJ122 : mS) (SZ : mS) (hj122 : 0 ≤ j122_1 ∧ j122_1 < 34 ∧ gI S 6 < 60 ∧ (2 ≤ j122_1 → j122_1 ≤ 4 → 0 ≤ j122_3) ∧ 0 ≤ gI SJ122 8 ∧ gI SJ122 8 ≤ gI SJ122 9 ∧ gI SJ122 9 ≤ gI SJ122 7 ∧ gI SJ122 7 ≤ 1600 ∧ (gI SJ122 8 < gI SJ122 7 → gI SJ122 8 < gI SJ122 9) ∧ gI S 8 ≤ gI SJ122 8 ∧ (∀ k, k ≠ 8 → k ≠ 9 → k ≠ 10 → gI SJ122 k = gI S k) ∧ (∀ k, gJ SJ122 k = gJ S k) ∧ (∀ k i, gA SJ122 k i = gA S k i) ∧ (∀ k i, gL SJ122 k i = gL S k i)) (hZ : SZ = G_line S ) (hG : G_line S  = G_line_J122  j122_1 j122_2 j122_3 j122_4 j122_5 SJ122) : (fun S9 : mS => 0 ≤ gI S9 8 ∧ gI S9 8 ≤ gI S9 9 ∧ gI S9 9 ≤ gI S9 7 ∧ gI S9 7 ≤ 1600 ∧ (gI S9 8 < gI S9 7 → gI S9 8 < gI S9 9) ∧ gI S 8 ≤ gI S9 8 ∧ 0 ≤ gI S9 6 ∧ gI S9 6 ≤ 60 ∧ (gI S9 10 < 0 → 1 ≤ gI S9 6) ∧ (∀ k, 0 ≤ k → k < gI S9 6 → 2 ≤ gA S9 5 (4 * k) → gA S9 5 (4 * k) ≤ 4 → 0 ≤ gA S9 5 (4 * k + 1)) ∧ (∀ k, k ≠ 6 → k ≠ 8 → k ≠ 9 → k ≠ 10 → gI S9 k = gI S k) ∧ (∀ k, gJ S9 k = gJ S k) ∧ (∀ k i, k ≠ 5 → gA S9 k i = gA S k i) ∧ (∀ k i, gL S9 k i = gL S k i)) SZ := by
  rw [G_line_J122] at hG
  obtain ⟨r17, S16, ghq18⟩ : ∃ (z : Int32) (y : mS), (z, y) = G_number SJ122 (-j122_2) j122_2 := ⟨_, _, rfl⟩
  have hq18 := p_number SJ122 (-j122_2) j122_2  (by clear hG hZ; grind [gI_sI, gI_sJ, gI_sA, gI_sL, gJ_sI, gJ_sJ, gJ_sA, gJ_sL, gA_sI, gA_sJ, gA_sA, gA_sL, gL_sI, gL_sJ, gL_sA, gL_sL]) r17 S16 ghq18
  replace hG := gC_e hG ghq18
  exact pj_line_131 S  h1 h2 h3 j122_1 j122_2 j122_3 r17 j122_5 S16 SZ (by clear hG hZ; subst_vars; grind [gI_sI, gI_sJ, gI_sA, gI_sL, gJ_sI, gJ_sJ, gJ_sA, gJ_sL, gA_sI, gA_sJ, gA_sA, gA_sL, gL_sI, gL_sJ, gL_sA, gL_sL]) hZ hG
set_option maxHeartbeats 2000000 in
set_option maxRecDepth 100000 in
theorem pj_line_110 (S : mS)   (h1 : 0 ≤ gI S 8 ∧ gI S 8 ≤ gI S 9 ∧ gI S 9 ≤ gI S 7 ∧ gI S 7 ≤ 1600 ∧ (gI S 8 < gI S 7 → gI S 8 < gI S 9)) (h2 : 0 ≤ gI S 6 ∧ gI S 6 ≤ 60) (h3 : (∀ k, 0 ≤ k → k < gI S 6 → 2 ≤ gA S 5 (4 * k) → gA S 5 (4 * k) ≤ 4 → 0 ≤ gA S 5 (4 * k + 1))) (j110_1 : Int32) (j110_2 : Int32) (j110_3 : Int32) (j110_4 : Int32) (j110_5 : Int32) (SJ110 : mS) (SZ : mS) (hj110 : 0 ≤ j110_1 ∧ j110_1 < 34 ∧ gI S 6 < 60 ∧ (2 ≤ j110_1 → j110_1 ≤ 4 → 0 ≤ j110_3) ∧ 0 ≤ gI SJ110 8 ∧ gI SJ110 8 ≤ gI SJ110 9 ∧ gI SJ110 9 ≤ gI SJ110 7 ∧ gI SJ110 7 ≤ 1600 ∧ (gI SJ110 8 < gI SJ110 7 → gI SJ110 8 < gI SJ110 9) ∧ gI S 8 ≤ gI SJ110 8 ∧ (∀ k, k ≠ 8 → k ≠ 9 → k ≠ 10 → gI SJ110 k = gI S k) ∧ (∀ k, gJ SJ110 k = gJ S k) ∧ (∀ k i, gA SJ110 k i = gA S k i) ∧ (∀ k i, gL SJ110 k i = gL S k i)) (hZ : SZ = G_line S ) (hG : G_line S  = G_line_J110  j110_1 j110_2 j110_3 j110_4 j110_5 SJ110) : (fun S9 : mS => 0 ≤ gI S9 8 ∧ gI S9 8 ≤ gI S9 9 ∧ gI S9 9 ≤ gI S9 7 ∧ gI S9 7 ≤ 1600 ∧ (gI S9 8 < gI S9 7 → gI S9 8 < gI S9 9) ∧ gI S 8 ≤ gI S9 8 ∧ 0 ≤ gI S9 6 ∧ gI S9 6 ≤ 60 ∧ (gI S9 10 < 0 → 1 ≤ gI S9 6) ∧ (∀ k, 0 ≤ k → k < gI S9 6 → 2 ≤ gA S9 5 (4 * k) → gA S9 5 (4 * k) ≤ 4 → 0 ≤ gA S9 5 (4 * k + 1)) ∧ (∀ k, k ≠ 6 → k ≠ 8 → k ≠ 9 → k ≠ 10 → gI S9 k = gI S k) ∧ (∀ k, gJ S9 k = gJ S k) ∧ (∀ k i, k ≠ 5 → gA S9 k i = gA S k i) ∧ (∀ k i, gL S9 k i = gL S k i)) SZ := by
  rw [G_line_J110] at hG
  rcases Classical.em ((j110_1 : Int32) = 15) with c19 | c19
  · replace hG := gIf_p hG c19
    exact pj_line_122 S  h1 h2 h3 j110_1 j110_2 j110_3 j110_4 j110_5 SJ110 SZ (by clear hG hZ; subst_vars; grind [gI_sI, gI_sJ, gI_sA, gI_sL, gJ_sI, gJ_sJ, gJ_sA, gJ_sL, gA_sI, gA_sJ, gA_sA, gA_sL, gL_sI, gL_sJ, gL_sA, gL_sL]) hZ hG
  · replace hG := gIf_n hG c19
    rcases (Classical.em ((j110_1 : Int32) = 16)).symm with c20 | c20
    · replace hG := gIf_n hG c20
      exact pj_line_131 S  h1 h2 h3 j110_1 j110_2 j110_3 j110_4 j110_5 SJ110 SZ (by clear hG hZ; subst_vars; grind [gI_sI, gI_sJ, gI_sA, gI_sL, gJ_sI, gJ_sJ, gJ_sA, gJ_sL, gA_sI, gA_sJ, gA_sA, gA_sL, gL_sI, gL_sJ, gL_sA, gL_sL]) hZ hG
    · replace hG := gIf_p hG c20
      exact pj_line_122 S  h1 h2 h3 j110_1 j110_2 j110_3 j110_4 j110_5 SJ110 SZ (by clear hG hZ; subst_vars; grind [gI_sI, gI_sJ, gI_sA, gI_sL, gJ_sI, gJ_sJ, gJ_sA, gJ_sL, gA_sI, gA_sJ, gA_sA, gA_sL, gL_sI, gL_sJ, gL_sA, gL_sL]) hZ hG
set_option maxHeartbeats 2000000 in
set_option maxRecDepth 100000 in
theorem pj_line_79 (S : mS)   (h1 : 0 ≤ gI S 8 ∧ gI S 8 ≤ gI S 9 ∧ gI S 9 ≤ gI S 7 ∧ gI S 7 ≤ 1600 ∧ (gI S 8 < gI S 7 → gI S 8 < gI S 9)) (h2 : 0 ≤ gI S 6 ∧ gI S 6 ≤ 60) (h3 : (∀ k, 0 ≤ k → k < gI S 6 → 2 ≤ gA S 5 (4 * k) → gA S 5 (4 * k) ≤ 4 → 0 ≤ gA S 5 (4 * k + 1))) (j79_1 : Int32) (j79_2 : Int32) (j79_3 : Int32) (j79_4 : Int32) (j79_5 : Int32) (SJ79 : mS) (SZ : mS) (hj79 : 0 ≤ j79_1 ∧ j79_1 < 34 ∧ gI S 6 < 60 ∧ 0 ≤ gI SJ79 8 ∧ gI SJ79 8 ≤ gI SJ79 9 ∧ gI SJ79 9 ≤ gI SJ79 7 ∧ gI SJ79 7 ≤ 1600 ∧ (gI SJ79 8 < gI SJ79 7 → gI SJ79 8 < gI SJ79 9) ∧ gI S 8 ≤ gI SJ79 8 ∧ (∀ k, k ≠ 8 → k ≠ 9 → k ≠ 10 → gI SJ79 k = gI S k) ∧ (∀ k, gJ SJ79 k = gJ S k) ∧ (∀ k i, gA SJ79 k i = gA S k i) ∧ (∀ k i, gL SJ79 k i = gL S k i)) (hZ : SZ = G_line S ) (hG : G_line S  = G_line_J79  j79_1 j79_2 j79_3 j79_4 j79_5 SJ79) : (fun S9 : mS => 0 ≤ gI S9 8 ∧ gI S9 8 ≤ gI S9 9 ∧ gI S9 9 ≤ gI S9 7 ∧ gI S9 7 ≤ 1600 ∧ (gI S9 8 < gI S9 7 → gI S9 8 < gI S9 9) ∧ gI S 8 ≤ gI S9 8 ∧ 0 ≤ gI S9 6 ∧ gI S9 6 ≤ 60 ∧ (gI S9 10 < 0 → 1 ≤ gI S9 6) ∧ (∀ k, 0 ≤ k → k < gI S9 6 → 2 ≤ gA S9 5 (4 * k) → gA S9 5 (4 * k) ≤ 4 → 0 ≤ gA S9 5 (4 * k + 1)) ∧ (∀ k, k ≠ 6 → k ≠ 8 → k ≠ 9 → k ≠ 10 → gI S9 k = gI S k) ∧ (∀ k, gJ S9 k = gJ S k) ∧ (∀ k i, k ≠ 5 → gA S9 k i = gA S k i) ∧ (∀ k i, gL S9 k i = gL S k i)) SZ := by
  rw [G_line_J79] at hG
  obtain ⟨r22, S21, ghq23⟩ : ∃ (z : Int32) (y : mS), (z, y) = G_number SJ79 0 59 := ⟨_, _, rfl⟩
  have hq23 := p_number SJ79 0 59  (by clear hG hZ; grind [gI_sI, gI_sJ, gI_sA, gI_sL, gJ_sI, gJ_sJ, gJ_sA, gJ_sL, gA_sI, gA_sJ, gA_sA, gA_sL, gL_sI, gL_sJ, gL_sA, gL_sL]) r22 S21 ghq23
  replace hG := gC_e hG ghq23
  exact pj_line_110 S  h1 h2 h3 j79_1 j79_2 r22 j79_4 j79_5 S21 SZ (by clear hG hZ; subst_vars; grind [gI_sI, gI_sJ, gI_sA, gI_sL, gJ_sI, gJ_sJ, gJ_sA, gJ_sL, gA_sI, gA_sJ, gA_sA, gA_sL, gL_sI, gL_sJ, gL_sA, gL_sL]) hZ hG
set_option maxHeartbeats 2000000 in
set_option maxRecDepth 100000 in
theorem pj_line_53 (S : mS)   (h1 : 0 ≤ gI S 8 ∧ gI S 8 ≤ gI S 9 ∧ gI S 9 ≤ gI S 7 ∧ gI S 7 ≤ 1600 ∧ (gI S 8 < gI S 7 → gI S 8 < gI S 9)) (h2 : 0 ≤ gI S 6 ∧ gI S 6 ≤ 60) (h3 : (∀ k, 0 ≤ k → k < gI S 6 → 2 ≤ gA S 5 (4 * k) → gA S 5 (4 * k) ≤ 4 → 0 ≤ gA S 5 (4 * k + 1))) (j53_1 : Int32) (j53_2 : Int32) (j53_3 : Int32) (j53_4 : Int32) (j53_5 : Int32) (SJ53 : mS) (SZ : mS) (hj53 : 0 ≤ j53_1 ∧ j53_1 < 34 ∧ gI S 6 < 60 ∧ ¬ (2 ≤ j53_1 ∧ j53_1 ≤ 4) ∧ 0 ≤ gI SJ53 8 ∧ gI SJ53 8 ≤ gI SJ53 9 ∧ gI SJ53 9 ≤ gI SJ53 7 ∧ gI SJ53 7 ≤ 1600 ∧ (gI SJ53 8 < gI SJ53 7 → gI SJ53 8 < gI SJ53 9) ∧ gI S 8 ≤ gI SJ53 8 ∧ (∀ k, k ≠ 8 → k ≠ 9 → k ≠ 10 → gI SJ53 k = gI S k) ∧ (∀ k, gJ SJ53 k = gJ S k) ∧ (∀ k i, gA SJ53 k i = gA S k i) ∧ (∀ k i, gL SJ53 k i = gL S k i)) (hZ : SZ = G_line S ) (hG : G_line S  = G_line_J53  j53_1 j53_2 j53_3 j53_4 j53_5 SJ53) : (fun S9 : mS => 0 ≤ gI S9 8 ∧ gI S9 8 ≤ gI S9 9 ∧ gI S9 9 ≤ gI S9 7 ∧ gI S9 7 ≤ 1600 ∧ (gI S9 8 < gI S9 7 → gI S9 8 < gI S9 9) ∧ gI S 8 ≤ gI S9 8 ∧ 0 ≤ gI S9 6 ∧ gI S9 6 ≤ 60 ∧ (gI S9 10 < 0 → 1 ≤ gI S9 6) ∧ (∀ k, 0 ≤ k → k < gI S9 6 → 2 ≤ gA S9 5 (4 * k) → gA S9 5 (4 * k) ≤ 4 → 0 ≤ gA S9 5 (4 * k + 1)) ∧ (∀ k, k ≠ 6 → k ≠ 8 → k ≠ 9 → k ≠ 10 → gI S9 k = gI S k) ∧ (∀ k, gJ S9 k = gJ S k) ∧ (∀ k i, k ≠ 5 → gA S9 k i = gA S k i) ∧ (∀ k i, gL S9 k i = gL S k i)) SZ := by
  rw [G_line_J53] at hG
  obtain ⟨r25, S24, ghq26⟩ : ∃ (z : Int32) (y : mS), (z, y) = G_number SJ53 (-j53_2) j53_2 := ⟨_, _, rfl⟩
  have hq26 := p_number SJ53 (-j53_2) j53_2  (by clear hG hZ; grind [gI_sI, gI_sJ, gI_sA, gI_sL, gJ_sI, gJ_sJ, gJ_sA, gJ_sL, gA_sI, gA_sJ, gA_sA, gA_sL, gL_sI, gL_sJ, gL_sA, gL_sL]) r25 S24 ghq26
  replace hG := gC_e hG ghq26
  exact pj_line_110 S  h1 h2 h3 j53_1 j53_2 r25 j53_4 j53_5 S24 SZ (by clear hG hZ; subst_vars; grind [gI_sI, gI_sJ, gI_sA, gI_sL, gJ_sI, gJ_sJ, gJ_sA, gJ_sL, gA_sI, gA_sJ, gA_sA, gA_sL, gL_sI, gL_sJ, gL_sA, gL_sL]) hZ hG
set_option maxHeartbeats 2000000 in
set_option maxRecDepth 100000 in
theorem pj_line_18 (S : mS)   (h1 : 0 ≤ gI S 8 ∧ gI S 8 ≤ gI S 9 ∧ gI S 9 ≤ gI S 7 ∧ gI S 7 ≤ 1600 ∧ (gI S 8 < gI S 7 → gI S 8 < gI S 9)) (h2 : 0 ≤ gI S 6 ∧ gI S 6 ≤ 60) (h3 : (∀ k, 0 ≤ k → k < gI S 6 → 2 ≤ gA S 5 (4 * k) → gA S 5 (4 * k) ≤ 4 → 0 ≤ gA S 5 (4 * k + 1)))   (SZ : mS) (hj18 : True) (hZ : SZ = G_line S ) (hG : G_line S  = G_line_J18 S ) : (fun S9 : mS => 0 ≤ gI S9 8 ∧ gI S9 8 ≤ gI S9 9 ∧ gI S9 9 ≤ gI S9 7 ∧ gI S9 7 ≤ 1600 ∧ (gI S9 8 < gI S9 7 → gI S9 8 < gI S9 9) ∧ gI S 8 ≤ gI S9 8 ∧ 0 ≤ gI S9 6 ∧ gI S9 6 ≤ 60 ∧ (gI S9 10 < 0 → 1 ≤ gI S9 6) ∧ (∀ k, 0 ≤ k → k < gI S9 6 → 2 ≤ gA S9 5 (4 * k) → gA S9 5 (4 * k) ≤ 4 → 0 ≤ gA S9 5 (4 * k + 1)) ∧ (∀ k, k ≠ 6 → k ≠ 8 → k ≠ 9 → k ≠ 10 → gI S9 k = gI S k) ∧ (∀ k, gJ S9 k = gJ S k) ∧ (∀ k i, k ≠ 5 → gA S9 k i = gA S k i) ∧ (∀ k i, gL S9 k i = gL S k i)) SZ := by
  rw [G_line_J18] at hG
  obtain ⟨r28, S27, ghq29⟩ : ∃ (z : Int32) (y : mS), (z, y) = G_wrong S  := ⟨_, _, rfl⟩
  have hq29 := p_wrong S    r28 S27 ghq29
  replace hG := gC_e hG ghq29
  exact gE1 (P := (fun S9 : mS => 0 ≤ gI S9 8 ∧ gI S9 8 ≤ gI S9 9 ∧ gI S9 9 ≤ gI S9 7 ∧ gI S9 7 ≤ 1600 ∧ (gI S9 8 < gI S9 7 → gI S9 8 < gI S9 9) ∧ gI S 8 ≤ gI S9 8 ∧ 0 ≤ gI S9 6 ∧ gI S9 6 ≤ 60 ∧ (gI S9 10 < 0 → 1 ≤ gI S9 6) ∧ (∀ k, 0 ≤ k → k < gI S9 6 → 2 ≤ gA S9 5 (4 * k) → gA S9 5 (4 * k) ≤ 4 → 0 ≤ gA S9 5 (4 * k + 1)) ∧ (∀ k, k ≠ 6 → k ≠ 8 → k ≠ 9 → k ≠ 10 → gI S9 k = gI S k) ∧ (∀ k, gJ S9 k = gJ S k) ∧ (∀ k i, k ≠ 5 → gA S9 k i = gA S k i) ∧ (∀ k i, gL S9 k i = gL S k i))) hZ hG (by clear hG hZ; obtain ⟨-, h9⟩ := hq29; rcases h9 with ⟨a9, rfl⟩ | ⟨a9, rfl⟩ <;> grind [gI_sI, gI_sJ, gI_sA, gI_sL, gJ_sI, gJ_sJ, gJ_sA, gJ_sL, gA_sI, gA_sJ, gA_sA, gA_sL, gL_sI, gL_sJ, gL_sA, gL_sL])
set_option maxHeartbeats 2000000 in
set_option maxRecDepth 100000 in
theorem p_line (S : mS)   (h1 : 0 ≤ gI S 8 ∧ gI S 8 ≤ gI S 9 ∧ gI S 9 ≤ gI S 7 ∧ gI S 7 ≤ 1600 ∧ (gI S 8 < gI S 7 → gI S 8 < gI S 9)) (h2 : 0 ≤ gI S 6 ∧ gI S 6 ≤ 60) (h3 : (∀ k, 0 ≤ k → k < gI S 6 → 2 ≤ gA S 5 (4 * k) → gA S 5 (4 * k) ≤ 4 → 0 ≤ gA S 5 (4 * k + 1))) (SZ : mS) (hZ : SZ = G_line S ) : (fun S9 : mS => 0 ≤ gI S9 8 ∧ gI S9 8 ≤ gI S9 9 ∧ gI S9 9 ≤ gI S9 7 ∧ gI S9 7 ≤ 1600 ∧ (gI S9 8 < gI S9 7 → gI S9 8 < gI S9 9) ∧ gI S 8 ≤ gI S9 8 ∧ 0 ≤ gI S9 6 ∧ gI S9 6 ≤ 60 ∧ (gI S9 10 < 0 → 1 ≤ gI S9 6) ∧ (∀ k, 0 ≤ k → k < gI S9 6 → 2 ≤ gA S9 5 (4 * k) → gA S9 5 (4 * k) ≤ 4 → 0 ≤ gA S9 5 (4 * k + 1)) ∧ (∀ k, k ≠ 6 → k ≠ 8 → k ≠ 9 → k ≠ 10 → gI S9 k = gI S k) ∧ (∀ k, gJ S9 k = gJ S k) ∧ (∀ k i, k ≠ 5 → gA S9 k i = gA S k i) ∧ (∀ k i, gL S9 k i = gL S k i)) SZ := by
  have hG := G_line.eq_1 S 
  obtain ⟨r31, ghq32⟩ : ∃ z : Int32, z = G_word S  := ⟨_, rfl⟩
  have hq32 := (p_word S   (by clear hG hZ; grind [gI_sI, gI_sJ, gI_sA, gI_sL, gJ_sI, gJ_sJ, gJ_sA, gJ_sL, gA_sI, gA_sJ, gA_sA, gA_sL, gL_sI, gL_sJ, gL_sA, gL_sL]) r31 ghq32).2
  replace hG := gLt_e hG ghq32
  rcases Classical.em (((gI S 6) : Int32) = 60) with c33 | c33
  · replace hG := gIf_p hG c33
    exact pj_line_18 S  h1 h2 h3   SZ (trivial) hZ hG
  · replace hG := gIf_n hG c33
    rcases Classical.em (0 ≤ (r31 : Int32)) with c34 | c34
    · replace hG := gIf_p hG c34
      obtain ⟨S35, ghq37⟩ : ∃ z : mS, z = G_next S  := ⟨_, rfl⟩
      have hq37 := p_next S   (by clear hG hZ; grind [gI_sI, gI_sJ, gI_sA, gI_sL, gJ_sI, gJ_sJ, gJ_sA, gJ_sL, gA_sI, gA_sJ, gA_sA, gA_sL, gL_sI, gL_sJ, gL_sA, gL_sL]) S35 ghq37
      replace hG := gLt_e hG ghq37
      obtain ⟨x38, ex38⟩ : ∃ z : Int32, z = 1000000000 := ⟨_, rfl⟩
      replace hG := gLt_e hG ex38
      obtain ⟨x39, ex39⟩ : ∃ z : Int32, z = 0 := ⟨_, rfl⟩
      replace hG := gLt_e hG ex39
      obtain ⟨x40, ex40⟩ : ∃ z : Int32, z = 0 := ⟨_, rfl⟩
      replace hG := gLt_e hG ex40
      obtain ⟨x41, ex41⟩ : ∃ z : Int32, z = 0 := ⟨_, rfl⟩
      replace hG := gLt_e hG ex41
      rcases Classical.em ((r31 : Int32) = 0) with c42 | c42
      · replace hG := gIf_p hG c42
        exact pj_line_53 S  h1 h2 h3 r31 x38 x39 x40 x41 S35 SZ (by clear hG hZ; subst_vars; grind [gI_sI, gI_sJ, gI_sA, gI_sL, gJ_sI, gJ_sJ, gJ_sA, gJ_sL, gA_sI, gA_sJ, gA_sA, gA_sL, gL_sI, gL_sJ, gL_sA, gL_sL]) hZ hG
      · replace hG := gIf_n hG c42
        rcases Classical.em ((r31 : Int32) = 1) with c43 | c43
        · replace hG := gIf_p hG c43
          exact pj_line_53 S  h1 h2 h3 r31 x38 x39 x40 x41 S35 SZ (by clear hG hZ; subst_vars; grind [gI_sI, gI_sJ, gI_sA, gI_sL, gJ_sI, gJ_sJ, gJ_sA, gJ_sL, gA_sI, gA_sJ, gA_sA, gA_sL, gL_sI, gL_sJ, gL_sA, gL_sL]) hZ hG
        · replace hG := gIf_n hG c43
          rcases (Classical.em ((r31 : Int32) = 5)).symm with c44 | c44
          · replace hG := gIf_n hG c44
            rcases Classical.em ((r31 : Int32) = 2) with c45 | c45
            · replace hG := gIf_p hG c45
              exact pj_line_79 S  h1 h2 h3 r31 x38 x39 x40 x41 S35 SZ (by clear hG hZ; subst_vars; grind [gI_sI, gI_sJ, gI_sA, gI_sL, gJ_sI, gJ_sJ, gJ_sA, gJ_sL, gA_sI, gA_sJ, gA_sA, gA_sL, gL_sI, gL_sJ, gL_sA, gL_sL]) hZ hG
            · replace hG := gIf_n hG c45
              rcases Classical.em ((r31 : Int32) = 3) with c46 | c46
              · replace hG := gIf_p hG c46
                exact pj_line_79 S  h1 h2 h3 r31 x38 x39 x40 x41 S35 SZ (by clear hG hZ; subst_vars; grind [gI_sI, gI_sJ, gI_sA, gI_sL, gJ_sI, gJ_sJ, gJ_sA, gJ_sL, gA_sI, gA_sJ, gA_sA, gA_sL, gL_sI, gL_sJ, gL_sA, gL_sL]) hZ hG
              · replace hG := gIf_n hG c46
                rcases (Classical.em ((r31 : Int32) = 4)).symm with c47 | c47
                · replace hG := gIf_n hG c47
                  rcases Classical.em ((r31 : Int32) = 6) with c48 | c48
                  · replace hG := gIf_p hG c48
                    exact pj_line_110 S  h1 h2 h3 r31 x38 x39 x40 x41 S35 SZ (by clear hG hZ; subst_vars; grind [gI_sI, gI_sJ, gI_sA, gI_sL, gJ_sI, gJ_sJ, gJ_sA, gJ_sL, gA_sI, gA_sJ, gA_sA, gA_sL, gL_sI, gL_sJ, gL_sA, gL_sL]) hZ hG
                  · replace hG := gIf_n hG c48
                    rcases Classical.em ((r31 : Int32) = 33) with c49 | c49
                    · replace hG := gIf_p hG c49
                      exact pj_line_110 S  h1 h2 h3 r31 x38 x39 x40 x41 S35 SZ (by clear hG hZ; subst_vars; grind [gI_sI, gI_sJ, gI_sA, gI_sL, gJ_sI, gJ_sJ, gJ_sA, gJ_sL, gA_sI, gA_sJ, gA_sA, gA_sL, gL_sI, gL_sJ, gL_sA, gL_sL]) hZ hG
                    · replace hG := gIf_n hG c49
                      obtain ⟨r51, S50, ghq52⟩ : ∃ (z : Int32) (y : mS), (z, y) = G_number S35 0 23 := ⟨_, _, rfl⟩
                      have hq52 := p_number S35 0 23  (by clear hG hZ; grind [gI_sI, gI_sJ, gI_sA, gI_sL, gJ_sI, gJ_sJ, gJ_sA, gJ_sL, gA_sI, gA_sJ, gA_sA, gA_sL, gL_sI, gL_sJ, gL_sA, gL_sL]) r51 S50 ghq52
                      replace hG := gC_e hG ghq52
                      exact pj_line_110 S  h1 h2 h3 r31 x38 r51 x40 x41 S50 SZ (by clear hG hZ; subst_vars; grind [gI_sI, gI_sJ, gI_sA, gI_sL, gJ_sI, gJ_sJ, gJ_sA, gJ_sL, gA_sI, gA_sJ, gA_sA, gA_sL, gL_sI, gL_sJ, gL_sA, gL_sL]) hZ hG
                · replace hG := gIf_p hG c47
                  exact pj_line_79 S  h1 h2 h3 r31 x38 x39 x40 x41 S35 SZ (by clear hG hZ; subst_vars; grind [gI_sI, gI_sJ, gI_sA, gI_sL, gJ_sI, gJ_sJ, gJ_sA, gJ_sL, gA_sI, gA_sJ, gA_sA, gA_sL, gL_sI, gL_sJ, gL_sA, gL_sL]) hZ hG
          · replace hG := gIf_p hG c44
            exact pj_line_53 S  h1 h2 h3 r31 x38 x39 x40 x41 S35 SZ (by clear hG hZ; subst_vars; grind [gI_sI, gI_sJ, gI_sA, gI_sL, gJ_sI, gJ_sJ, gJ_sA, gJ_sL, gA_sI, gA_sJ, gA_sA, gA_sL, gL_sI, gL_sJ, gL_sA, gL_sL]) hZ hG
    · replace hG := gIf_n hG c34
      exact pj_line_18 S  h1 h2 h3   SZ (trivial) hZ hG
set_option maxHeartbeats 2000000 in
set_option maxRecDepth 100000 in
theorem p_read (S : mS)   (h1 : 0 ≤ gI S 2 ∧ gI S 2 ≤ 1600) (SZ : mS) (hZ : SZ = G_read S ) : (fun S9 : mS => gI S9 2 = 0 ∧ 0 ≤ gI S9 8 ∧ gI S9 8 ≤ gI S9 9 ∧ gI S9 9 ≤ gI S9 7 ∧ gI S9 7 ≤ 1600 ∧ (gI S9 8 < gI S9 7 → gI S9 8 < gI S9 9) ∧ 0 ≤ gI S9 6 ∧ gI S9 6 ≤ 60 ∧ (gI S9 10 < 0 → 1 ≤ gI S9 6) ∧ (∀ k, 0 ≤ k → k < gI S9 6 → 2 ≤ gA S9 5 (4 * k) → gA S9 5 (4 * k) ≤ 4 → 0 ≤ gA S9 5 (4 * k + 1)) ∧ (∀ k, k ≠ 2 → k ≠ 6 → k ≠ 7 → k ≠ 8 → k ≠ 9 → k ≠ 10 → gI S9 k = gI S k) ∧ (∀ k, gJ S9 k = gJ S k) ∧ (∀ k i, k ≠ 5 → gA S9 k i = gA S k i) ∧ (∀ k i, gL S9 k i = gL S k i)) SZ := by
  have hG := G_read.eq_1 S 
  obtain ⟨S1, eS1⟩ : ∃ z : mS, z = sI S 7 (gI S 2) := ⟨_, rfl⟩
  replace hG := gLt_e hG eS1
  obtain ⟨S2, eS2⟩ : ∃ z : mS, z = sI S1 2 0 := ⟨_, rfl⟩
  replace hG := gLt_e hG eS2
  obtain ⟨S3, eS3⟩ : ∃ z : mS, z = sI S2 9 0 := ⟨_, rfl⟩
  replace hG := gLt_e hG eS3
  obtain ⟨S4, eS4⟩ : ∃ z : mS, z = sI S3 6 0 := ⟨_, rfl⟩
  replace hG := gLt_e hG eS4
  obtain ⟨S5, eS5⟩ : ∃ z : mS, z = sI S4 10 (-1) := ⟨_, rfl⟩
  replace hG := gLt_e hG eS5
  have n2 : gI S5 2 = 0 := by clear hG hZ; subst_vars; rfl
  have n6 : gI S5 6 = 0 := by clear hG hZ; subst_vars; rfl
  have n9 : 0 ≤ gI S5 9 ∧ gI S5 9 ≤ gI S5 7 ∧ gI S5 7 ≤ 1600 := by
    have q9 : gI S5 9 = 0 := by clear hG hZ; subst_vars; rfl
    have q7 : gI S5 7 = gI S 2 := by clear hG hZ; subst_vars; rfl
    rw [q9, q7]; exact ⟨by decide, h1.1, h1.2⟩
  have n0 : ∀ k, k ≠ 2 → k ≠ 6 → k ≠ 7 → k ≠ 9 → k ≠ 10 → gI S5 k = gI S k := fun k k2 k6 k7 k9 k10 => by clear hG hZ; subst_vars; simp only [gI_sI, if_neg k2, if_neg k6, if_neg k7, if_neg k9, if_neg k10]
  have nJ : ∀ k, gJ S5 k = gJ S k := fun k => by clear hG hZ; subst_vars; rfl
  have nA : ∀ k i, gA S5 k i = gA S k i := fun k i => by clear hG hZ; subst_vars; rfl
  have nL : ∀ k i, gL S5 k i = gL S k i := fun k i => by clear hG hZ; subst_vars; rfl
  obtain ⟨S6, ghq8⟩ : ∃ z : mS, z = G_next S5  := ⟨_, rfl⟩
  have hq8 := p_next S5   (n9) S6 ghq8
  replace hG := gLt_e hG ghq8
  obtain ⟨m1, m2, m3, m4, m5, m6, m7, m8, m9, m10⟩ := id hq8
  have n6b : gI S6 6 = 0 := by rw [m7 6 (by decide) (by decide)]; exact n6
  clear m7 m8 m9 m10
  obtain ⟨S9, ghq11⟩ : ∃ z : mS, z = G_line S6  := ⟨_, rfl⟩
  have hq11 := p_line S6   (⟨m1, m2, m3, m4, m5⟩) (by clear hG hZ; clear m1 m2 m3 m4 m5; grind) (fun k k0 k1 => absurd k1 (by clear hG hZ; rw [n6b]; grind)) S9 ghq11
  replace hG := gLt_e hG ghq11
  have loop36 : ∀ (N36 : Nat)  (SL36 : mS), (gI SL36 2 = 0 ∧ 0 ≤ gI SL36 8 ∧ gI SL36 8 ≤ gI SL36 9 ∧ gI SL36 9 ≤ gI SL36 7 ∧ gI SL36 7 ≤ 1600 ∧ (gI SL36 8 < gI SL36 7 → gI SL36 8 < gI SL36 9) ∧ 0 ≤ gI SL36 6 ∧ gI SL36 6 ≤ 60 ∧ (gI SL36 10 < 0 → 1 ≤ gI SL36 6) ∧ (∀ k, 0 ≤ k → k < gI SL36 6 → 2 ≤ gA SL36 5 (4 * k) → gA SL36 5 (4 * k) ≤ 4 → 0 ≤ gA SL36 5 (4 * k + 1)) ∧ (∀ k, k ≠ 2 → k ≠ 6 → k ≠ 7 → k ≠ 8 → k ≠ 9 → k ≠ 10 → gI SL36 k = gI S k) ∧ (∀ k, gJ SL36 k = gJ S k) ∧ (∀ k i, k ≠ 5 → gA SL36 k i = gA S k i) ∧ (∀ k i, gL SL36 k i = gL S k i)) → ((if gI SL36 10 < 0 then gI SL36 7 - gI SL36 8 + 1 else 0).toInt.toNat) < N36 → (G_read S  = G_read_L36  N36  SL36) → (fun S9 : mS => gI S9 2 = 0 ∧ 0 ≤ gI S9 8 ∧ gI S9 8 ≤ gI S9 9 ∧ gI S9 9 ≤ gI S9 7 ∧ gI S9 7 ≤ 1600 ∧ (gI S9 8 < gI S9 7 → gI S9 8 < gI S9 9) ∧ 0 ≤ gI S9 6 ∧ gI S9 6 ≤ 60 ∧ (gI S9 10 < 0 → 1 ≤ gI S9 6) ∧ (∀ k, 0 ≤ k → k < gI S9 6 → 2 ≤ gA S9 5 (4 * k) → gA S9 5 (4 * k) ≤ 4 → 0 ≤ gA S9 5 (4 * k + 1)) ∧ (∀ k, k ≠ 2 → k ≠ 6 → k ≠ 7 → k ≠ 8 → k ≠ 9 → k ≠ 10 → gI S9 k = gI S k) ∧ (∀ k, gJ S9 k = gJ S k) ∧ (∀ k i, k ≠ 5 → gA S9 k i = gA S k i) ∧ (∀ k i, gL S9 k i = gL S k i)) SZ := by
    intro N36
    induction N36 with
    | zero => intro  SL36 hi36 hm36; exact absurd hm36 (Nat.not_lt_zero _)
    | succ N36 ih36 =>
      intro  SL36 hi36 hm36 hG
      rw [G_read_L36] at hG
      obtain ⟨i0, i1, i2, i3, i4, i5, i6, i7, i8, i9, -⟩ := id hi36
      rcases Classical.em (0 ≤ ((gI SL36 10) : Int32)) with c12 | c12
      · replace hG := gIf_p hG c12
        exact gE1 (P := (fun S9 : mS => gI S9 2 = 0 ∧ 0 ≤ gI S9 8 ∧ gI S9 8 ≤ gI S9 9 ∧ gI S9 9 ≤ gI S9 7 ∧ gI S9 7 ≤ 1600 ∧ (gI S9 8 < gI S9 7 → gI S9 8 < gI S9 9) ∧ 0 ≤ gI S9 6 ∧ gI S9 6 ≤ 60 ∧ (gI S9 10 < 0 → 1 ≤ gI S9 6) ∧ (∀ k, 0 ≤ k → k < gI S9 6 → 2 ≤ gA S9 5 (4 * k) → gA S9 5 (4 * k) ≤ 4 → 0 ≤ gA S9 5 (4 * k + 1)) ∧ (∀ k, k ≠ 2 → k ≠ 6 → k ≠ 7 → k ≠ 8 → k ≠ 9 → k ≠ 10 → gI S9 k = gI S k) ∧ (∀ k, gJ S9 k = gJ S k) ∧ (∀ k i, k ≠ 5 → gA S9 k i = gA S k i) ∧ (∀ k i, gL S9 k i = gL S k i))) hZ hG (hi36)
      · replace hG := gIf_n hG c12
        have hf : gI SL36 10 < 0 := by clear hG hZ hi36; grind
        rcases Classical.em ((gI SL36 7) ≤ ((gI SL36 8) : Int32)) with c13 | c13
        · replace hG := gIf_p hG c13
          exact gE1 (P := (fun S9 : mS => gI S9 2 = 0 ∧ 0 ≤ gI S9 8 ∧ gI S9 8 ≤ gI S9 9 ∧ gI S9 9 ≤ gI S9 7 ∧ gI S9 7 ≤ 1600 ∧ (gI S9 8 < gI S9 7 → gI S9 8 < gI S9 9) ∧ 0 ≤ gI S9 6 ∧ gI S9 6 ≤ 60 ∧ (gI S9 10 < 0 → 1 ≤ gI S9 6) ∧ (∀ k, 0 ≤ k → k < gI S9 6 → 2 ≤ gA S9 5 (4 * k) → gA S9 5 (4 * k) ≤ 4 → 0 ≤ gA S9 5 (4 * k + 1)) ∧ (∀ k, k ≠ 2 → k ≠ 6 → k ≠ 7 → k ≠ 8 → k ≠ 9 → k ≠ 10 → gI S9 k = gI S k) ∧ (∀ k, gJ S9 k = gJ S k) ∧ (∀ k i, k ≠ 5 → gA S9 k i = gA S k i) ∧ (∀ k i, gL S9 k i = gL S k i))) hZ hG (hi36)
        · replace hG := gIf_n hG c13
          rcases Classical.em (((gA SL36 1 (gI SL36 8)) : Int32) = 59) with c14 | c14
          · replace hG := gIf_p hG c14
            obtain ⟨S15, ghq17⟩ : ∃ z : mS, z = G_next SL36  := ⟨_, rfl⟩
            have hq17 := p_next SL36   (by clear hG hZ ih36 hm36; clear hi36; grind) S15 ghq17
            replace hG := gLt_e hG ghq17
            obtain ⟨m1, m2, m3, m4, m5, m6, m7, m8, m9, m10⟩ := id hq17
            obtain ⟨S18, ghq20⟩ : ∃ z : mS, z = G_line S15  := ⟨_, rfl⟩
            have hq20 := p_line S15   (⟨m1, m2, m3, m4, m5⟩) (by clear hG hZ ih36 hm36; rw [m7 6 (by decide) (by decide)]; exact ⟨i6, i7⟩) (by clear hG hZ ih36 hm36; rw [m7 6 (by decide) (by decide)]; intro k; rw [m9, m9]; exact i9 k) S18 ghq20
            replace hG := gLt_e hG ghq20
            have q8 : gI SL36 8 < gI S18 8 := by have q := hq20.2.2.2.2.2.1; clear m7 m8 m9 m10 hi36; grind
            have q7 : gI S18 7 = gI SL36 7 := by have q := hq20.2.2.2.2.2.2.2.2.2.2.1 7 (by decide) (by decide) (by decide) (by decide); rw [q]; exact m7 7 (by decide) (by decide)
            have q0 : gI S18 8 ≤ gI S18 7 := by have q := hq20.2.1; have r := hq20.2.2.1; clear m7 m8 m9 m10 hi36; grind
            clear m1 m2 m3 m4 m5 m6 m7 m8 m9 m10
            obtain ⟨m0, m1⟩ := rd_m (y := gI S18 10) hf q7 q8 q0 i1 i4
            exact ih36  S18 (by clear hG hZ ih36 hm36; first | exact rd_step hi36 hq17 hq20 | exact rd_wrong hi36 (by grind) w9) (msd hm36 m0 m1) hG
          · replace hG := gIf_n hG c14
            obtain ⟨r22, S21, ghq23⟩ : ∃ (z : Int32) (y : mS), (z, y) = G_wrong SL36  := ⟨_, _, rfl⟩
            have hq23 := p_wrong SL36    r22 S21 ghq23
            replace hG := gC_e hG ghq23
            have w9 : S21 = sI SL36 10 (gI SL36 8) := by rcases hq23.2 with q | q; exact q.2; exact absurd hf q.1
            have m0 : (0 : Int32) ≤ (if gI S21 10 < 0 then gI S21 7 - gI S21 8 + 1 else 0) := by rw [w9, gI_sI, if_pos rfl, if_neg (by clear hG hZ hi36 w9; grind)]; decide
            have m1 : (if gI S21 10 < 0 then gI S21 7 - gI S21 8 + 1 else 0) < (if gI SL36 10 < 0 then gI SL36 7 - gI SL36 8 + 1 else 0) := by rw [w9, gI_sI, if_pos rfl, if_neg (by clear hG hZ hi36 w9; grind), if_pos hf]; clear hi36 w9; grind
            exact ih36  S21 (by clear hG hZ ih36 hm36; first | exact rd_step hi36 nope9 nope9 | exact rd_wrong hi36 (by grind) w9) (msd hm36 m0 m1) hG
  exact loop36 ((if gI S9 10 < 0 then gI S9 7 - gI S9 8 + 1 else 0).toInt.toNat + 1)  S9 (rd_first n2 n6 n0 nJ nA nL hq8 hq11) (Nat.lt_succ_self _) hG

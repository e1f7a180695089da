set_option maxHeartbeats 400000 in
set_option maxRecDepth 100000 in
theorem p_firstGoesOn (S : mS) (b : Int32)  (h1 : 0 ≤ b ∧ b < 24) (h2 : mInv S) (h3 : 0 < gA S 33 b) (rZ : Int32) (SZ : mS) (hZ : (rZ, SZ) = G_firstGoesOn S b) : (fun (r9 : Int32) (S9 : mS) => stp S S9 ∧ r9 = gA S 32 (8 * b) ∧ (0 ≤ r9 ∧ r9 < 8) ∧ (0 ≤ gA S9 33 b ∧ gA S9 33 b < gA S 33 b) ∧ (∀ k i, k ≠ 13 → k ≠ 15 → k ≠ 16 → k ≠ 32 → k ≠ 33 → gA S9 k i = gA S k i)) rZ SZ := by
  have hG := G_firstGoesOn.eq_1 S b
  obtain ⟨x1, ex1⟩ : ∃ z : Int32, z = (gA S 32 (8 * b)) := ⟨_, rfl⟩
  replace hG := gLt_e hG ex1
  have hin : ∃ i, 0 ≤ i ∧ i < gA S 33 b ∧ gA S 32 (8 * b + i) = x1 := ⟨0, by decide, h3, by rw [ex1, Int32.add_zero]⟩
  obtain ⟨S2, ghq4⟩ : ∃ z : mS, z = G_leaves S b x1 := ⟨_, rfl⟩
  have hq4 := p_leaves S b x1  (h1) (pre_lv h1 h2) (rd_lv h1 h2) S2 ghq4
  replace hG := gLt_e hG ghq4
  obtain ⟨S5, ghq7⟩ : ∃ z : mS, z = G_goesOn S2 x1 := ⟨_, rfl⟩
  have hq7 := p_goesOn S2 x1  ((in_row h1 h2 hin).1) S5 ghq7
  replace hG := gLt_e hG ghq7
  exact gE2 (P := (fun (r9 : Int32) (S9 : mS) => stp S S9 ∧ r9 = gA S 32 (8 * b) ∧ (0 ≤ r9 ∧ r9 < 8) ∧ (0 ≤ gA S9 33 b ∧ gA S9 33 b < gA S 33 b) ∧ (∀ k i, k ≠ 13 → k ≠ 15 → k ≠ 16 → k ≠ 32 → k ≠ 33 → gA S9 k i = gA S k i))) hZ hG (by clear hG hZ; obtain ⟨q1, q2, q3⟩ := lg_inv h1 h2 hin hq4 hq7; exact ⟨q1, ex1, (in_row h1 h2 hin).1, q2, q3⟩)
set_option maxHeartbeats 400000 in
set_option maxRecDepth 100000 in
theorem pj_has_60 (S : mS) (b : Int32) (t : Int32)  (h1 : 0 ≤ b ∧ b < 24) (h2 : mInv S) (h3 : gA S 28 b = 1) (h4 : ∃ i, 0 ≤ i ∧ i < gA S 33 b ∧ gA S 32 (8 * b + i) = t)  (SJ60 : mS) (SZ : mS) (hj60 : stp S SJ60 ∧ (∀ k i, k ≠ 14 → k ≠ 22 → k ≠ 29 → k ≠ 31 → gA SJ60 k i = gA S k i)) (hZ : SZ = G_has S b t) (hG : G_has S b t = G_has_J60 b t  SJ60) : (fun S9 : mS => stp S S9 ∧ (∀ k i, k = 34 ∨ k = 35 → gA S9 k i = gA S k i)) SZ := by
  obtain ⟨w1, w2⟩ := id hj60
  have hin : ∃ i, 0 ≤ i ∧ i < gA SJ60 33 b ∧ gA SJ60 32 (8 * b + i) = t := by obtain ⟨i, a1, a2, a3⟩ := h4; exact ⟨i, a1, by rw [w2 33 b (by decide) (by decide) (by decide) (by decide)]; exact a2, by rw [w2 32 _ (by decide) (by decide) (by decide) (by decide)]; exact a3⟩
  rw [G_has_J60] at hG
  obtain ⟨S1, ghq3⟩ : ∃ z : mS, z = G_leaves SJ60 b t := ⟨_, rfl⟩
  have hq3 := p_leaves SJ60 b t  (h1) (pre_lv h1 w1.1) (rd_lv h1 w1.1) S1 ghq3
  replace hG := gLt_e hG ghq3
  obtain ⟨S4, ghq6⟩ : ∃ z : mS, z = G_goesOn S1 t := ⟨_, rfl⟩
  have hq6 := p_goesOn S1 t  ((in_row h1 h2 h4).1) S4 ghq6
  replace hG := gLt_e hG ghq6
  exact gE1 (P := (fun S9 : mS => stp S S9 ∧ (∀ k i, k = 34 ∨ k = 35 → gA S9 k i = gA S k i))) hZ hG (by clear hG hZ; obtain ⟨q1, q2, q3⟩ := lg_inv h1 w1.1 hin hq3 hq6; exact ⟨stp_tr w1 q1, fun k i hk => by rcases hk with rfl | rfl <;> rw [q3 _ i (by decide) (by decide) (by decide) (by decide) (by decide), w2 _ i (by decide) (by decide) (by decide) (by decide)]⟩)
set_option maxHeartbeats 400000 in
set_option maxRecDepth 100000 in
theorem p_has (S : mS) (b : Int32) (t : Int32)  (h1 : 0 ≤ b ∧ b < 24) (h2 : mInv S) (h3 : gA S 28 b = 1) (h4 : ∃ i, 0 ≤ i ∧ i < gA S 33 b ∧ gA S 32 (8 * b + i) = t) (SZ : mS) (hZ : SZ = G_has S b t) : (fun S9 : mS => stp S S9 ∧ (∀ k i, k = 34 ∨ k = 35 → gA S9 k i = gA S k i)) SZ := by
  have ht := (in_row h1 h2 h4).1
  have hG := G_has.eq_1 S b t
  obtain ⟨S7, eS7⟩ : ∃ z : mS, z = sA S 31 b (t) := ⟨_, rfl⟩
  replace hG := gLt_e hG eS7
  rcases Classical.em (((gA S7 22 t) : Int32) = 0) with c8 | c8
  · replace hG := gIf_p hG c8
    obtain ⟨S9, eS9⟩ : ∃ z : mS, z = sA S7 29 b (1) := ⟨_, rfl⟩
    replace hG := gLt_e hG eS9
    rcases Classical.em (((gA S9 22 t) : Int32) = 0) with c10 | c10
    · replace hG := gIf_p hG c10
      obtain ⟨S11, eS11⟩ : ∃ z : mS, z = sA S9 22 t (vp_nar .boolean 0) := ⟨_, rfl⟩
      replace hG := gLt_e hG eS11
      exact pj_has_60 S b t h1 h2 h3 h4  S11 SZ (by clear hG hZ; first | exact has_j h1 h2 h3 h4 eS7 eS9 (Or.inr ⟨_, nope9⟩) eS11 | exact has_j h1 h2 h3 h4 eS7 eS9 (Or.inl rfl) eS11) hZ hG
    · replace hG := gIf_n hG c10
      obtain ⟨S12, eS12⟩ : ∃ z : mS, z = sA S9 14 t ((gA S9 19 t)) := ⟨_, rfl⟩
      replace hG := gLt_e hG eS12
      obtain ⟨S13, eS13⟩ : ∃ z : mS, z = sA S12 22 t (vp_nar .boolean 0) := ⟨_, rfl⟩
      replace hG := gLt_e hG eS13
      exact pj_has_60 S b t h1 h2 h3 h4  S13 SZ (by clear hG hZ; first | exact has_j h1 h2 h3 h4 eS7 eS9 (Or.inr ⟨_, eS12⟩) eS13 | exact has_j h1 h2 h3 h4 eS7 eS9 (Or.inl rfl) eS13) hZ hG
  · replace hG := gIf_n hG c8
    obtain ⟨S14, eS14⟩ : ∃ z : mS, z = sA S7 29 b ((gA S7 18 t)) := ⟨_, rfl⟩
    replace hG := gLt_e hG eS14
    rcases Classical.em (((gA S14 22 t) : Int32) = 0) with c15 | c15
    · replace hG := gIf_p hG c15
      obtain ⟨S16, eS16⟩ : ∃ z : mS, z = sA S14 22 t (vp_nar .boolean 0) := ⟨_, rfl⟩
      replace hG := gLt_e hG eS16
      exact pj_has_60 S b t h1 h2 h3 h4  S16 SZ (by clear hG hZ; first | exact has_j h1 h2 h3 h4 eS7 eS14 (Or.inr ⟨_, nope9⟩) eS16 | exact has_j h1 h2 h3 h4 eS7 eS14 (Or.inl rfl) eS16) hZ hG
    · replace hG := gIf_n hG c15
      obtain ⟨S17, eS17⟩ : ∃ z : mS, z = sA S14 14 t ((gA S14 19 t)) := ⟨_, rfl⟩
      replace hG := gLt_e hG eS17
      obtain ⟨S18, eS18⟩ : ∃ z : mS, z = sA S17 22 t (vp_nar .boolean 0) := ⟨_, rfl⟩
      replace hG := gLt_e hG eS18
      exact pj_has_60 S b t h1 h2 h3 h4  S18 SZ (by clear hG hZ; first | exact has_j h1 h2 h3 h4 eS7 eS14 (Or.inr ⟨_, eS17⟩) eS18 | exact has_j h1 h2 h3 h4 eS7 eS14 (Or.inl rfl) eS18) hZ hG
set_option maxHeartbeats 400000 in
set_option maxRecDepth 100000 in
theorem p_freed (S : mS) (b : Int32)  (h1 : 0 ≤ b ∧ b < 24) (h2 : mInv S) (h3 : gA S 28 b = 1) (SZ : mS) (hZ : SZ = G_freed S b) : (fun S9 : mS => stp S S9 ∧ (∀ k i, k = 34 ∨ k = 35 → gA S9 k i = gA S k i)) SZ := by
  have hG := G_freed.eq_1 S b
  obtain ⟨S1, eS1⟩ : ∃ z : mS, z = sA S 31 b ((-1)) := ⟨_, rfl⟩
  replace hG := gLt_e hG eS1
  obtain ⟨S2, eS2⟩ : ∃ z : mS, z = sA S1 29 b (0) := ⟨_, rfl⟩
  replace hG := gLt_e hG eS2
  obtain ⟨w1, w2⟩ := fr_j h1 h2 h3 eS1 eS2
  have w33 : gA S2 33 b = gA S 33 b := w2 33 b (by decide) (by decide)
  have w28 : gA S2 28 b = 1 := (w2 28 b (by decide) (by decide)).trans h3
  have l8 := pre_lv h1 w1.1
  rcases (Classical.em (((gA S2 33 b) : Int32) = 0)).symm with c3 | c3
  · replace hG := gIf_n hG c3
    obtain ⟨x4, ex4⟩ : ∃ z : Int32, z = (gA S2 32 (8 * b)) := ⟨_, rfl⟩
    replace hG := gLt_e hG ex4
    have hin : ∃ i, 0 ≤ i ∧ i < gA S2 33 b ∧ gA S2 32 (8 * b + i) = x4 := ⟨0, by decide, by clear hG hZ w1 w2 h2; grind, by rw [ex4, Int32.add_zero]⟩
    have ht := (in_row h1 w1.1 hin).1
    rcases (Classical.em (((gA S2 30 b) : Int32) = 1)).symm with c5 | c5
    · replace hG := gIf_n hG c5
      obtain ⟨S6, eS6⟩ : ∃ z : mS, z = sA S2 13 x4 (1) := ⟨_, rfl⟩
      replace hG := gLt_e hG eS6
      obtain ⟨S7, eS7⟩ : ∃ z : mS, z = sA S6 16 x4 ((-1)) := ⟨_, rfl⟩
      replace hG := gLt_e hG eS7
      exact gE1 (P := (fun S9 : mS => stp S S9 ∧ (∀ k i, k = 34 ∨ k = 35 → gA S9 k i = gA S k i))) hZ hG (by clear hG hZ; first | (obtain ⟨q1, q2⟩ := nope9; exact ⟨stp_tr w1 q1, fun k i hk => (q2 k i hk).trans (by rcases hk with rfl | rfl <;> exact w2 _ i (by decide) (by decide))⟩) | exact ⟨stp_tr w1 (st1_stp h1 w1.1 hin w28 eS6 eS7), fun k i hk => by rw [eS7, eS6]; rcases hk with rfl | rfl <;> simp [gA_sA] <;> exact w2 _ i (by decide) (by decide)⟩)
    · replace hG := gIf_p hG c5
      obtain ⟨S8, ghq10⟩ : ∃ z : mS, z = G_has S2 b x4 := ⟨_, rfl⟩
      have hq10 := p_has S2 b x4  (h1) (w1.1) (w28) (hin) S8 ghq10
      replace hG := gLt_e hG ghq10
      exact gE1 (P := (fun S9 : mS => stp S S9 ∧ (∀ k i, k = 34 ∨ k = 35 → gA S9 k i = gA S k i))) hZ hG (by clear hG hZ; first | (obtain ⟨q1, q2⟩ := hq10; exact ⟨stp_tr w1 q1, fun k i hk => (q2 k i hk).trans (by rcases hk with rfl | rfl <;> exact w2 _ i (by decide) (by decide))⟩) | exact ⟨stp_tr w1 (st1_stp h1 w1.1 hin w28 nope9 nope9), fun k i hk => by rw [nope9, nope9]; rcases hk with rfl | rfl <;> simp [gA_sA] <;> exact w2 _ i (by decide) (by decide)⟩)
  · replace hG := gIf_p hG c3
    exact gE1 (P := (fun S9 : mS => stp S S9 ∧ (∀ k i, k = 34 ∨ k = 35 → gA S9 k i = gA S k i))) hZ hG (⟨w1, fun k i hk => by rcases hk with rfl | rfl <;> exact w2 _ i (by clear hG hZ; decide) (by clear hG hZ; decide)⟩)
set_option maxHeartbeats 400000 in
set_option maxRecDepth 100000 in
theorem p_rowOf (S : mS) (t : Int32)  (h1 : mInv S) (rZ : Int32) (hZ : rZ = G_rowOf S t) : (fun r9 : Int32 => S = S ∧ ((r9 = -1 ∧ ∀ b i, 0 ≤ b → b < 24 → gA S 28 b = 1 → 0 ≤ i → i < gA S 33 b → gA S 32 (8 * b + i) ≠ t) ∨ (0 ≤ r9 ∧ r9 < 24 ∧ gA S 28 r9 = 1 ∧ ∃ i, 0 ≤ i ∧ i < gA S 33 r9 ∧ gA S 32 (8 * r9 + i) = t))) rZ := by
  have hG := G_rowOf.eq_1 S t
  obtain ⟨x1, ex1⟩ : ∃ z : Int32, z = 0 := ⟨_, rfl⟩
  replace hG := gLt_e hG ex1
  have loop2 : ∀ (N2 : Nat) (v2_2 : Int32) , (0 ≤ v2_2 ∧ v2_2 ≤ 24 ∧ ∀ b i, 0 ≤ b → b < v2_2 → gA S 28 b = 1 → 0 ≤ i → i < gA S 33 b → gA S 32 (8 * b + i) ≠ t) → ((24 - v2_2).toInt.toNat) < N2 → (G_rowOf S t = G_rowOf_L2 S t N2 v2_2) → (fun r9 : Int32 => S = S ∧ ((r9 = -1 ∧ ∀ b i, 0 ≤ b → b < 24 → gA S 28 b = 1 → 0 ≤ i → i < gA S 33 b → gA S 32 (8 * b + i) ≠ t) ∨ (0 ≤ r9 ∧ r9 < 24 ∧ gA S 28 r9 = 1 ∧ ∃ i, 0 ≤ i ∧ i < gA S 33 r9 ∧ gA S 32 (8 * r9 + i) = t))) rZ := by
    intro N2
    induction N2 with
    | zero => intro v2_2  hi2 hm2; exact absurd hm2 (Nat.not_lt_zero _)
    | succ N2 ih2 =>
      intro v2_2  hi2 hm2 hG
      rw [G_rowOf_L2] at hG
      obtain ⟨w1, w2, w3⟩ := id hi2
      rcases Classical.em (24 ≤ (v2_2 : Int32)) with c2 | c2
      · replace hG := gIf_p hG c2
        exact gE1 (P := (fun r9 : Int32 => S = S ∧ ((r9 = -1 ∧ ∀ b i, 0 ≤ b → b < 24 → gA S 28 b = 1 → 0 ≤ i → i < gA S 33 b → gA S 32 (8 * b + i) ≠ t) ∨ (0 ≤ r9 ∧ r9 < 24 ∧ gA S 28 r9 = 1 ∧ ∃ i, 0 ≤ i ∧ i < gA S 33 r9 ∧ gA S 32 (8 * r9 + i) = t)))) hZ hG (⟨rfl, Or.inl ⟨rfl, fun b i b0 b1 => w3 b i b0 (by clear hG hZ ih2 hm2; have := c2; clear w3 h1 hi2; grind)⟩⟩)
      · replace hG := gIf_n hG c2
        rcases Classical.em (((gA S 28 v2_2) : Int32) = 1) with c3 | c3
        · replace hG := gIf_p hG c3
          obtain ⟨x4, ex4⟩ : ∃ z : Int32, z = 0 := ⟨_, rfl⟩
          replace hG := gLt_e hG ex4
          have loop23 : ∀ (N23 : Nat) (v23_3 : Int32) , (0 ≤ v23_3 ∧ v23_3 ≤ gA S 33 v2_2 ∧ ∀ i, 0 ≤ i → i < v23_3 → gA S 32 (8 * v2_2 + i) ≠ t) → ((gA S 33 v2_2 - v23_3).toInt.toNat) < N23 → (G_rowOf S t = G_rowOf_L23 S t v2_2 (fun z0 => G_rowOf_L2 S t N2 z0) N23 v23_3) → (fun r9 : Int32 => S = S ∧ ((r9 = -1 ∧ ∀ b i, 0 ≤ b → b < 24 → gA S 28 b = 1 → 0 ≤ i → i < gA S 33 b → gA S 32 (8 * b + i) ≠ t) ∨ (0 ≤ r9 ∧ r9 < 24 ∧ gA S 28 r9 = 1 ∧ ∃ i, 0 ≤ i ∧ i < gA S 33 r9 ∧ gA S 32 (8 * r9 + i) = t))) rZ := by
            intro N23
            induction N23 with
            | zero => intro v23_3  hi23 hm23; exact absurd hm23 (Nat.not_lt_zero _)
            | succ N23 ih23 =>
              intro v23_3  hi23 hm23 hG
              rw [G_rowOf_L23] at hG
              rcases Classical.em ((gA S 33 v2_2) ≤ (v23_3 : Int32)) with c5 | c5
              · replace hG := gIf_p hG c5
                obtain ⟨x6, ex6⟩ : ∃ z : Int32, z = v2_2 + (1) := ⟨_, rfl⟩
                replace hG := gLt_e hG ex6
                exact ih2 x6  (by clear hG hZ ih2 ih23 hm2 hm23; first | exact rw_next ex6 w1 (i_lt c2) w3 (Or.inl c3) | exact rw_next ex6 w1 (i_lt c2) w3 (Or.inr (rw_in hi23 c5))) (msd hm2 (a_dec ex6 w1 (i_lt c2)).1 (a_dec ex6 w1 (i_lt c2)).2) hG
              · replace hG := gIf_n hG c5
                rcases (Classical.em (((gA S 32 ((8 * v2_2) + v23_3)) : Int32) = t)).symm with c7 | c7
                · replace hG := gIf_n hG c7
                  obtain ⟨x8, ex8⟩ : ∃ z : Int32, z = v23_3 + (1) := ⟨_, rfl⟩
                  replace hG := gLt_e hG ex8
                  exact ih23 x8  (rw_nx hi23 c5 ex8 c7) (msd hm23 (a_dec ex8 hi23.1 (i_lt c5)).1 (a_dec ex8 hi23.1 (i_lt c5)).2) hG
                · replace hG := gIf_p hG c7
                  exact gE1 (P := (fun r9 : Int32 => S = S ∧ ((r9 = -1 ∧ ∀ b i, 0 ≤ b → b < 24 → gA S 28 b = 1 → 0 ≤ i → i < gA S 33 b → gA S 32 (8 * b + i) ≠ t) ∨ (0 ≤ r9 ∧ r9 < 24 ∧ gA S 28 r9 = 1 ∧ ∃ i, 0 ≤ i ∧ i < gA S 33 r9 ∧ gA S 32 (8 * r9 + i) = t)))) hZ hG (⟨rfl, Or.inr ⟨w1, i_lt c2, c3, v23_3, hi23.1, i_lt c5, c7⟩⟩)
          exact loop23 ((gA S 33 v2_2 - x4).toInt.toNat + 1) x4  (by clear hG hZ ih2 hm2; rw [ex4]; exact ⟨by decide, (pre_lv ⟨w1, i_lt c2⟩ h1).1, fun i i0 i1 => by exfalso; clear h1 w3 hi2; grind⟩) (Nat.lt_succ_self _) hG
        · replace hG := gIf_n hG c3
          obtain ⟨x9, ex9⟩ : ∃ z : Int32, z = v2_2 + (1) := ⟨_, rfl⟩
          replace hG := gLt_e hG ex9
          exact ih2 x9  (by clear hG hZ ih2 hm2; first | exact rw_next ex9 w1 (i_lt c2) w3 (Or.inl c3) | exact rw_next ex9 w1 (i_lt c2) w3 (Or.inr (rw_in hi23 nope9))) (msd hm2 (a_dec ex9 w1 (i_lt c2)).1 (a_dec ex9 w1 (i_lt c2)).2) hG
  exact loop2 ((24 - x1).toInt.toNat + 1) x1  (by clear hG hZ; subst_vars; exact ⟨by decide, by decide, fun b i b0 b1 => by exfalso; clear h1; grind⟩) (Nat.lt_succ_self _) hG
set_option maxHeartbeats 400000 in
set_option maxRecDepth 100000 in
theorem pj_signalled_104 (S : mS) (b : Int32) (t : Int32)  (h1 : 0 ≤ b ∧ b < 24) (h2 : mInv S) (h3 : 0 ≤ t ∧ t < 8) (h4 : gA S 21 t ≠ 0) (h5 : gA S 16 t = b) (j104_s0 : Int32) (SJ104 : mS) (SZ : mS) (hj104 : stp S SJ104 ∧ nR SJ104 t ∧ gA SJ104 21 t = 0 ∧ (0 ≤ gA SJ104 15 t ∧ gA SJ104 15 t < gA SJ104 12 t ∧ gA SJ104 12 t ≤ 60) ∧ gA SJ104 28 b = 1 ∧ gA SJ104 35 b + 1 = gA S 35 b) (hZ : SZ = G_signalled S b t) (hG : G_signalled S b t = G_signalled_J104 b t j104_s0 SJ104) : (fun S9 : mS => stp S S9 ∧ gA S9 35 b + 1 = gA S 35 b) SZ := by
  rw [G_signalled_J104] at hG
  obtain ⟨S1, ghq3⟩ : ∃ z : mS, z = G_waitFor SJ104 t b := ⟨_, rfl⟩
  have hq3 := p_waitFor SJ104 t b  (h3) (h1) (roomW h1 h3 hj104.1.1 hj104.2.1) S1 ghq3
  replace hG := gLt_e hG ghq3
  obtain ⟨u1, u2, u3⟩ := sg_w h1 h3 h4 hj104 hq3
  rcases Classical.em ((j104_s0 : Int32) = 0) with c4 | c4
  · replace hG := gIf_p hG c4
    exact gE1 (P := (fun S9 : mS => stp S S9 ∧ gA S9 35 b + 1 = gA S 35 b)) hZ hG (by clear hG hZ; first | exact ⟨stp_tr u1 nope9.1, by rw [nope9.2 35 _ (by simp)]; exact u3⟩ | exact ⟨u1, u3⟩)
  · replace hG := gIf_n hG c4
    obtain ⟨S5, ghq7⟩ : ∃ z : mS, z = G_freed S1 b := ⟨_, rfl⟩
    have hq7 := p_freed S1 b  (h1) (u1.1) (u2) S5 ghq7
    replace hG := gLt_e hG ghq7
    exact gE1 (P := (fun S9 : mS => stp S S9 ∧ gA S9 35 b + 1 = gA S 35 b)) hZ hG (by clear hG hZ; first | exact ⟨stp_tr u1 hq7.1, by rw [hq7.2 35 _ (by simp)]; exact u3⟩ | exact ⟨u1, u3⟩)
set_option maxHeartbeats 400000 in
set_option maxRecDepth 100000 in
theorem p_signalled (S : mS) (b : Int32) (t : Int32)  (h1 : 0 ≤ b ∧ b < 24) (h2 : mInv S) (h3 : 0 ≤ t ∧ t < 8) (h4 : gA S 21 t ≠ 0) (h5 : gA S 16 t = b) (SZ : mS) (hZ : SZ = G_signalled S b t) : (fun S9 : mS => stp S S9 ∧ gA S9 35 b + 1 = gA S 35 b) SZ := by
  have hG := G_signalled.eq_1 S b t
  obtain ⟨x8, ex8⟩ : ∃ z : Int32, z = 0 := ⟨_, rfl⟩
  replace hG := gLt_e hG ex8
  obtain ⟨x9, ex9⟩ : ∃ z : Int32, z = 0 := ⟨_, rfl⟩
  replace hG := gLt_e hG ex9
  have loop5 : ∀ (N5 : Nat) (v5_3 : Int32) (v5_4 : Int32) (SL5 : mS), (lvI S SL5 34 35 b t v5_3 v5_4) → ((gA S 35 b - v5_4).toInt.toNat) < N5 → (G_signalled S b t = G_signalled_L5 b t N5 v5_3 v5_4 SL5) → (fun S9 : mS => stp S S9 ∧ gA S9 35 b + 1 = gA S 35 b) SZ := by
    intro N5
    induction N5 with
    | zero => intro v5_3 v5_4 SL5 hi5 hm5; exact absurd hm5 (Nat.not_lt_zero _)
    | succ N5 ih5 =>
      intro v5_3 v5_4 SL5 hi5 hm5 hG
      rw [G_signalled_L5] at hG
      have hj := id hi5
      obtain ⟨⟨hj1, hj2, hj3⟩, hj4, -⟩ := hj
      have hj5 : gA SL5 35 b = gA S 35 b := hj4 35 b (by decide)
      clear hj4
      have h35 := (h2.2.2.2.1 b h1.1 h1.2).2.1
      rcases Classical.em ((gA SL5 35 b) ≤ (v5_4 : Int32)) with c10 | c10
      · replace hG := gIf_p hG c10
        obtain ⟨S11, eS11⟩ : ∃ z : mS, z = sA SL5 35 b (v5_3) := ⟨_, rfl⟩
        replace hG := gLt_e hG eS11
        obtain ⟨S12, eS12⟩ : ∃ z : mS, z = sA S11 21 t (vp_nar .boolean 0) := ⟨_, rfl⟩
        replace hG := gLt_e hG eS12
        have w9 := sg_j h1 h2 h3 h4 h5 (by rw [show v5_4 = gA S 35 b by clear hG hZ hi5 h2; grind] at hi5; exact hi5) eS11 eS12
        rcases Classical.em (0 ≤ ((gA S12 31 b) : Int32)) with c13 | c13
        · replace hG := gIf_p hG c13
          exact pj_signalled_104 S b t h1 h2 h3 h4 h5 0 S12 SZ (w9) hZ hG
        · replace hG := gIf_n hG c13
          rcases (Classical.em (((gA S12 33 b) : Int32) = 0)).symm with c14 | c14
          · replace hG := gIf_n hG c14
            exact pj_signalled_104 S b t h1 h2 h3 h4 h5 0 S12 SZ (w9) hZ hG
          · replace hG := gIf_p hG c14
            exact pj_signalled_104 S b t h1 h2 h3 h4 h5 1 S12 SZ (w9) hZ hG
      · replace hG := gIf_n hG c10
        rcases (Classical.em (((gA SL5 34 ((8 * b) + v5_4)) : Int32) = t)).symm with c15 | c15
        · replace hG := gIf_n hG c15
          obtain ⟨S16, eS16⟩ : ∃ z : mS, z = sA SL5 34 ((8 * b) + v5_3) ((gA SL5 34 ((8 * b) + v5_4))) := ⟨_, rfl⟩
          replace hG := gLt_e hG eS16
          obtain ⟨x17, ex17⟩ : ∃ z : Int32, z = v5_3 + (1) := ⟨_, rfl⟩
          replace hG := gLt_e hG ex17
          obtain ⟨x18, ex18⟩ : ∃ z : Int32, z = v5_4 + (1) := ⟨_, rfl⟩
          replace hG := gLt_e hG ex18
          exact ih5 x17 x18 S16 (by clear hG hZ ih5 hm5; subst_vars; first | exact lvI_skip h1 h35.2 (h2.2.2.2.2.2.2.2 _ h1.1 h1.2) hi5 (by clear hi5 h2; grind) (by clear hi5 h2; grind) | exact lvI_keep h1 h35.2 (by decide) (h2.2.2.2.2.2.2.2 _ h1.1 h1.2) hi5 (by clear hi5 h2; grind) (by clear hi5 h2; grind) rfl) (msd hm5 (by clear hG hZ ih5 hm5; clear hi5 h2; subst_vars; grind) (by clear hG hZ ih5 hm5; clear hi5 h2; subst_vars; grind)) hG
        · replace hG := gIf_p hG c15
          obtain ⟨x19, ex19⟩ : ∃ z : Int32, z = v5_4 + (1) := ⟨_, rfl⟩
          replace hG := gLt_e hG ex19
          exact ih5 v5_3 x19 SL5 (by clear hG hZ ih5 hm5; subst_vars; first | exact lvI_skip h1 h35.2 (h2.2.2.2.2.2.2.2 _ h1.1 h1.2) hi5 (by clear hi5 h2; grind) (by clear hi5 h2; grind) | exact lvI_keep h1 h35.2 (by decide) (h2.2.2.2.2.2.2.2 _ h1.1 h1.2) hi5 (by clear hi5 h2; grind) (by clear hi5 h2; grind) rfl) (msd hm5 (by clear hG hZ ih5 hm5; clear hi5 h2; subst_vars; grind) (by clear hG hZ ih5 hm5; clear hi5 h2; subst_vars; grind)) hG
  exact loop5 ((gA S 35 b - x9).toInt.toNat + 1) x8 x9 S (by clear hG hZ; subst_vars; exact lvI_0 (h2.2.2.2.1 _ h1.1 h1.2).2.1.1) (Nat.lt_succ_self _) hG
set_option maxHeartbeats 400000 in
set_option maxRecDepth 100000 in
theorem p_passes (S : mS) (t : Int32) (b : Int32)  (h1 : fre S t) (h2 : 0 ≤ b ∧ b < 24) (h3 : mInv S) (rZ : Int32) (SZ : mS) (hZ : (rZ, SZ) = G_passes S t b) : (fun (r9 : Int32) (S9 : mS) => pas S S9 t r9) rZ SZ := by
  have hG := G_passes.eq_1 S t b
  rcases Classical.em (((gA S 20 t) : Int32) = 0) with c1 | c1
  · replace hG := gIf_p hG c1
    obtain ⟨S2, ghq4⟩ : ∃ z : mS, z = G_waitFor S t b := ⟨_, rfl⟩
    have hq4 := p_waitFor S t b  (h1.1) (h2) (roomW h2 h1.1 h3 h1.2.2.2) S2 ghq4
    replace hG := gLt_e hG ghq4
    exact gE2 (P := (fun (r9 : Int32) (S9 : mS) => pas S S9 t r9)) hZ hG (pas_w h1 h2 h3 hq4)
  · replace hG := gIf_n hG c1
    obtain ⟨S5, eS5⟩ : ∃ z : mS, z = sA S 20 t (vp_nar .boolean 0) := ⟨_, rfl⟩
    replace hG := gLt_e hG eS5
    obtain ⟨S6, eS6⟩ : ∃ z : mS, z = sA S5 14 t ((-2)) := ⟨_, rfl⟩
    replace hG := gLt_e hG eS6
    exact gE2 (P := (fun (r9 : Int32) (S9 : mS) => pas S S9 t r9)) hZ hG (pas_1 h1 (stp_sm h3 (fun k => by rw [eS6, eS5]; rfl) (fun k i hk => by rw [eS6, eS5]; rcases hk with rfl | rfl | rfl | rfl | rfl | rfl | rfl | rfl | rfl | rfl | rfl | rfl | rfl | rfl | rfl <;> simp [gA_sA])))

/-- the end of a walk through a pure function -/
theorem gE1 {α : Type} {P : α → Prop} {r F v : α} (h : r = F) (hG : F = v) (k : P v) : P r := by rw [h, hG]; exact k
theorem gE2 {α β : Type} {P : α → β → Prop} {r v : α} {s t : β} {F : α × β} (h : (r, s) = F) (hG : F = (v, t)) (k : P v t) : P r s := by cases h.trans hG; exact k
set_option maxHeartbeats 400000 in
set_option maxRecDepth 100000 in
theorem p_thrown (S : mS)    (rZ : Int32) (hZ : rZ = G_thrown S ) : (fun r9 : Int32 => S = S ∧ r9 = gI S 0) rZ := by
  have hG := G_thrown.eq_1 S 
  exact gE1 (P := (fun r9 : Int32 => S = S ∧ r9 = gI S 0)) hZ hG (⟨rfl, rfl⟩)
set_option maxHeartbeats 400000 in
set_option maxRecDepth 100000 in
theorem p_refuse (S : mS) (w : Int32)   (rZ : Int32) (SZ : mS) (hZ : (rZ, SZ) = G_refuse S w) : (fun (r9 : Int32) (S9 : mS) => r9 = 0 ∧ S9 = sI S 0 w) rZ SZ := by
  have hG := G_refuse.eq_1 S w
  obtain ⟨S1, eS1⟩ : ∃ z : mS, z = sI S 0 w := ⟨_, rfl⟩
  replace hG := gLt_e hG eS1
  exact gE2 (P := (fun (r9 : Int32) (S9 : mS) => r9 = 0 ∧ S9 = sI S 0 w)) hZ hG (⟨rfl, by assumption⟩)
set_option maxHeartbeats 400000 in
set_option maxRecDepth 100000 in
theorem p_in (S : mS) (v : Int32) (lo : Int32) (hi : Int32)   (rZ : Int32) (hZ : rZ = G_in S v lo hi) : (fun r9 : Int32 => S = S ∧ ((r9 = 1 ∧ lo ≤ v ∧ v ≤ hi) ∨ (r9 = 0 ∧ ¬ (lo ≤ v ∧ v ≤ hi)))) rZ := by
  have hG := G_in.eq_1 S v lo hi
  rcases Classical.em ((v : Int32) < lo) with c1 | c1
  · replace hG := gIf_p hG c1
    exact gE1 (P := (fun r9 : Int32 => S = S ∧ ((r9 = 1 ∧ lo ≤ v ∧ v ≤ hi) ∨ (r9 = 0 ∧ ¬ (lo ≤ v ∧ v ≤ hi))))) hZ hG (⟨rfl, by clear hG hZ; grind⟩)
  · replace hG := gIf_n hG c1
    rcases Classical.em (hi < (v : Int32)) with c2 | c2
    · replace hG := gIf_p hG c2
      exact gE1 (P := (fun r9 : Int32 => S = S ∧ ((r9 = 1 ∧ lo ≤ v ∧ v ≤ hi) ∨ (r9 = 0 ∧ ¬ (lo ≤ v ∧ v ≤ hi))))) hZ hG (⟨rfl, by clear hG hZ; grind⟩)
    · replace hG := gIf_n hG c2
      exact gE1 (P := (fun r9 : Int32 => S = S ∧ ((r9 = 1 ∧ lo ≤ v ∧ v ≤ hi) ∨ (r9 = 0 ∧ ¬ (lo ≤ v ∧ v ≤ hi))))) hZ hG (⟨rfl, by clear hG hZ; grind⟩)
set_option maxHeartbeats 400000 in
set_option maxRecDepth 100000 in
theorem p_four (S : mS) (v : Int32)  (h1 : 0 ≤ gI S 2 ∧ gI S 2 ≤ 1596) (SZ : mS) (hZ : SZ = G_four S v) : (fun S9 : mS => gI S9 2 = gI S 2 + 4 ∧ (∀ k, k ≠ 2 → gI S9 k = gI S k) ∧ (∀ k, gJ S9 k = gJ S k) ∧ (∀ k i, k ≠ 1 → gA S9 k i = gA S k i) ∧ (∀ k i, gL S9 k i = gL S k i)) SZ := by
  have hG := G_four.eq_1 S v
  obtain ⟨x1, ex1⟩ : ∃ z : Int32, z = 24 := ⟨_, rfl⟩
  replace hG := gLt_e hG ex1
  have loop3 : ∀ (N3 : Nat) (v3_2 : Int32) (SL3 : mS), (((v3_2 = 24 ∧ gI SL3 2 = gI S 2) ∨ (v3_2 = 16 ∧ gI SL3 2 = gI S 2 + 1) ∨ (v3_2 = 8 ∧ gI SL3 2 = gI S 2 + 2) ∨ (v3_2 = 0 ∧ gI SL3 2 = gI S 2 + 3) ∨ (v3_2 = -8 ∧ gI SL3 2 = gI S 2 + 4)) ∧ (∀ k, k ≠ 2 → gI SL3 k = gI S k) ∧ (∀ k, gJ SL3 k = gJ S k) ∧ (∀ k i, k ≠ 1 → gA SL3 k i = gA S k i) ∧ (∀ k i, gL SL3 k i = gL S k i)) → ((v3_2 + 8).toInt.toNat) < N3 → (G_four S v = G_four_L3 v N3 v3_2 SL3) → (fun S9 : mS => gI S9 2 = gI S 2 + 4 ∧ (∀ k, k ≠ 2 → gI S9 k = gI S k) ∧ (∀ k, gJ S9 k = gJ S k) ∧ (∀ k i, k ≠ 1 → gA S9 k i = gA S k i) ∧ (∀ k i, gL S9 k i = gL S k i)) SZ := by
    intro N3
    induction N3 with
    | zero => intro v3_2 SL3 hi3 hm3; exact absurd hm3 (Nat.not_lt_zero _)
    | succ N3 ih3 =>
      intro v3_2 SL3 hi3 hm3 hG
      rw [G_four_L3] at hG
      obtain ⟨hi3, hf1, hf2, hf3, hf4⟩ := hi3
      rcases Classical.em ((v3_2 : Int32) < 0) with c2 | c2
      · replace hG := gIf_p hG c2
        exact gE1 (P := (fun S9 : mS => gI S9 2 = gI S 2 + 4 ∧ (∀ k, k ≠ 2 → gI S9 k = gI S k) ∧ (∀ k, gJ S9 k = gJ S k) ∧ (∀ k i, k ≠ 1 → gA S9 k i = gA S k i) ∧ (∀ k i, gL S9 k i = gL S k i))) hZ hG (by clear hG hZ ih3 hm3; grind)
      · replace hG := gIf_n hG c2
        obtain ⟨x3, ex3⟩ : ∃ z : Int32, z = (v : Int32) >>> ((v3_2 : Int32) &&& 31) := ⟨_, rfl⟩
        replace hG := gLt_e hG ex3
        obtain ⟨S4, eS4⟩ : ∃ z : mS, z = sA SL3 1 (gI SL3 2) ((x3 &&& 255)) := ⟨_, rfl⟩
        replace hG := gLt_e hG eS4
        obtain ⟨S5, eS5⟩ : ∃ z : mS, z = sI S4 2 ((gI S4 2) + 1) := ⟨_, rfl⟩
        replace hG := gLt_e hG eS5
        obtain ⟨x6, ex6⟩ : ∃ z : Int32, z = v3_2 + (-8) := ⟨_, rfl⟩
        replace hG := gLt_e hG ex6
        exact ih3 x6 S5 (by clear hG hZ ih3 hm3; subst_vars; grind [gI_sI, gI_sJ, gI_sA, gI_sL, gJ_sI, gJ_sJ, gJ_sA, gJ_sL, gA_sI, gA_sJ, gA_sA, gA_sL, gL_sI, gL_sJ, gL_sA, gL_sL]) (msd hm3 (by clear hG hZ ih3 hm3; grind) (by clear hG hZ ih3 hm3; grind)) hG
  exact loop3 ((x1 + 8).toInt.toNat + 1) x1 S (by clear hG hZ; subst_vars; grind) (Nat.lt_succ_self _) hG
set_option maxHeartbeats 400000 in
set_option maxRecDepth 100000 in
theorem p_byteAt (S : mS) (q : Int32)  (h1 : 0 ≤ q ∧ gI S 7 ≤ 1600) (rZ : Int32) (hZ : rZ = G_byteAt S q) : (fun r9 : Int32 => S = S ∧ (q < gI S 7 → r9 = gA S 1 q) ∧ (gI S 7 ≤ q → r9 = -1)) rZ := by
  have hG := G_byteAt.eq_1 S q
  rcases Classical.em ((gI S 7) ≤ (q : Int32)) with c1 | c1
  · replace hG := gIf_p hG c1
    exact gE1 (P := (fun r9 : Int32 => S = S ∧ (q < gI S 7 → r9 = gA S 1 q) ∧ (gI S 7 ≤ q → r9 = -1))) hZ hG (⟨rfl, by clear hG hZ; grind⟩)
  · replace hG := gIf_n hG c1
    exact gE1 (P := (fun r9 : Int32 => S = S ∧ (q < gI S 7 → r9 = gA S 1 q) ∧ (gI S 7 ≤ q → r9 = -1))) hZ hG (⟨rfl, by clear hG hZ; grind⟩)
set_option maxHeartbeats 400000 in
set_option maxRecDepth 100000 in
theorem p_part (S : mS) (t : Int32) (q : Int32)  (h1 : 0 ≤ t ∧ t < 8) (h2 : 0 ≤ gA S 15 t ∧ gA S 15 t < 60) (h3 : 0 ≤ q ∧ q < 4) (rZ : Int32) (hZ : rZ = G_part S t q) : (fun r9 : Int32 => S = S ∧ r9 = gA S 11 (240 * t + 4 * gA S 15 t + q)) rZ := by
  have hG := G_part.eq_1 S t q
  exact gE1 (P := (fun r9 : Int32 => S = S ∧ r9 = gA S 11 (240 * t + 4 * gA S 15 t + q))) hZ hG (⟨rfl, rfl⟩)
set_option maxHeartbeats 400000 in
set_option maxRecDepth 100000 in
theorem p_waitFor (S : mS) (t : Int32) (b : Int32)  (h1 : 0 ≤ t ∧ t < 8) (h2 : 0 ≤ b ∧ b < 24) (h3 : 0 ≤ gA S 33 b ∧ gA S 33 b < 8) (SZ : mS) (hZ : SZ = G_waitFor S t b) : (fun S9 : mS => S9 = sA (sA (sA (sA S 13 t 2) 16 t b) 32 (8 * b + gA S 33 b) t) 33 b (gA S 33 b + 1)) SZ := by
  have hG := G_waitFor.eq_1 S t b
  obtain ⟨S1, eS1⟩ : ∃ z : mS, z = sA S 13 t (2) := ⟨_, rfl⟩
  replace hG := gLt_e hG eS1
  obtain ⟨S2, eS2⟩ : ∃ z : mS, z = sA S1 16 t (b) := ⟨_, rfl⟩
  replace hG := gLt_e hG eS2
  obtain ⟨S3, eS3⟩ : ∃ z : mS, z = sA S2 32 ((8 * b) + (gA S2 33 b)) (t) := ⟨_, rfl⟩
  replace hG := gLt_e hG eS3
  obtain ⟨S4, eS4⟩ : ∃ z : mS, z = sA S3 33 b (((gA S3 33 b) + 1)) := ⟨_, rfl⟩
  replace hG := gLt_e hG eS4
  exact gE1 (P := (fun S9 : mS => S9 = sA (sA (sA (sA S 13 t 2) 16 t b) 32 (8 * b + gA S 33 b) t) 33 b (gA S 33 b + 1))) hZ hG (by clear hG hZ; subst_vars; simp [gA_sA])
set_option maxHeartbeats 400000 in
set_option maxRecDepth 100000 in
theorem p_goesOn (S : mS) (t : Int32)  (h1 : 0 ≤ t ∧ t < 8) (SZ : mS) (hZ : SZ = G_goesOn S t) : (fun S9 : mS => S9 = sA (sA (sA S 16 t (-1)) 15 t (gA S 15 t + 1)) 13 t (if gA S 12 t ≤ gA S 15 t + 1 then 4 else 1)) SZ := by
  have hG := G_goesOn.eq_1 S t
  obtain ⟨S1, eS1⟩ : ∃ z : mS, z = sA S 16 t ((-1)) := ⟨_, rfl⟩
  replace hG := gLt_e hG eS1
  obtain ⟨S2, eS2⟩ : ∃ z : mS, z = sA S1 15 t (((gA S1 15 t) + 1)) := ⟨_, rfl⟩
  replace hG := gLt_e hG eS2
  rcases Classical.em (((gA S2 15 t) : Int32) < (gA S2 12 t)) with c3 | c3
  · replace hG := gIf_p hG c3
    obtain ⟨S4, eS4⟩ : ∃ z : mS, z = sA S2 13 t (1) := ⟨_, rfl⟩
    replace hG := gLt_e hG eS4
    exact gE1 (P := (fun S9 : mS => S9 = sA (sA (sA S 16 t (-1)) 15 t (gA S 15 t + 1)) 13 t (if gA S 12 t ≤ gA S 15 t + 1 then 4 else 1))) hZ hG (by clear hG hZ; subst_vars; simp only [gA_sA] at *; simp at *; grind)
  · replace hG := gIf_n hG c3
    obtain ⟨S5, eS5⟩ : ∃ z : mS, z = sA S2 13 t (4) := ⟨_, rfl⟩
    replace hG := gLt_e hG eS5
    exact gE1 (P := (fun S9 : mS => S9 = sA (sA (sA S 16 t (-1)) 15 t (gA S 15 t + 1)) 13 t (if gA S 12 t ≤ gA S 15 t + 1 then 4 else 1))) hZ hG (by clear hG hZ; subst_vars; simp only [gA_sA] at *; simp at *; grind)
set_option maxHeartbeats 400000 in
set_option maxRecDepth 100000 in
theorem p_fails (S : mS) (t : Int32) (w : Int32)  (h1 : 0 ≤ t ∧ t < 8) (rZ : Int32) (SZ : mS) (hZ : (rZ, SZ) = G_fails S t w) : (fun (r9 : Int32) (S9 : mS) => r9 = 0 ∧ S9 = sA (sA S 13 t 5) 17 t w) rZ SZ := by
  have hG := G_fails.eq_1 S t w
  obtain ⟨S1, eS1⟩ : ∃ z : mS, z = sA S 13 t (5) := ⟨_, rfl⟩
  replace hG := gLt_e hG eS1
  obtain ⟨S2, eS2⟩ : ∃ z : mS, z = sA S1 17 t (w) := ⟨_, rfl⟩
  replace hG := gLt_e hG eS2
  exact gE2 (P := (fun (r9 : Int32) (S9 : mS) => r9 = 0 ∧ S9 = sA (sA S 13 t 5) 17 t w)) hZ hG (⟨rfl, by clear hG hZ; subst_vars; rfl⟩)
set_option maxHeartbeats 400000 in
set_option maxRecDepth 100000 in
theorem p_wrong (S : mS)    (rZ : Int32) (SZ : mS) (hZ : (rZ, SZ) = G_wrong S ) : (fun (r9 : Int32) (S9 : mS) => r9 = 0 ∧ ((gI S 10 < 0 ∧ S9 = sI S 10 (gI S 8)) ∨ (¬ gI S 10 < 0 ∧ S9 = S))) rZ SZ := by
  have hG := G_wrong.eq_1 S 
  rcases Classical.em (0 ≤ ((gI S 10) : Int32)) with c1 | c1
  · replace hG := gIf_p hG c1
    exact gE2 (P := (fun (r9 : Int32) (S9 : mS) => r9 = 0 ∧ ((gI S 10 < 0 ∧ S9 = sI S 10 (gI S 8)) ∨ (¬ gI S 10 < 0 ∧ S9 = S)))) hZ hG (by clear hG hZ; subst_vars; grind)
  · replace hG := gIf_n hG c1
    obtain ⟨S2, eS2⟩ : ∃ z : mS, z = sI S 10 (gI S 8) := ⟨_, rfl⟩
    replace hG := gLt_e hG eS2
    exact gE2 (P := (fun (r9 : Int32) (S9 : mS) => r9 = 0 ∧ ((gI S 10 < 0 ∧ S9 = sI S 10 (gI S 8)) ∨ (¬ gI S 10 < 0 ∧ S9 = S)))) hZ hG (by clear hG hZ; subst_vars; grind)
set_option maxHeartbeats 400000 in
set_option maxRecDepth 100000 in
theorem p_isThere (S : mS) (b : Int32)   (rZ : Int32) (hZ : rZ = G_isThere S b) : (fun r9 : Int32 => S = S ∧ ((r9 = 1 ∧ 0 ≤ b ∧ b < 24 ∧ gA S 28 b ≠ 0) ∨ (r9 = 0 ∧ ¬ (0 ≤ b ∧ b < 24 ∧ gA S 28 b ≠ 0)))) rZ := by
  have hG := G_isThere.eq_1 S b
  obtain ⟨r2, ghq3⟩ : ∃ z : Int32, z = G_in S b 0 23 := ⟨_, rfl⟩
  have hq3 := (p_in S b 0 23   r2 ghq3).2
  replace hG := gLt_e hG ghq3
  rcases Classical.em ((r2 : Int32) = 0) with c4 | c4
  · replace hG := gIf_p hG c4
    exact gE1 (P := (fun r9 : Int32 => S = S ∧ ((r9 = 1 ∧ 0 ≤ b ∧ b < 24 ∧ gA S 28 b ≠ 0) ∨ (r9 = 0 ∧ ¬ (0 ≤ b ∧ b < 24 ∧ gA S 28 b ≠ 0))))) hZ hG (⟨rfl, by clear hG hZ; grind⟩)
  · replace hG := gIf_n hG c4
    rcases Classical.em (((gA S 28 b) : Int32) = 0) with c5 | c5
    · replace hG := gIf_p hG c5
      exact gE1 (P := (fun r9 : Int32 => S = S ∧ ((r9 = 1 ∧ 0 ≤ b ∧ b < 24 ∧ gA S 28 b ≠ 0) ∨ (r9 = 0 ∧ ¬ (0 ≤ b ∧ b < 24 ∧ gA S 28 b ≠ 0))))) hZ hG (⟨rfl, by clear hG hZ; grind⟩)
    · replace hG := gIf_n hG c5
      exact gE1 (P := (fun r9 : Int32 => S = S ∧ ((r9 = 1 ∧ 0 ≤ b ∧ b < 24 ∧ gA S 28 b ≠ 0) ∨ (r9 = 0 ∧ ¬ (0 ≤ b ∧ b < 24 ∧ gA S 28 b ≠ 0))))) hZ hG (⟨rfl, by clear hG hZ; grind⟩)
set_option maxHeartbeats 400000 in
set_option maxRecDepth 100000 in
theorem p_objects (S : mS)    (rZ : Int32) (hZ : rZ = G_objects S ) : (fun r9 : Int32 => S = S ∧ True) rZ := by
  have hG := G_objects.eq_1 S 
  obtain ⟨x1, ex1⟩ : ∃ z : Int32, z = 0 := ⟨_, rfl⟩
  replace hG := gLt_e hG ex1
  obtain ⟨x2, ex2⟩ : ∃ z : Int32, z = 0 := ⟨_, rfl⟩
  replace hG := gLt_e hG ex2
  have loop4 : ∀ (N4 : Nat) (v4_1 : Int32) (v4_2 : Int32) , (0 ≤ v4_2 ∧ v4_2 ≤ 24) → ((24 - v4_2).toInt.toNat) < N4 → (G_objects S  = G_objects_L4 S N4 v4_1 v4_2) → (fun r9 : Int32 => S = S ∧ True) rZ := by
    intro N4
    induction N4 with
    | zero => intro v4_1 v4_2  hi4 hm4; exact absurd hm4 (Nat.not_lt_zero _)
    | succ N4 ih4 =>
      intro v4_1 v4_2  hi4 hm4 hG
      rw [G_objects_L4] at hG
      rcases Classical.em (24 ≤ (v4_2 : Int32)) with c3 | c3
      · replace hG := gIf_p hG c3
        exact gE1 (P := (fun r9 : Int32 => S = S ∧ True)) hZ hG (⟨rfl, trivial⟩)
      · replace hG := gIf_n hG c3
        rcases Classical.em (((gA S 28 v4_2) : Int32) = 0) with c4 | c4
        · replace hG := gIf_p hG c4
          obtain ⟨x5, ex5⟩ : ∃ z : Int32, z = (v4_1 + 0) := ⟨_, rfl⟩
          replace hG := gLt_e hG ex5
          obtain ⟨x6, ex6⟩ : ∃ z : Int32, z = v4_2 + (1) := ⟨_, rfl⟩
          replace hG := gLt_e hG ex6
          exact ih4 x5 x6  (by clear hG hZ ih4 hm4; subst_vars; grind) (msd hm4 (by clear hG hZ ih4 hm4; subst_vars; grind) (by clear hG hZ ih4 hm4; subst_vars; grind)) hG
        · replace hG := gIf_n hG c4
          obtain ⟨x7, ex7⟩ : ∃ z : Int32, z = (v4_1 + 1) := ⟨_, rfl⟩
          replace hG := gLt_e hG ex7
          obtain ⟨x8, ex8⟩ : ∃ z : Int32, z = v4_2 + (1) := ⟨_, rfl⟩
          replace hG := gLt_e hG ex8
          exact ih4 x7 x8  (by clear hG hZ ih4 hm4; subst_vars; grind) (msd hm4 (by clear hG hZ ih4 hm4; subst_vars; grind) (by clear hG hZ ih4 hm4; subst_vars; grind)) hG
  exact loop4 ((24 - x2).toInt.toNat + 1) x1 x2  (by clear hG hZ; subst_vars; grind) (Nat.lt_succ_self _) hG
set_option maxHeartbeats 400000 in
set_option maxRecDepth 100000 in
theorem p_kindOf (S : mS) (q : Int32)   (rZ : Int32) (hZ : rZ = G_kindOf S q) : (fun r9 : Int32 => S = S ∧ (q ≤ 12 → r9 = 1) ∧ (12 < q → q ≤ 22 → r9 ≠ 5) ∧ (22 < q → q ≤ 26 → r9 = 5) ∧ (26 < q → r9 ≠ 5)) rZ := by
  have hG := G_kindOf.eq_1 S q
  rcases Classical.em (12 < (q : Int32)) with c1 | c1
  · replace hG := gIf_p hG c1
    rcases Classical.em (16 < (q : Int32)) with c2 | c2
    · replace hG := gIf_p hG c2
      rcases Classical.em (19 < (q : Int32)) with c3 | c3
      · replace hG := gIf_p hG c3
        rcases Classical.em (21 < (q : Int32)) with c4 | c4
        · replace hG := gIf_p hG c4
          rcases (Classical.em ((q : Int32) = 22)).symm with c5 | c5
          · replace hG := gIf_n hG c5
            rcases Classical.em (26 < (q : Int32)) with c6 | c6
            · replace hG := gIf_p hG c6
              rcases Classical.em (28 < (q : Int32)) with c7 | c7
              · replace hG := gIf_p hG c7
                exact gE1 (P := (fun r9 : Int32 => S = S ∧ (q ≤ 12 → r9 = 1) ∧ (12 < q → q ≤ 22 → r9 ≠ 5) ∧ (22 < q → q ≤ 26 → r9 = 5) ∧ (26 < q → r9 ≠ 5))) hZ hG (⟨rfl, by clear hG hZ; grind⟩)
              · replace hG := gIf_n hG c7
                exact gE1 (P := (fun r9 : Int32 => S = S ∧ (q ≤ 12 → r9 = 1) ∧ (12 < q → q ≤ 22 → r9 ≠ 5) ∧ (22 < q → q ≤ 26 → r9 = 5) ∧ (26 < q → r9 ≠ 5))) hZ hG (⟨rfl, by clear hG hZ; grind⟩)
            · replace hG := gIf_n hG c6
              exact gE1 (P := (fun r9 : Int32 => S = S ∧ (q ≤ 12 → r9 = 1) ∧ (12 < q → q ≤ 22 → r9 ≠ 5) ∧ (22 < q → q ≤ 26 → r9 = 5) ∧ (26 < q → r9 ≠ 5))) hZ hG (⟨rfl, by clear hG hZ; grind⟩)
          · replace hG := gIf_p hG c5
            exact gE1 (P := (fun r9 : Int32 => S = S ∧ (q ≤ 12 → r9 = 1) ∧ (12 < q → q ≤ 22 → r9 ≠ 5) ∧ (22 < q → q ≤ 26 → r9 = 5) ∧ (26 < q → r9 ≠ 5))) hZ hG (⟨rfl, by clear hG hZ; grind⟩)
        · replace hG := gIf_n hG c4
          exact gE1 (P := (fun r9 : Int32 => S = S ∧ (q ≤ 12 → r9 = 1) ∧ (12 < q → q ≤ 22 → r9 ≠ 5) ∧ (22 < q → q ≤ 26 → r9 = 5) ∧ (26 < q → r9 ≠ 5))) hZ hG (⟨rfl, by clear hG hZ; grind⟩)
      · replace hG := gIf_n hG c3
        exact gE1 (P := (fun r9 : Int32 => S = S ∧ (q ≤ 12 → r9 = 1) ∧ (12 < q → q ≤ 22 → r9 ≠ 5) ∧ (22 < q → q ≤ 26 → r9 = 5) ∧ (26 < q → r9 ≠ 5))) hZ hG (⟨rfl, by clear hG hZ; grind⟩)
    · replace hG := gIf_n hG c2
      exact gE1 (P := (fun r9 : Int32 => S = S ∧ (q ≤ 12 → r9 = 1) ∧ (12 < q → q ≤ 22 → r9 ≠ 5) ∧ (22 < q → q ≤ 26 → r9 = 5) ∧ (26 < q → r9 ≠ 5))) hZ hG (⟨rfl, by clear hG hZ; grind⟩)
  · replace hG := gIf_n hG c1
    exact gE1 (P := (fun r9 : Int32 => S = S ∧ (q ≤ 12 → r9 = 1) ∧ (12 < q → q ≤ 22 → r9 ≠ 5) ∧ (22 < q → q ≤ 26 → r9 = 5) ∧ (26 < q → r9 ≠ 5))) hZ hG (⟨rfl, by clear hG hZ; grind⟩)
set_option maxHeartbeats 400000 in
set_option maxRecDepth 100000 in
theorem p_append (S : mS) (b : Int32) (v : Int32)  (h1 : 0 ≤ b ∧ b < 24) (h2 : 0 ≤ gA S 37 b ∧ gA S 37 b < 100) (SZ : mS) (hZ : SZ = G_append S b v) : (fun S9 : mS => S9 = sA (sA S 36 (100 * b + gA S 37 b) v) 37 b (gA S 37 b + 1)) SZ := by
  have hG := G_append.eq_1 S b v
  obtain ⟨S1, eS1⟩ : ∃ z : mS, z = sA S 36 ((100 * b) + (gA S 37 b)) (v) := ⟨_, rfl⟩
  replace hG := gLt_e hG eS1
  obtain ⟨S2, eS2⟩ : ∃ z : mS, z = sA S1 37 b (((gA S1 37 b) + 1)) := ⟨_, rfl⟩
  replace hG := gLt_e hG eS2
  exact gE1 (P := (fun S9 : mS => S9 = sA (sA S 36 (100 * b + gA S 37 b) v) 37 b (gA S 37 b + 1))) hZ hG (by clear hG hZ; subst_vars; simp [gA_sA])
set_option maxHeartbeats 400000 in
set_option maxRecDepth 100000 in
theorem p_ready (S : mS)    (rZ : Int32) (hZ : rZ = G_ready S ) : (fun r9 : Int32 => S = S ∧ 0 ≤ r9 ∧ r9 ≤ 8 ∧ (0 < r9 → ∃ u, 0 ≤ u ∧ u < 8 ∧ gA S 13 u = 1) ∧ (∀ u, 0 ≤ u → u < 8 → gA S 13 u = 1 → 0 < r9)) rZ := by
  have hG := G_ready.eq_1 S 
  obtain ⟨x1, ex1⟩ : ∃ z : Int32, z = 0 := ⟨_, rfl⟩
  replace hG := gLt_e hG ex1
  obtain ⟨x2, ex2⟩ : ∃ z : Int32, z = 0 := ⟨_, rfl⟩
  replace hG := gLt_e hG ex2
  have loop4 : ∀ (N4 : Nat) (v4_1 : Int32) (v4_2 : Int32) , (0 ≤ v4_2 ∧ v4_2 ≤ 8 ∧ 0 ≤ v4_1 ∧ v4_1 ≤ v4_2 ∧ (0 < v4_1 → ∃ u, 0 ≤ u ∧ u < 8 ∧ gA S 13 u = 1) ∧ (∀ u, 0 ≤ u → u < v4_2 → gA S 13 u = 1 → 0 < v4_1)) → ((8 - v4_2).toInt.toNat) < N4 → (G_ready S  = G_ready_L4 S N4 v4_1 v4_2) → (fun r9 : Int32 => S = S ∧ 0 ≤ r9 ∧ r9 ≤ 8 ∧ (0 < r9 → ∃ u, 0 ≤ u ∧ u < 8 ∧ gA S 13 u = 1) ∧ (∀ u, 0 ≤ u → u < 8 → gA S 13 u = 1 → 0 < r9)) rZ := by
    intro N4
    induction N4 with
    | zero => intro v4_1 v4_2  hi4 hm4; exact absurd hm4 (Nat.not_lt_zero _)
    | succ N4 ih4 =>
      intro v4_1 v4_2  hi4 hm4 hG
      rw [G_ready_L4] at hG
      rcases Classical.em (8 ≤ (v4_2 : Int32)) with c3 | c3
      · replace hG := gIf_p hG c3
        exact gE1 (P := (fun r9 : Int32 => S = S ∧ 0 ≤ r9 ∧ r9 ≤ 8 ∧ (0 < r9 → ∃ u, 0 ≤ u ∧ u < 8 ∧ gA S 13 u = 1) ∧ (∀ u, 0 ≤ u → u < 8 → gA S 13 u = 1 → 0 < r9))) hZ hG (⟨rfl, by clear hG hZ; grind⟩)
      · replace hG := gIf_n hG c3
        rcases (Classical.em (((gA S 13 v4_2) : Int32) = 1)).symm with c4 | c4
        · replace hG := gIf_n hG c4
          obtain ⟨x5, ex5⟩ : ∃ z : Int32, z = (v4_1 + 0) := ⟨_, rfl⟩
          replace hG := gLt_e hG ex5
          obtain ⟨x6, ex6⟩ : ∃ z : Int32, z = v4_2 + (1) := ⟨_, rfl⟩
          replace hG := gLt_e hG ex6
          exact ih4 x5 x6  (by clear hG hZ ih4 hm4; subst_vars; grind) (msd hm4 (by clear hG hZ ih4 hm4; subst_vars; grind) (by clear hG hZ ih4 hm4; subst_vars; grind)) hG
        · replace hG := gIf_p hG c4
          obtain ⟨x7, ex7⟩ : ∃ z : Int32, z = (v4_1 + 1) := ⟨_, rfl⟩
          replace hG := gLt_e hG ex7
          obtain ⟨x8, ex8⟩ : ∃ z : Int32, z = v4_2 + (1) := ⟨_, rfl⟩
          replace hG := gLt_e hG ex8
          exact ih4 x7 x8  (by clear hG hZ ih4 hm4; subst_vars; grind) (msd hm4 (by clear hG hZ ih4 hm4; subst_vars; grind) (by clear hG hZ ih4 hm4; subst_vars; grind)) hG
  exact loop4 ((8 - x2).toInt.toNat + 1) x1 x2  (by clear hG hZ; subst_vars; grind) (Nat.lt_succ_self _) hG
set_option maxHeartbeats 400000 in
set_option maxRecDepth 100000 in
theorem p_end (S : mS) (n : Int32)   (rZ : Int32) (SZ : mS) (hZ : (rZ, SZ) = G_end S n) : (fun (r9 : Int32) (S9 : mS) => (0 ≤ n ∧ n ≤ gI S 2 ∧ r9 = n ∧ S9 = sI (sI S 0 0) 2 n) ∨ (¬ (0 ≤ n ∧ n ≤ gI S 2) ∧ S9 = sI S 0 1)) rZ SZ := by
  have hG := G_end.eq_1 S n
  obtain ⟨r2, ghq3⟩ : ∃ z : Int32, z = G_in S n 0 (gI S 2) := ⟨_, rfl⟩
  have hq3 := (p_in S n 0 (gI S 2)   r2 ghq3).2
  replace hG := gLt_e hG ghq3
  rcases (Classical.em ((r2 : Int32) = 0)).symm with c4 | c4
  · replace hG := gIf_n hG c4
    obtain ⟨S5, eS5⟩ : ∃ z : mS, z = sI S 0 0 := ⟨_, rfl⟩
    replace hG := gLt_e hG eS5
    obtain ⟨S6, eS6⟩ : ∃ z : mS, z = sI S5 2 n := ⟨_, rfl⟩
    replace hG := gLt_e hG eS6
    exact gE2 (P := (fun (r9 : Int32) (S9 : mS) => (0 ≤ n ∧ n ≤ gI S 2 ∧ r9 = n ∧ S9 = sI (sI S 0 0) 2 n) ∨ (¬ (0 ≤ n ∧ n ≤ gI S 2) ∧ S9 = sI S 0 1))) hZ hG (by clear hG hZ; subst_vars; grind)
  · replace hG := gIf_p hG c4
    obtain ⟨r8, S7, ghq9⟩ : ∃ (z : Int32) (y : mS), (z, y) = G_refuse S 1 := ⟨_, _, rfl⟩
    have hq9 := p_refuse S 1   r8 S7 ghq9
    replace hG := gC_e hG ghq9
    exact gE2 (P := (fun (r9 : Int32) (S9 : mS) => (0 ≤ n ∧ n ≤ gI S 2 ∧ r9 = n ∧ S9 = sI (sI S 0 0) 2 n) ∨ (¬ (0 ≤ n ∧ n ≤ gI S 2) ∧ S9 = sI S 0 1))) hZ hG (by clear hG hZ; subst_vars; grind)
set_option maxHeartbeats 400000 in
set_option maxRecDepth 100000 in
theorem p_feed (S : mS) (a0 : Int32) (a1 : Int32) (a2 : Int32) (a3 : Int32) (a4 : Int32)  (h1 : 0 ≤ gI S 2 ∧ gI S 2 ≤ 1600) (rZ : Int32) (SZ : mS) (hZ : (rZ, SZ) = G_feed S a0 a1 a2 a3 a4) : (fun (r9 : Int32) (S9 : mS) => (1600 < gI S 2 + 20 ∧ S9 = sI S 0 1) ∨ (gI S 2 + 20 ≤ 1600 ∧ gI S9 0 = 0 ∧ r9 = gI S 2 + 20 ∧ gI S9 2 = gI S 2 + 20 ∧ (∀ k, k ≠ 0 → k ≠ 2 → gI S9 k = gI S k) ∧ (∀ k, gJ S9 k = gJ S k) ∧ (∀ k i, k ≠ 1 → gA S9 k i = gA S k i) ∧ (∀ k i, gL S9 k i = gL S k i))) rZ SZ := by
  have hG := G_feed.eq_1 S a0 a1 a2 a3 a4
  rcases Classical.em ((((gI S 2) + 20) : Int32) ≤ 1600) with c1 | c1
  · replace hG := gIf_p hG c1
    obtain ⟨S2, eS2⟩ : ∃ z : mS, z = sI S 0 0 := ⟨_, rfl⟩
    replace hG := gLt_e hG eS2
    obtain ⟨S3, ghq5⟩ : ∃ z : mS, z = G_four S2 a0 := ⟨_, rfl⟩
    have hq5 := p_four S2 a0  (by clear hG hZ; grind [gI_sI, gI_sJ, gI_sA, gI_sL, gJ_sI, gJ_sJ, gJ_sA, gJ_sL, gA_sI, gA_sJ, gA_sA, gA_sL, gL_sI, gL_sJ, gL_sA, gL_sL]) S3 ghq5
    replace hG := gLt_e hG ghq5
    obtain ⟨S6, ghq8⟩ : ∃ z : mS, z = G_four S3 a1 := ⟨_, rfl⟩
    have hq8 := p_four S3 a1  (by clear hG hZ; grind [gI_sI, gI_sJ, gI_sA, gI_sL, gJ_sI, gJ_sJ, gJ_sA, gJ_sL, gA_sI, gA_sJ, gA_sA, gA_sL, gL_sI, gL_sJ, gL_sA, gL_sL]) S6 ghq8
    replace hG := gLt_e hG ghq8
    obtain ⟨S9, ghq11⟩ : ∃ z : mS, z = G_four S6 a2 := ⟨_, rfl⟩
    have hq11 := p_four S6 a2  (by clear hG hZ; grind [gI_sI, gI_sJ, gI_sA, gI_sL, gJ_sI, gJ_sJ, gJ_sA, gJ_sL, gA_sI, gA_sJ, gA_sA, gA_sL, gL_sI, gL_sJ, gL_sA, gL_sL]) S9 ghq11
    replace hG := gLt_e hG ghq11
    obtain ⟨S12, ghq14⟩ : ∃ z : mS, z = G_four S9 a3 := ⟨_, rfl⟩
    have hq14 := p_four S9 a3  (by clear hG hZ; grind [gI_sI, gI_sJ, gI_sA, gI_sL, gJ_sI, gJ_sJ, gJ_sA, gJ_sL, gA_sI, gA_sJ, gA_sA, gA_sL, gL_sI, gL_sJ, gL_sA, gL_sL]) S12 ghq14
    replace hG := gLt_e hG ghq14
    obtain ⟨S15, ghq17⟩ : ∃ z : mS, z = G_four S12 a4 := ⟨_, rfl⟩
    have hq17 := p_four S12 a4  (by clear hG hZ; grind [gI_sI, gI_sJ, gI_sA, gI_sL, gJ_sI, gJ_sJ, gJ_sA, gJ_sL, gA_sI, gA_sJ, gA_sA, gA_sL, gL_sI, gL_sJ, gL_sA, gL_sL]) S15 ghq17
    replace hG := gLt_e hG ghq17
    exact gE2 (P := (fun (r9 : Int32) (S9 : mS) => (1600 < gI S 2 + 20 ∧ S9 = sI S 0 1) ∨ (gI S 2 + 20 ≤ 1600 ∧ gI S9 0 = 0 ∧ r9 = gI S 2 + 20 ∧ gI S9 2 = gI S 2 + 20 ∧ (∀ k, k ≠ 0 → k ≠ 2 → gI S9 k = gI S k) ∧ (∀ k, gJ S9 k = gJ S k) ∧ (∀ k i, k ≠ 1 → gA S9 k i = gA S k i) ∧ (∀ k i, gL S9 k i = gL S k i)))) hZ hG (by clear hG hZ; grind (ematch := 12) [gI_sI, gI_sJ, gI_sA, gI_sL, gJ_sI, gJ_sJ, gJ_sA, gJ_sL, gA_sI, gA_sJ, gA_sA, gA_sL, gL_sI, gL_sJ, gL_sA, gL_sL])
  · replace hG := gIf_n hG c1
    obtain ⟨r19, S18, ghq20⟩ : ∃ (z : Int32) (y : mS), (z, y) = G_refuse S 1 := ⟨_, _, rfl⟩
    have hq20 := p_refuse S 1   r19 S18 ghq20
    replace hG := gC_e hG ghq20
    exact gE2 (P := (fun (r9 : Int32) (S9 : mS) => (1600 < gI S 2 + 20 ∧ S9 = sI S 0 1) ∨ (gI S 2 + 20 ≤ 1600 ∧ gI S9 0 = 0 ∧ r9 = gI S 2 + 20 ∧ gI S9 2 = gI S 2 + 20 ∧ (∀ k, k ≠ 0 → k ≠ 2 → gI S9 k = gI S k) ∧ (∀ k, gJ S9 k = gJ S k) ∧ (∀ k i, k ≠ 1 → gA S9 k i = gA S k i) ∧ (∀ k i, gL S9 k i = gL S k i)))) hZ hG (by clear hG hZ; grind (ematch := 12) [gI_sI, gI_sJ, gI_sA, gI_sL, gJ_sI, gJ_sJ, gJ_sA, gJ_sL, gA_sI, gA_sJ, gA_sA, gA_sL, gL_sI, gL_sJ, gL_sA, gL_sL])
set_option maxHeartbeats 400000 in
set_option maxRecDepth 100000 in
theorem p_leaves (S : mS) (b : Int32) (t : Int32)  (h1 : 0 ≤ b ∧ b < 24) (h2 : 0 ≤ gA S 33 b ∧ gA S 33 b ≤ 8) (h3 : rdis S 32 33 b) (SZ : mS) (hZ : SZ = G_leaves S b t) : (fun S9 : mS => lvP S S9 32 33 b t) SZ := by
  have hG := G_leaves.eq_1 S b t
  obtain ⟨x1, ex1⟩ : ∃ z : Int32, z = 0 := ⟨_, rfl⟩
  replace hG := gLt_e hG ex1
  obtain ⟨x2, ex2⟩ : ∃ z : Int32, z = 0 := ⟨_, rfl⟩
  replace hG := gLt_e hG ex2
  have loop5 : ∀ (N5 : Nat) (v5_3 : Int32) (v5_4 : Int32) (SL5 : mS), (lvI S SL5 32 33 b t v5_3 v5_4) → ((gA S 33 b - v5_4).toInt.toNat) < N5 → (G_leaves S b t = G_leaves_L5 b t N5 v5_3 v5_4 SL5) → (fun S9 : mS => lvP S S9 32 33 b t) SZ := by
    intro N5
    induction N5 with
    | zero => intro v5_3 v5_4 SL5 hi5 hm5; exact absurd hm5 (Nat.not_lt_zero _)
    | succ N5 ih5 =>
      intro v5_3 v5_4 SL5 hi5 hm5 hG
      rw [G_leaves_L5] at hG
      have hj := id hi5
      obtain ⟨⟨hj1, hj2, hj3⟩, hj4, -⟩ := hj
      have hj5 : gA SL5 33 b = gA S 33 b := hj4 33 b (by decide)
      clear hj4
      rcases Classical.em ((gA SL5 33 b) ≤ (v5_4 : Int32)) with c3 | c3
      · replace hG := gIf_p hG c3
        obtain ⟨S4, eS4⟩ : ∃ z : mS, z = sA SL5 33 b (v5_3) := ⟨_, rfl⟩
        replace hG := gLt_e hG eS4
        exact gE1 (P := (fun S9 : mS => lvP S S9 32 33 b t)) hZ hG (by clear hG hZ ih5 hm5; subst_vars; exact ⟨SL5, by rw [gA_sA, if_pos rfl, if_pos rfl]; rw [show v5_4 = gA S 33 b by grind] at hi5; exact hi5, by rw [gA_sA, if_pos rfl, if_pos rfl]⟩)
      · replace hG := gIf_n hG c3
        rcases (Classical.em (((gA SL5 32 ((8 * b) + v5_4)) : Int32) = t)).symm with c5 | c5
        · replace hG := gIf_n hG c5
          obtain ⟨S6, eS6⟩ : ∃ z : mS, z = sA SL5 32 ((8 * b) + v5_3) ((gA SL5 32 ((8 * b) + v5_4))) := ⟨_, rfl⟩
          replace hG := gLt_e hG eS6
          obtain ⟨x7, ex7⟩ : ∃ z : Int32, z = v5_3 + (1) := ⟨_, rfl⟩
          replace hG := gLt_e hG ex7
          obtain ⟨x8, ex8⟩ : ∃ z : Int32, z = v5_4 + (1) := ⟨_, rfl⟩
          replace hG := gLt_e hG ex8
          exact ih5 x7 x8 S6 (by clear hG hZ ih5 hm5; subst_vars; first | exact lvI_skip h1 h2.2 h3 hi5 (by grind) (by grind) | exact lvI_keep h1 h2.2 (by decide) h3 hi5 (by grind) (by grind) rfl) (msd hm5 (by clear hG hZ ih5 hm5; subst_vars; grind) (by clear hG hZ ih5 hm5; subst_vars; grind)) hG
        · replace hG := gIf_p hG c5
          obtain ⟨x9, ex9⟩ : ∃ z : Int32, z = v5_4 + (1) := ⟨_, rfl⟩
          replace hG := gLt_e hG ex9
          exact ih5 v5_3 x9 SL5 (by clear hG hZ ih5 hm5; subst_vars; first | exact lvI_skip h1 h2.2 h3 hi5 (by grind) (by grind) | exact lvI_keep h1 h2.2 (by decide) h3 hi5 (by grind) (by grind) rfl) (msd hm5 (by clear hG hZ ih5 hm5; subst_vars; grind) (by clear hG hZ ih5 hm5; subst_vars; grind)) hG
  exact loop5 ((gA S 33 b - x2).toInt.toNat + 1) x1 x2 S (by clear hG hZ; subst_vars; exact lvI_0 h2.1) (Nat.lt_succ_self _) hG

/-! both side by side: run -/
theorem rf_e {X : xS} {o : Nat} {fm l : Int32} : FC_X12_readyFrom X o fm l = FC_X12_readyFrom_L5 o fm ((8 - 0 : Int32).toInt.toNat + 1) l 0 X := by rw [FC_X12_readyFrom, gLt_x]
theorem sr9 {S : mS} {fm l u : Int32} {dn : Int32} {K : Int32 → mS → Int32 × mS} (f0 : 0 ≤ fm ∧ fm < 9) (l0 : 0 ≤ l ∧ l ≤ 8) (h : sr S fm ((8 - 0 : Int32).toInt.toNat + 1) l 0 = some u) : G_run_L109 dn S K 100 ((fm + 0) &&& 7) l = K (dn + 1) (G_one S u) ∧ gA S 13 u = 1 ∧ 0 ≤ u ∧ u < 8 :=
  srS f0 ((8 - 0 : Int32).toInt.toNat + 1) 100 l 0 l0.1 l0.2 (by decide) (by decide) (Nat.lt_succ_self _) (by decide) h
theorem rf9 {ad : adT} {S : mS} {X : xS} {fm l u : Int32} (h : Rel ad (-1) S X) (f0 : 0 ≤ fm ∧ fm < 9) (hs : sr S fm ((8 - 0 : Int32).toInt.toNat + 1) l 0 = some u) : FC_X12_readyFrom X (ad 8 0) fm l = (some (ad 0 u), X) := by
  rw [rf_e, srX h f0 ((8 - 0 : Int32).toInt.toNat + 1) ((8 - 0 : Int32).toInt.toNat + 1) l 0 (by decide) (by decide) (Nat.lt_succ_self _) (Nat.lt_succ_self _), hs]
  rfl
theorem fnd0 {S : mS} {fm : Int32} (f0 : 0 ≤ fm ∧ fm < 9) (h : 0 < G_ready S) : ∃ u, sr S fm ((8 - 0 : Int32).toInt.toNat + 1) 0 0 = some u := by
  obtain ⟨u, u0, u1, u2⟩ := (p_ready S _ rfl).2.2.2.1 h
  obtain ⟨j, j0, j1, j2⟩ := n7_f f0.1 f0.2 u0 u1
  exact sr_0 _ 0 (by decide) (by decide) (Nat.lt_succ_self _) ⟨j, j0, j1, by rw [j2]; exact u2⟩
theorem fnd1 {S : mS} {l : Int32} (l0 : 0 ≤ l) (h : l < G_ready S) : ∃ u, sr S 0 ((8 - 0 : Int32).toInt.toNat + 1) l 0 = some u := by
  have b := (p_ready S _ rfl).2.2.1
  rw [rdy_e] at h b
  exact sr_1 _ _ 0 l 0 (by decide) (by decide) (by decide) (by decide) l0 (Nat.lt_succ_self _) (Nat.lt_succ_self _) (by rw [show (0 : Int32) + l = l by grind]; exact h) (by generalize G_ready_L4 S ((8 - 0 : Int32).toInt.toNat + 1) 0 0 = g at h b; clear l0; grind)
theorem rdyI_e {S : mS} {k : Nat} {v : Int32} : G_ready (sI S k v) = G_ready S := by rw [rdy_e, rdy_e, rdyI]
/-- as Both, of the loop -/
def RB (ad : adT) (C v : Int32) (g : Int32 × mS) (f : Int32 × Int32 × xS) : Prop := f.1 = 0 ∧ f.2.1 = g.1 ∧ gI g.2 0 = v ∧ Sim ad C g.2 f.2.2
theorem s_run {ad : adT} {how n C : Int32} (hw : 0 ≤ how ∧ how ≤ 2) (hn : 0 ≤ n ∧ n ≤ 4000) (hC : 40000 ≤ C ∧ C ≤ 1000000000) : ∀ (N M : Nat) (dn : Int32) (S : mS) (X : xS), Sim ad (C - 8 * (n - dn)) S X → 0 ≤ dn → dn ≤ n → (n - dn).toInt.toNat < N → (n - dn).toInt.toNat < M →
    RB ad C (gI S 0) (G_run_L39 how n N dn S) (FC_X12_run_L36 (ad 8 0) how n M (gI S 27) dn X) := by
  intro N
  induction N with
  | zero => intro M dn S X _ _ _ h; exact absurd h (Nat.not_lt_zero _)
  | succ N ih =>
    intro M dn S X h d0 d1 hN hM
    cases M with
    | zero => exact absurd hM (Nat.not_lt_zero _)
    | succ M =>
      have hB : 1 ≤ C - 8 * (n - dn) ∧ C - 8 * (n - dn) ≤ 1000000000 := by clear ih h hN hM; grind
      have hBC : C - 8 * (n - dn) ≤ C := by clear ih h hN hM; grind
      have eB : C - 8 * (n - dn) + 8 = C - 8 * (n - (dn + 1)) := by clear ih h hN hM; grind
      rw [G_run_L39, FC_X12_run_L36, cntR_e h.2.2, gC_p]
      by_cases c : n ≤ dn
      · have e : dn = n := by clear ih h hN hM; grind
        rw [if_pos c, if_pos c, e]
        exact ⟨rfl, rfl, rfl, s_mono h hBC⟩
      · rw [if_neg c, if_neg c, gLt_x]
        have n1 := msd hN (b := n - (dn + 1)) (by clear ih h hN hM; grind) (by clear ih h hN hM; grind)
        have m1 := msd hM (b := n - (dn + 1)) (by clear ih h hN hM; grind) (by clear ih h hN hM; grind)
        have pr := (p_ready S _ rfl).2
        by_cases r0 : G_ready S ≤ 0
        · rw [if_pos r0, if_neg (show ¬ 1 ≤ G_ready S by clear ih h pr n1 m1; generalize G_ready S = g at r0; grind)]
          exact ⟨rfl, rfl, rfl, s_mono h hBC⟩
        · have r1 : 0 < G_ready S := by clear ih h pr n1 m1; generalize G_ready S = g at r0; grind
          rw [if_neg r0, if_pos (show 1 ≤ G_ready S by clear ih h pr n1 m1; generalize G_ready S = g at r0 r1; grind), gLt_x]
          -- a step of the one that is found
          have go : ∀ (S1 : mS) (u sd : Int32), Sim ad (C - 8 * (n - dn)) S1 X → gA S1 13 u = 1 → 0 ≤ u → u < 8 → sd = gI S1 27 → gI S1 0 = gI S 0 →
              RB ad C (gI S 0) (G_run_L39 how n N (dn + 1) (G_one S1 u)) (FC_X12_run_L36 (ad 8 0) how n M sd (dn + 1) (FC_X12_takeTurn X (ad 8 0) (some (ad 0 u)))) := by
            intro S1 u sd s1 u2 u0 u1 esd e0
            have s2 := s_turn s1 hB ⟨u0, u1⟩ u2
            rw [eB] at s2
            have i27 := one_I (k := 27) s1.1 ⟨u0, u1⟩ u2 (by decide)
            have i0 := one_I (k := 0) s1.1 ⟨u0, u1⟩ u2 (by decide)
            have r := ih M (dn + 1) _ _ s2 (by clear ih h hN hM s2 pr; grind) (by clear ih h hN hM s2 pr; grind) n1 m1
            rw [i27, ← esd, i0, e0] at r
            exact r
          by_cases h2 : how = 2
          · have n0 : ¬ how = 0 := by rw [h2]; decide
            have lt := h.1.1
            have l8 : 0 ≤ gI S 26 ∧ gI S 26 < 8 := ⟨lt.2.2.1, lt.2.2.2⟩
            have f0 : 0 ≤ gI S 26 + 1 ∧ gI S 26 + 1 < 9 := by clear ih h hN hM pr go; grind
            obtain ⟨u, hu⟩ := fnd0 f0 r1
            obtain ⟨a1, a2, a3, a4⟩ := sr9 (dn := dn) (K := fun z0 z1 => G_run_L39 how n N z0 z1) f0 (by decide) hu
            rw [if_pos h2, gLt_x, gLt_x, if_neg n0, n7_s l8.1 l8.2, a1, gLt_x, if_neg n0, if_pos h2, gLt_x, h.2.2.2.1.2.2.2.2.2.1, rf9 h.2.2 f0 hu, gC_p, gO_1, gLt_x, gLt_x]
            exact go S u _ h a2 a3 a4 rfl rfl
          · rw [if_neg h2, gLt_x, gLt_x]
            by_cases h0 : how = 0
            · have e7 : gI (sI S 27 (gI S 27 * 1103515245 + 12345)) 27 = gI S 27 * 1103515245 + 12345 := by simp [gI_sI]
              rw [if_pos h0]
              repeat rw [gLt_x]
              rw [if_pos h0]
              repeat rw [gLt_x]
              rw [rdyI_e, e7, if_neg h2]
              have s1 := s_I (k := 27) (v := gI S 27 * 1103515245 + 12345) h (by decide)
              have sh := ush8 (x := gI S 27 * 1103515245 + 12345) rfl
              have rm := rem_r sh r1
              generalize ((gI S 27 * 1103515245 + 12345).toUInt32 >>> ((8 : Int32).toUInt32 &&& Int32.toUInt32 31)).toInt32 = q at rm ⊢
              have lr : q - q / G_ready S * G_ready S < G_ready (sI S 27 (gI S 27 * 1103515245 + 12345)) := by rw [rdyI_e]; exact rm.2
              obtain ⟨u, hu⟩ := fnd1 rm.1 lr
              obtain ⟨a1, a2, a3, a4⟩ := sr9 (dn := dn) (K := fun z0 z1 => G_run_L39 how n N z0 z1) (by decide) ⟨rm.1, by have b := pr.2.1; generalize q - q / G_ready S * G_ready S = g at rm; clear ih h hN hM go pr lr s1; generalize G_ready S = gg at *; grind⟩ hu
              rw [show ((0 : Int32) + 0) &&& 7 = 0 by decide] at a1
              rw [a1, rf9 s1.2.2 (by decide) hu, gC_p, gO_1]
              repeat rw [gLt_x]
              exact go _ u _ s1 a2 a3 a4 e7.symm (by simp [gI_sI])
            · rw [if_neg h0, gLt_x, if_neg h0, if_neg h2]
              obtain ⟨u, hu⟩ := fnd0 (fm := 0) (by decide) r1
              obtain ⟨a1, a2, a3, a4⟩ := sr9 (dn := dn) (K := fun z0 z1 => G_run_L39 how n N z0 z1) (by decide) (by decide) hu
              rw [show ((0 : Int32) + 0) &&& 7 = 0 by decide] at a1
              rw [a1, rf9 h.2.2 (by decide) hu, gC_p, gO_1]
              repeat rw [gLt_x]
              exact go S u _ h a2 a3 a4 rfl rfl
theorem t_run {ad : adT} {B : Int32} {S : mS} {X : xS} {how z n : Int32} (h : Sim ad B S X) (hB : 8000 ≤ B ∧ B ≤ 900000000) : Both ad (B + 32000) (G_run S how z n) (FC_X12_run X (ad 8 0) how z n) := by
  have hB2 : B ≤ B + 32000 := by clear h; grind
  rw [G_run, gLt_x, FC_X12_run]
  by_cases c : 0 ≤ how ∧ how ≤ 2
  · rw [in_1 c, if_neg (by decide), gLt_x, if_neg (show ¬ how < 0 by clear h; grind), if_neg (show ¬ 2 < how by clear h; grind)]
    by_cases d : 0 ≤ n ∧ n ≤ 4000
    · rw [in_1 d, if_neg (by decide), if_neg (show ¬ n < 0 by clear h; grind), if_pos d.2]
      repeat rw [gLt_x]
      have s1 := s_I (k := 27) (v := z) (s_I (k := 0) (v := 0) h (by decide)) (by decide)
      have e27 : gI (sI (sI S 0 0) 27 z) 27 = z := by simp [gI_sI]
      have e0 : gI (sI (sI S 0 0) 27 z) 0 = 0 := by simp [gI_sI]
      have r := s_run (C := B + 32000) c d (by clear h s1; grind) ((n - 0).toInt.toNat + 1) ((n - 0).toInt.toNat + 1) 0 _ _ (s_mono s1 (show B ≤ B + 32000 - 8 * (n - 0) by clear h s1; grind)) (by decide) d.1 (Nat.lt_succ_self _) (Nat.lt_succ_self _)
      rw [e27, e0] at r
      exact ⟨r.1.trans r.2.2.1.symm, fun _ => r.2.1, r.2.2.2⟩
    · rw [in_0 d, if_pos rfl, G_run_J20, refuse_e, gC_p]
      by_cases y : n < 0
      · rw [if_pos y]; exact b_mono (b_ref h (by decide)) hB2
      · rw [if_neg y, if_neg (show ¬ n ≤ 4000 by clear h; grind)]; exact b_mono (b_ref h (by decide)) hB2
  · rw [in_0 c, if_pos rfl, G_run_J20, refuse_e, gC_p]
    by_cases y : how < 0
    · rw [if_pos y]; exact b_mono (b_ref h (by decide)) hB2
    · rw [if_neg y, if_pos (show 2 < how by clear h; grind)]; exact b_mono (b_ref h (by decide)) hB2

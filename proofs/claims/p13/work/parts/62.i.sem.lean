/-! both side by side: at a SEMAPHORE -/
theorem part_gs {S : mS} {t k u j : Int32} (h : u ≠ t) : G_part (gs S t k) u j = G_part S u j := by
  rw [G_part, G_part, gs_u h, gs_o (by decide) (by decide)]
theorem part0 {S : mS} {u : Int32} : G_part S u 0 = opM S u := by
  rw [G_part, opM, show 240 * u + 4 * gA S 15 u + 0 = 240 * u + 4 * gA S 15 u by grind]
theorem row_op {S : mS} {B b : Int32} (hJ : jIn S B (-1)) (hb : 0 ≤ b ∧ b < 24) (c : ¬ gA S 33 b ≤ 0) : jMb (gA S 28 b) (gA S 37 b) (gA S 29 b) (opM S (gA S 32 (8 * b))) := by
  have z := hJ.2.2.2.2.1 b 0 hb.1 hb.2 (by decide) (by clear hJ; grind)
  rwa [show 8 * b + 0 = 8 * b by grind] at z
theorem row_u {S : mS} {b : Int32} (hm : mInv S) (hb : 0 ≤ b ∧ b < 24) (c : ¬ gA S 33 b ≤ 0) : (0 ≤ gA S 32 (8 * b) ∧ gA S 32 (8 * b) < 8) ∧ (0 ≤ gA S 15 (gA S 32 (8 * b)) ∧ gA S 15 (gA S 32 (8 * b)) < gA S 12 (gA S 32 (8 * b)) ∧ gA S 12 (gA S 32 (8 * b)) ≤ 60) :=
  have z := in_row hb hm (inR0 c)
  ⟨z.1, at_of hm z.1 z.2.2⟩
theorem s_se {ad : adT} {B b v : Int32} {S : mS} {X : xS} (h : Sim ad B S X) (hb : 0 ≤ b ∧ b < 24) (hk : gA S 28 b = 2) : Sim ad B (sA S 29 b v) (xwI X (ad 2 b) 3 v) := by
  refine ⟨m_29 h.1 (by rw [hk]; decide) hb, j_29 h.2.1 (Int32.le_refl _) (by rw [hk]; decide) ?_, Rel_se h.2.2 hk⟩
  have z := h.2.1.1 b hb.1 hb.2
  rw [hk] at z ⊢
  unfold jOb at z ⊢
  clear h; grind
theorem s_ho {ad : adT} {B b : Int32} (hb : 0 ≤ b ∧ b < 24) : ∀ (N M : Nat) (i : Int32) (S : mS) (X : xS), Sim ad B S X → gA S 28 b = 2 → 0 ≤ i → i ≤ 8 → gA S 33 b ≤ 8 - i → (gA S 33 b).toInt.toNat < N → (8 - i).toInt.toNat < M →
    (G_atSemaphore_L72 b N S).1 = 1 ∧ Sim ad B (G_atSemaphore_L72 b N S).2 (FC_X7_handOut_L2 (ad 2 b) M i X) ∧ (∀ t, 0 ≤ t → t < 8 → nR S t → gA S 21 t = 0 → gA (G_atSemaphore_L72 b N S).2 13 t = gA S 13 t) ∧
    (∀ t k, 0 ≤ t → t < 8 → nR S t → gA S 21 t = 0 → G_atSemaphore_L72 b N (gs S t k) = (1, gs (G_atSemaphore_L72 b N S).2 t k)) := by
  intro N
  induction N with
  | zero => intro M i S X _ _ _ _ _ h; exact absurd h (Nat.not_lt_zero _)
  | succ N ih =>
    intro M i S X h hk i0 i8 hr hN hM
    have hk0 : gA S 28 b ≠ 0 := by rw [hk]; decide
    have ho := ob2 h.2.2 hb hk0
    have hf := R_first h.2.2 hb hk0
    have x3 := hgt h.2.2 hb (Or.inl hk)
    have l8 := pre_lv hb h.1
    cases M with
    | zero => exact absurd hM (Nat.not_lt_zero _)
    | succ M =>
      by_cases c : gA S 33 b ≤ 0
      · have e : ∀ T : mS, gA T 33 b = gA S 33 b → G_atSemaphore_L72 b (N + 1) T = (1, T) := fun T hT => by rw [G_atSemaphore_L72, hT, if_pos c, G_atSemaphore_J177]
        rw [e S rfl]
        refine ⟨rfl, ?_, fun t _ _ _ _ => rfl, fun t k _ _ _ _ => e _ (gs_o (by decide) (by decide))⟩
        rw [FC_X7_handOut_L2]
        by_cases d : (8 : Int32) ≤ i
        · rw [if_pos d]; exact h
        · rw [if_neg d, gLt_x, ho, Option.getD_some, hf, if_pos c, gC_p, gO_0]; exact h
      · have d := m8 hr (by clear ih h; grind) i0
        obtain ⟨u0, ua⟩ := row_u h.1 hb c
        have uo : opM S (gA S 32 (8 * b)) = 17 := (row_op h.2.1 hb c).1 hk
        have op := R_op2 h.2.2 u0 ua (Or.inr (Or.inr (Or.inl uo)))
        have eX : FC_X7_handOut_L2 (ad 2 b) (M + 1) i X = if G_part S (gA S 32 (8 * b)) 2 ≤ gA S 29 b then FC_X7_handOut_L2 (ad 2 b) M (i + 1) (FC_X8_goOn (xwI X (ad 2 b) 3 (gA S 29 b - G_part S (gA S 32 (8 * b)) 2)) (ad 0 (gA S 32 (8 * b)))) else X := by
          rw [FC_X7_handOut_L2, if_neg d, gLt_x, ho, Option.getD_some, hf, if_neg c, gC_p, gO_1, gLt_x, op, gC_p, x3, gLt_x, op, gC_p]
          repeat rw [gLt_x]
        have eS : ∀ T : mS, gA T 33 b = gA S 33 b → gA T 32 (8 * b) = gA S 32 (8 * b) → G_part T (gA S 32 (8 * b)) 2 = G_part S (gA S 32 (8 * b)) 2 → gA T 29 b = gA S 29 b → G_atSemaphore_L72 b (N + 1) T = if gA S 29 b < G_part S (gA S 32 (8 * b)) 2 then (1, T) else G_atSemaphore_L72 b N (fgo (sA T 29 b (gA S 29 b - G_part S (gA S 32 (8 * b)) 2)) b) := fun T a1 a2 a3 a4 => by
          rw [G_atSemaphore_L72, a1, if_neg c, gLt_x, a2, a3, a4, gLt_x, gLt_x, fg_e, gC_p, G_atSemaphore_J177]
        rw [eX]
        have eSS := eS S rfl rfl rfl rfl
        by_cases y : gA S 29 b < G_part S (gA S 32 (8 * b)) 2
        · rw [if_pos y] at eSS
          rw [eSS, if_neg (by clear ih h eX eS; grind)]
          refine ⟨rfl, h, fun t _ _ _ _ => rfl, fun t k t0 t1 tn t21 => ?_⟩
          have ut := fg_t hb tn c
          rw [eS _ (gs_o (by decide) (by decide)) (gs_o (by decide) (by decide)) (part_gs ut) (gs_o (by decide) (by decide)), if_pos y]
        · rw [if_neg y] at eSS
          rw [eSS, if_pos (by clear ih h eX eS; grind)]
          have s1 := s_se (v := gA S 29 b - G_part S (gA S 32 (8 * b)) 2) h hb hk
          have o29 : ∀ k i, k ≠ 29 → gA (sA S 29 b (gA S 29 b - G_part S (gA S 32 (8 * b)) 2)) k i = gA S k i := fun k i a => by simp [gA_sA, a]
          have nR9 : ∀ t, nR S t → nR (sA S 29 b (gA S 29 b - G_part S (gA S 32 (8 * b)) 2)) t := fun t z => by simpa [nR, gA_sA] using z
          have c1 : ¬ gA (sA S 29 b (gA S 29 b - G_part S (gA S 32 (8 * b)) 2)) 33 b ≤ 0 := by rw [o29 _ _ (by decide)]; exact c
          have s2 := fg_s s1 hb (by rw [o29 _ _ (by decide), hk]; decide) c1
          rw [o29 32 _ (by decide)] at s2
          have f := fg_f s1.1 hb c1
          rw [o29 33 b (by decide)] at f
          have e28 := f.2.2 28 b (by decide) (by decide) (by decide) (by decide) (by decide)
          rw [o29 28 b (by decide)] at e28
          have r := ih M (i + 1) _ _ s2 (e28.trans hk) (by clear ih h f; grind) (by clear ih h f; grind) (by have := f.2.1; clear ih h f; grind) (msd hN f.2.1.1 f.2.1.2) (msd hM (by clear ih h f; grind) (by clear ih h f; grind))
          obtain ⟨r1, r2, r3, r4⟩ := r
          refine ⟨r1, r2, fun t t0 t1 tn t21 => ?_, fun t k t0 t1 tn t21 => ?_⟩
          · have z := f.1.2.2.2 t t0 t1 (nR9 t tn) (by rw [o29 _ _ (by decide)]; exact t21)
            exact (r3 t t0 t1 z.1 z.2.2.2).trans (z.2.1.trans (o29 _ _ (by decide)))
          · have ut := fg_t hb tn c
            have z := f.1.2.2.2 t t0 t1 (nR9 t tn) (by rw [o29 _ _ (by decide)]; exact t21)
            rw [eS _ (gs_o (by decide) (by decide)) (gs_o (by decide) (by decide)) (part_gs ut) (gs_o (by decide) (by decide)), if_neg y, gs_sA (by decide) (by decide) (by decide), fg_gs s1.1 hb (nR9 t tn) c1]
            exact r4 t k t0 t1 z.1 z.2.2.2
section ATE
variable {ad : adT} {B : Int32} {S : mS} {X : xS} {b t : Int32}
theorem s_e17 (h : Sim ad B S X) (hf : fre S t) (hb : 0 ≤ b ∧ b < 24) (hk : gA S 28 b = 2) (hq : opM S t = 17) : Sim ad B (fin t (gA S 15 t + 1) (G_atSemaphore S t 17 b)) (FC_X7_perform X (ad 2 b) (ad 0 t) 18) := by
  have x3 := hgt h.2.2 hb (Or.inl hk)
  have op := R_op2 h.2.2 hf.1 (fre_at h.1 hf) (Or.inr (Or.inr (Or.inl hq)))
  have l8 := pre_lv hb h.1
  have eX : FC_X7_perform X (ad 2 b) (ad 0 t) 18 = if gA S 33 b = 0 then (if gA S 29 b < G_part S t 2 then FC_X9_holdUp X (ad 2 b) (ad 0 t) else FC_X8_goOn (xwI X (ad 2 b) 3 (gA S 29 b - G_part S t 2)) (ad 0 t)) else FC_X9_holdUp X (ad 2 b) (ad 0 t) := by
    rw [FC_X7_perform, gLt_x, gLt_x, ord_e, show swM.getD (Int32.toNatClampNeg (nI 18)) 0 = 8 by decide, if_neg (by decide), if_pos (by decide), gLt_x, gLt_x, ob2 h.2.2 hb (by rw [hk]; decide), Option.getD_some, rsz h.2.2 hb (by rw [hk]; decide), gLt_x, op, gC_p, x3, gLt_x, gLt_x, op, gC_p]
    repeat rw [gLt_x]
  have hp : Sim ad B (fin t (gA S 15 t + 1) (G_passes S t b)) (FC_X9_holdUp X (ad 2 b) (ad 0 t)) := s_pass h hf hb (by rw [hk]; decide) (fun z => absurd (hk.symm.trans z) (by decide)) (fun z => absurd (hk.symm.trans z) (by decide)) ⟨fun _ => hq, fun z => absurd (hk.symm.trans z) (by decide), fun z => absurd (hk.symm.trans z) (by decide)⟩
  rw [eX, G_atSemaphore, gLt_x, if_pos rfl, G_atSemaphore_J34, pas_eta]
  by_cases c : gA S 33 b = 0
  · rw [if_pos c]
    by_cases d : gA S 29 b < G_part S t 2
    · rw [if_pos d, if_pos d]; exact hp
    · rw [if_neg d, if_neg d, if_pos (by clear h eX hp; grind), gLt_x, G_atSemaphore_J177]
      have f1 : fre (sA S 29 b (gA S 29 b - G_part S t 2)) t := fre_k hf (by decide) (by decide) (by decide) (by decide)
      have z := s_go (s_se (v := gA S 29 b - G_part S t 2) h hb hk) f1
      rw [show gA (sA S 29 b (gA S 29 b - G_part S t 2)) 15 t = gA S 15 t by simp [gA_sA]] at z
      rw [fin_1 f1.2.1]; exact z
  · rw [if_neg c]
    by_cases d : gA S 29 b < G_part S t 2
    · rw [if_pos d]; exact hp
    · rw [if_neg d, if_neg (by clear h eX hp; grind)]; exact hp
theorem handOut_e {o : Nat} : FC_X7_handOut X o = FC_X7_handOut_L2 o ((8 - 0 : Int32).toInt.toNat + 1) 0 X := by rw [FC_X7_handOut, gLt]
theorem s_e18 (h : Sim ad B S X) (hf : fre S t) (hb : 0 ≤ b ∧ b < 24) (hk : gA S 28 b = 2) (hq : opM S t = 18) : Sim ad B (fin t (gA S 15 t + 1) (G_atSemaphore S t 18 b)) (FC_X7_perform X (ad 2 b) (ad 0 t) 19) := by
  have x3 := hgt h.2.2 hb (Or.inl hk)
  have op := R_op2 h.2.2 hf.1 (fre_at h.1 hf) (Or.inr (Or.inr (Or.inr hq)))
  have l8 := pre_lv hb h.1
  have eX : FC_X7_perform X (ad 2 b) (ad 0 t) 19 = FC_X7_handOut (FC_X8_goOn (xwI X (ad 2 b) 3 (gA S 29 b + G_part S t 2)) (ad 0 t)) (ad 2 b) := by
    rw [FC_X7_perform, gLt_x, gLt_x, ord_e, show swM.getD (Int32.toNatClampNeg (nI 19)) 0 = 9 by decide, if_neg (by decide), if_neg (by decide), gLt_x, op, gC_p, gLt_x, gLt_x, gLt_x, gLt_x, x3]
  have f1 : fre (sA S 29 b (gA S 29 b + G_part S t 2)) t := fre_k hf (by decide) (by decide) (by decide) (by decide)
  have s1 := s_se (v := gA S 29 b + G_part S t 2) h hb hk
  have z := s_go s1 f1
  have o29 : ∀ k i, k ≠ 29 → gA (sA S 29 b (gA S 29 b + G_part S t 2)) k i = gA S k i := fun k i a => by simp [gA_sA, a]
  rw [o29 15 t (by decide)] at z
  rw [eX, handOut_e, G_atSemaphore, gLt_x, if_neg (by decide), if_pos rfl, gLt_x]
  have k1 : gA (sA S 29 b (gA S 29 b + G_part S t 2)) 28 b = 2 := by rw [o29 _ _ (by decide)]; exact hk
  have e33 := o29 33 b (by decide)
  have r0 := s_ho hb ((gA (sA S 29 b (gA S 29 b + G_part S t 2)) 33 b).toInt.toNat + 1) ((8 - 0 : Int32).toInt.toNat + 1) 0 _ _ s1 k1 (by decide) (by decide) (by rw [e33]; clear h z s1 eX; grind) (Nat.lt_succ_self _) (Nat.lt_succ_self _)
  have r := s_ho hb ((gA (sA S 29 b (gA S 29 b + G_part S t 2)) 33 b).toInt.toNat + 1) ((8 - 0 : Int32).toInt.toNat + 1) 0 _ _ z (by rw [gs_o (by decide) (by decide)]; exact k1) (by decide) (by decide) (by rw [gs_o (by decide) (by decide), e33]; clear h z s1 eX; grind) (by rw [gs_o (by decide) (by decide)]; exact Nat.lt_succ_self _) (Nat.lt_succ_self _)
  rw [r0.2.2.2 t _ hf.1.1 hf.1.2 f1.2.2.2 f1.2.2.1] at r
  rw [eta2 r0.1, fin_1 ((r0.2.2.1 t hf.1.1 hf.1.2 f1.2.2.2 f1.2.2.1).trans f1.2.1)]
  exact r.2.1
theorem s_e19 (h : Sim ad B S X) (hf : fre S t) (hb : 0 ≤ b ∧ b < 24) (hk : gA S 28 b = 2) : Sim ad B (fin t (gA S 15 t + 1) (G_atSemaphore S t 19 b)) (FC_X7_perform X (ad 2 b) (ad 0 t) 20) := by
  have x3 := hgt h.2.2 hb (Or.inl hk)
  have eX : FC_X7_perform X (ad 2 b) (ad 0 t) 20 = if gA S 29 b ≤ 0 then FC_X8_goOnWith (xwI X (ad 2 b) 3 (gA S 29 b - 0)) (ad 0 t) 0 else FC_X8_goOnWith (xwI X (ad 2 b) 3 (gA S 29 b - gA S 29 b)) (ad 0 t) (gA S 29 b) := by
    rw [FC_X7_perform, gLt_x, gLt_x, ord_e, show swM.getD (Int32.toNatClampNeg (nI 20)) 0 = 0 by decide, if_pos (by decide), gLt_x, gLt_x, gLt_x, gLt_x, gLt_x, gLt_x, gLt_x, gLt_x, x3]
  rw [eX, G_atSemaphore, gLt_x, if_neg (by decide), if_neg (by decide)]
  by_cases c : gA S 29 b ≤ 0
  · rw [if_pos c, if_pos c, G_atSemaphore_J160, gLt_x, show gA (sA S 14 t 0) 29 b = gA S 29 b by simp [gA_sA], if_pos c, G_atSemaphore_J177, fin_1 (fre_14 hf).2.1]
    have z := s_se (v := gA S 29 b) h hb hk
    rw [sA_self rfl] at z
    rw [show gA S 29 b - 0 = gA S 29 b by grind]
    exact s_gow z hf
  · rw [if_neg c, if_neg c, G_atSemaphore_J160, gLt_x, show gA (sA S 14 t (gA S 29 b)) 29 b = gA S 29 b by simp [gA_sA], if_neg c, gLt_x, G_atSemaphore_J177]
    have f1 : fre (sA S 29 b 0) t := fre_k hf (by decide) (by decide) (by decide) (by decide)
    have z := s_gow (v := gA S 29 b) (s_se (v := 0) h hb hk) f1
    rw [show gA (sA S 29 b 0) 15 t = gA S 15 t by simp [gA_sA]] at z
    rw [sA_comm (k := 14) (l := 29) (Or.inl (by decide)), fin_1 (fre_14 f1).2.1, show gA S 29 b - gA S 29 b = 0 by grind]
    exact z
end ATE

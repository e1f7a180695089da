/-! both side by side: at a GATE -/
section GT
variable {ad : adT} {B C : Int32} {S : mS} {X : xS} {b t : Int32}
theorem gat {e : Int32} (h : Rel ad e S X) (hb : 0 ≤ b ∧ b < 24) (hk : gA S 28 b = 8) : xI X (ad 2 b) 3 = gA S 31 b ∧ xI X (ad 2 b) 4 = gA S 29 b :=
  ((h.2.2.2.2.2.2.2.2.1 b hb.1 hb.2).2 (by rw [hk]; decide)).2.2.2.2.2.2.2.2.2.2.2.2 hk
theorem s_gf {v : Int32} (h : Sim ad B S X) (hBC : B ≤ C) (hb : 0 ≤ b ∧ b < 24) (hk : gA S 28 b = 8) (hv : 0 ≤ v ∧ v ≤ C) (ho : 0 ≤ gA S 31 b → v = 0) : Sim ad C (sA S 29 b v) (xwI X (ad 2 b) 4 v) := by
  refine ⟨m_29 h.1 (by rw [hk]; decide) hb, j_29 h.2.1 hBC (by rw [hk]; decide) ?_, Rel_gf h.2.2 hk⟩
  have z := h.2.1.1 b hb.1 hb.2
  rw [hk] at z ⊢
  unfold jOb at z ⊢
  clear h; grind
theorem s_gw {v : Int32} (h : Sim ad B S X) (hb : 0 ≤ b ∧ b < 24) (hk : gA S 28 b = 8) (hv : -1 ≤ v ∧ v < 8) (ho : 0 ≤ v → gA S 29 b = 0) : Sim ad B (sA S 31 b v) (xwI X (ad 2 b) 3 v) := by
  refine ⟨m_31 h.1 hb hv, j_31 h.2.1 (by rw [hk]; decide) ?_, Rel_go h.2.2 hk⟩
  have z := h.2.1.1 b hb.1 hb.2
  rw [hk] at z ⊢
  unfold jOb at z ⊢
  clear h; grind
theorem part_sA {l : Nat} {i v u j : Int32} (h1 : l ≠ 11) (h2 : l ≠ 15) : G_part (sA S l i v) u j = G_part S u j := by
  rw [G_part, G_part]; simp [gA_sA, Ne.symm h1, Ne.symm h2]
end GT
theorem tc30 : (toC 29).toNatClampNeg = 30 := by decide
theorem tc32 : (toC 31).toNatClampNeg = 32 := by decide
/-- those at in go on -/
theorem s_in {ad : adT} {C b : Int32} (hb : 0 ≤ b ∧ b < 24) (hC : C ≤ 1000000008) : ∀ (N M : Nat) (i : Int32) (S : mS) (X : xS), Sim ad C S X → gA S 28 b = 8 → gA S 31 b = -1 → 0 ≤ i → i ≤ 8 → gA S 33 b ≤ 8 - i → gA S 29 b ≤ C - (8 - i) → 8 ≤ C → (0 < gA S 29 b ∨ (¬ gA S 33 b ≤ 0 → opM S (gA S 32 (8 * b)) = 29)) → (gA S 33 b).toInt.toNat < N → (8 - i).toInt.toNat < M →
    Sim ad C (G_opened_L40 b N S) (FC_X1_rowGoesOn_L2 (ad 2 b) M i X) ∧ (∀ t, 0 ≤ t → t < 8 → nR S t → gA S 21 t = 0 → gA (G_opened_L40 b N S) 13 t = gA S 13 t) ∧
    (∀ t k, 0 ≤ t → t < 8 → nR S t → gA S 21 t = 0 → G_opened_L40 b N (gs S t k) = gs (G_opened_L40 b N S) t k) := by
  intro N
  induction N with
  | zero => intro M i S X _ _ _ _ _ _ _ _ _ h; exact absurd h (Nat.not_lt_zero _)
  | succ N ih =>
    intro M i S X h hk ho i0 i8 hr hB C8 hq hN hM
    have hk0 : gA S 28 b ≠ 0 := by rw [hk]; decide
    have h2 := ob2 h.2.2 hb hk0
    have hf := R_first h.2.2 hb hk0
    obtain ⟨x3, x4⟩ := gat h.2.2 hb hk
    have l8 := pre_lv hb h.1
    have zo := h.2.1.1 b hb.1 hb.2
    rw [hk] at zo
    have f0 : 0 ≤ gA S 29 b := by unfold jOb at zo; clear ih h; grind
    cases M with
    | zero => exact absurd hM (Nat.not_lt_zero _)
    | succ M =>
      by_cases c : gA S 33 b ≤ 0
      · have e : ∀ T : mS, gA T 33 b = gA S 33 b → G_opened_L40 b (N + 1) T = T := fun T hT => by rw [G_opened_L40, hT, if_pos c]
        rw [e S rfl]
        refine ⟨?_, fun t _ _ _ _ => rfl, fun t k _ _ _ _ => e _ (gs_o (by decide) (by decide))⟩
        rw [FC_X1_rowGoesOn_L2]
        by_cases d : (8 : Int32) ≤ i
        · rw [if_pos d]; exact h
        · rw [if_neg d, gLt_x, x3, if_pos ho, gLt_x, h2, Option.getD_some, hf, if_pos c, gC_p, gO_0]; exact h
      · have d := m8 hr (by clear ih h; grind) i0
        obtain ⟨u0, ua⟩ := row_u h.1 hb c
        have uo := (row_op h.2.1 hb c).2.1 hk
        have wd := (R_word h.2.2 u0 ua).1
        have eS : ∀ T : mS, gA T 33 b = gA S 33 b → gA T 32 (8 * b) = gA S 32 (8 * b) → G_part T (gA S 32 (8 * b)) 0 = opM S (gA S 32 (8 * b)) → G_opened_L40 b (N + 1) T = if opM S (gA S 32 (8 * b)) = 29 then G_opened_L40 b N (sA (fgo T b) 29 b (gA (fgo T b) 29 b + 1)) else T := fun T a1 a2 a3 => by
          rw [G_opened_L40, a1, if_neg c, gLt_x, a2, a3, fg_e, gC_p, gLt_x]
        have eSS := eS S rfl rfl part0
        by_cases y : opM S (gA S 32 (8 * b)) = 29
        · rw [if_pos y] at eSS
          have eX : FC_X1_rowGoesOn_L2 (ad 2 b) (M + 1) i X = FC_X1_rowGoesOn_L2 (ad 2 b) M (i + 1) (FC_X8_goOn (xwI X (ad 2 b) 4 (gA S 29 b + 1)) (ad 0 (gA S 32 (8 * b)))) := by
            rw [FC_X1_rowGoesOn_L2, if_neg d, gLt_x, x3, if_pos ho, gLt_x, h2, Option.getD_some, hf, if_neg c, gC_p, gO_1, wd, gC_p, y, tc30, if_neg (by decide), gLt_x, x4]
            repeat rw [gLt_x]
          have s1 := s_gf (v := gA S 29 b + 1) h (Int32.le_refl C) hb hk (by clear ih h eX eS eSS; grind) (fun z => by rw [ho] at z; exact absurd z (by decide))
          have o29 : ∀ k i, k ≠ 29 → gA (sA S 29 b (gA S 29 b + 1)) k i = gA S k i := fun k i a => by simp [gA_sA, a]
          have nR9 : ∀ t, nR S t → nR (sA S 29 b (gA S 29 b + 1)) t := fun t z => by simpa [nR, gA_sA] using z
          have c1 : ¬ gA (sA S 29 b (gA S 29 b + 1)) 33 b ≤ 0 := by rw [o29 _ _ (by decide)]; exact c
          have s2 := fg_s s1 hb (by rw [o29 _ _ (by decide), hk]; decide) c1
          rw [o29 32 _ (by decide)] at s2
          have f := fg_f s1.1 hb c1
          rw [o29 33 b (by decide)] at f
          have fr : ∀ k i, k ≠ 13 → k ≠ 15 → k ≠ 16 → k ≠ 32 → k ≠ 33 → k ≠ 29 → gA (fgo (sA S 29 b (gA S 29 b + 1)) b) k i = gA S k i := fun k i a1 a2 a3 a4 a5 a6 => (f.2.2 k i a1 a2 a3 a4 a5).trans (o29 k i a6)
          have f29 : gA (fgo (sA S 29 b (gA S 29 b + 1)) b) 29 b = gA S 29 b + 1 := (f.2.2 29 b (by decide) (by decide) (by decide) (by decide) (by decide)).trans (by simp [gA_sA])
          have g29 : gA (fgo S b) 29 b = gA S 29 b := (fg_f h.1 hb c).2.2 29 b (by decide) (by decide) (by decide) (by decide) (by decide)
          have ef : sA (fgo S b) 29 b (gA (fgo S b) 29 b + 1) = fgo (sA S 29 b (gA S 29 b + 1)) b := by rw [g29, fg_sA (by decide) (by decide) (by decide) (by decide) (by decide) (by decide)]
          rw [ef] at eSS
          have r := ih M (i + 1) _ _ s2 ((fr 28 b (by decide) (by decide) (by decide) (by decide) (by decide) (by decide)).trans hk) ((fr 31 b (by decide) (by decide) (by decide) (by decide) (by decide) (by decide)).trans ho) (by clear ih h f eX eS eSS; grind) (by clear ih h f eX eS eSS; grind) (by have := f.2.1; clear ih h f eX eS eSS; grind) (by rw [f29]; clear ih h f eX eS eSS; grind) C8 (Or.inl (by rw [f29]; clear ih h f eX eS eSS; grind)) (msd hN f.2.1.1 f.2.1.2) (msd hM (by clear ih h f eX eS eSS; grind) (by clear ih h f eX eS eSS; grind))
          obtain ⟨r1, r2, r3⟩ := r
          rw [eSS, eX]
          refine ⟨r1, fun t t0 t1 tn t21 => ?_, fun t k t0 t1 tn t21 => ?_⟩
          · have z := f.1.2.2.2 t t0 t1 (nR9 t tn) (by rw [o29 _ _ (by decide)]; exact t21)
            exact (r2 t t0 t1 z.1 z.2.2.2).trans (z.2.1.trans (o29 _ _ (by decide)))
          · have ut := fg_t hb tn c
            have z := f.1.2.2.2 t t0 t1 (nR9 t tn) (by rw [o29 _ _ (by decide)]; exact t21)
            rw [eS _ (gs_o (by decide) (by decide)) (gs_o (by decide) (by decide)) (by rw [part_gs ut]; exact part0), if_pos y, fg_gs h.1 hb tn c, gs_o (show (29 : Nat) ≠ 13 by decide) (show (29 : Nat) ≠ 15 by decide), gs_sA (by decide) (by decide) (by decide), ef]
            exact r3 t k t0 t1 z.1 z.2.2.2
        · rw [if_neg y] at eSS
          have y31 : opM S (gA S 32 (8 * b)) = 31 := by rcases uo with q | q; exact absurd q y; exact q
          have fp : 0 < gA S 29 b := by rcases hq with q | q; exact q; exact absurd (q c) y
          have eX : FC_X1_rowGoesOn_L2 (ad 2 b) (M + 1) i X = X := by
            rw [FC_X1_rowGoesOn_L2, if_neg d, gLt_x, x3, if_pos ho, gLt_x, h2, Option.getD_some, hf, if_neg c, gC_p, gO_1, wd, gC_p, y31, tc32, if_pos rfl, gLt_x, x4, if_neg (by clear ih h eS eSS; grind)]
          rw [eSS, eX]
          refine ⟨h, fun t _ _ _ _ => rfl, fun t k t0 t1 tn t21 => ?_⟩
          rw [eS _ (gs_o (by decide) (by decide)) (gs_o (by decide) (by decide)) (by rw [part_gs (fg_t hb tn c)]; exact part0), if_neg y]
theorem rgo_e {X : xS} {o : Nat} : FC_X1_rowGoesOn X o = FC_X1_rowGoesOn_L2 o ((8 - 0 : Int32).toInt.toNat + 1) 0 X := by rw [FC_X1_rowGoesOn, gLt]
section GT2
variable {ad : adT} {B : Int32} {S : mS} {X : xS} {b t : Int32}
/-- the row of a free GATE goes on -/
theorem s_opn (h : Sim ad (B + 8) S X) (hB : 1 ≤ B ∧ B ≤ 1000000000) (hb : 0 ≤ b ∧ b < 24) (hk : gA S 28 b = 8) (ho : gA S 31 b = -1) (h0 : gA S 29 b = 0) :
    Sim ad (B + 8) (G_opened S b) (FC_X1_rowGoesOn X (ad 2 b)) ∧ (∀ t, 0 ≤ t → t < 8 → nR S t → gA S 21 t = 0 → gA (G_opened S b) 13 t = gA S 13 t) ∧ (∀ t k, 0 ≤ t → t < 8 → nR S t → gA S 21 t = 0 → G_opened (gs S t k) b = gs (G_opened S b) t k) := by
  have l8 := pre_lv hb h.1
  have hk0 : gA S 28 b ≠ 0 := by rw [hk]; decide
  rw [rgo_e]
  by_cases c : gA S 33 b ≤ 0
  · have r := s_in hb (C := B + 8) (by clear h; grind) ((gA S 33 b).toInt.toNat + 1) ((8 - 0 : Int32).toInt.toNat + 1) 0 S X h hk ho (by decide) (by decide) (by clear h; grind) (by clear h; grind) (by clear h; grind) (Or.inr (fun z => absurd c z)) (Nat.lt_succ_self _) (Nat.lt_succ_self _)
    have e : ∀ T : mS, gA T 33 b = gA S 33 b → G_opened T b = G_opened_L40 b ((gA S 33 b).toInt.toNat + 1) T := fun T hT => by rw [G_opened, hT, if_pos c]
    rw [e S rfl]
    exact ⟨r.1, r.2.1, fun t k t0 t1 tn t21 => by rw [e _ (gs_o (by decide) (by decide))]; exact r.2.2 t k t0 t1 tn t21⟩
  · obtain ⟨u0, ua⟩ := row_u h.1 hb c
    have uo := (row_op h.2.1 hb c).2.1 hk
    have e : ∀ T : mS, gA T 33 b = gA S 33 b → gA T 32 (8 * b) = gA S 32 (8 * b) → G_part T (gA S 32 (8 * b)) 0 = opM S (gA S 32 (8 * b)) → G_opened T b = if opM S (gA S 32 (8 * b)) = 31 then sA (fgo T b) 31 b (gA S 32 (8 * b)) else G_opened_L40 b ((gA S 33 b).toInt.toNat + 1) T := fun T a1 a2 a3 => by
      rw [G_opened, a1, if_neg c, gLt_x, a2, a3, fg_e, gC_p, gLt_x, a2]
    have eS := e S rfl rfl part0
    by_cases y : opM S (gA S 32 (8 * b)) = 31
    · rw [if_pos y] at eS
      have h2 := ob2 h.2.2 hb hk0
      have hf := R_first h.2.2 hb hk0
      obtain ⟨x3, x4⟩ := gat h.2.2 hb hk
      have wd := (R_word h.2.2 u0 ua).1
      have s1 := s_gw (v := gA S 32 (8 * b)) h hb hk (by clear h; grind) (fun _ => h0)
      have o31 : ∀ k i, k ≠ 31 → gA (sA S 31 b (gA S 32 (8 * b))) k i = gA S k i := fun k i a => by simp [gA_sA, a]
      have c1 : ¬ gA (sA S 31 b (gA S 32 (8 * b))) 33 b ≤ 0 := by rw [o31 _ _ (by decide)]; exact c
      have s2 := fg_s s1 hb (by rw [o31 _ _ (by decide), hk]; decide) c1
      rw [o31 32 _ (by decide)] at s2
      have f := fg_f s1.1 hb c1
      have f31 : gA (fgo (sA S 31 b (gA S 32 (8 * b))) b) 31 b = gA S 32 (8 * b) := (f.2.2 31 b (by decide) (by decide) (by decide) (by decide) (by decide)).trans (by simp [gA_sA])
      have k2 : gA (fgo (sA S 31 b (gA S 32 (8 * b))) b) 28 b = 8 := (f.2.2 28 b (by decide) (by decide) (by decide) (by decide) (by decide)).trans ((o31 28 b (by decide)).trans hk)
      have eX : FC_X1_rowGoesOn_L2 (ad 2 b) ((8 - 0 : Int32).toInt.toNat + 1) 0 X = FC_X8_goOn (xwI X (ad 2 b) 3 (gA S 32 (8 * b))) (ad 0 (gA S 32 (8 * b))) := by
        have e7 : (8 - 0 : Int32).toInt.toNat = 7 + 1 := by decide
        rw [FC_X1_rowGoesOn_L2, if_neg (by decide), gLt_x, x3, if_pos ho, gLt_x, h2, Option.getD_some, hf, if_neg c, gC_p, gO_1, wd, gC_p, y, tc32, if_pos rfl, gLt_x, x4, if_pos h0, gLt_x, (th0 h.2.2 u0).1, gLt_x, gLt_x, gLt_x, e7, FC_X1_rowGoesOn_L2, if_neg (by decide), gLt_x, (gat s2.2.2 hb k2).1, f31, if_neg (by clear h s1 s2 f eS e; grind)]
      rw [eX, eS, ← fg_sA (by decide) (by decide) (by decide) (by decide) (by decide) (by decide)]
      refine ⟨s2, fun t t0 t1 tn t21 => ?_, fun t k t0 t1 tn t21 => ?_⟩
      · have z := f.1.2.2.2 t t0 t1 (by simpa [nR, gA_sA] using tn) (by rw [o31 _ _ (by decide)]; exact t21)
        exact z.2.1.trans (o31 _ _ (by decide))
      · rw [e _ (gs_o (by decide) (by decide)) (gs_o (by decide) (by decide)) (by rw [part_gs (fg_t hb tn c)]; exact part0), if_pos y, fg_gs h.1 hb tn c, gs_sA (by decide) (by decide) (by decide), fg_sA (by decide) (by decide) (by decide) (by decide) (by decide) (by decide)]
    · rw [if_neg y] at eS
      have y29 : opM S (gA S 32 (8 * b)) = 29 := by rcases uo with q | q; exact q; exact absurd q y
      have r := s_in hb (C := B + 8) (by clear h eS e; grind) ((gA S 33 b).toInt.toNat + 1) ((8 - 0 : Int32).toInt.toNat + 1) 0 S X h hk ho (by decide) (by decide) (by clear h eS e; grind) (by clear h eS e; grind) (by clear h eS e; grind) (Or.inr (fun _ => y29)) (Nat.lt_succ_self _) (Nat.lt_succ_self _)
      rw [eS]
      exact ⟨r.1, r.2.1, fun t k t0 t1 tn t21 => by
        rw [e _ (gs_o (by decide) (by decide)) (gs_o (by decide) (by decide)) (by rw [part_gs (fg_t hb tn c)]; exact part0), if_neg y]
        exact r.2.2 t k t0 t1 tn t21⟩
theorem s_g29 (h : Sim ad B S X) (hB : 1 ≤ B ∧ B ≤ 1000000000) (hf : fre S t) (hb : 0 ≤ b ∧ b < 24) (hk : gA S 28 b = 8) (hq : opM S t = 29) : Sim ad (B + 8) (fin t (gA S 15 t + 1) (G_atGate S t 29 b)) (FC_X1_perform X (ad 2 b) (ad 0 t) 30) := by
  obtain ⟨x3, x4⟩ := gat h.2.2 hb hk
  have l8 := pre_lv hb h.1
  have w := own_n h.1 hb
  have zo := h.2.1.1 b hb.1 hb.2
  rw [hk] at zo
  have eX : FC_X1_perform X (ad 2 b) (ad 0 t) 30 = if gA S 31 b = -1 then (if gA S 33 b = 0 then FC_X8_goOn (xwI X (ad 2 b) 4 (gA S 29 b + 1)) (ad 0 t) else FC_X9_holdUp X (ad 2 b) (ad 0 t)) else FC_X9_holdUp X (ad 2 b) (ad 0 t) := by
    rw [FC_X1_perform, gLt_x, gLt_x, ord_e, show swM.getD (Int32.toNatClampNeg (nI 30)) 0 = 20 by decide, if_neg (by decide), if_pos (by decide), gLt_x, x3, gLt_x, gLt_x, ob2 h.2.2 hb (by rw [hk]; decide), Option.getD_some, rsz h.2.2 hb (by rw [hk]; decide), x4]
    repeat rw [gLt_x]
  have hp : Sim ad (B + 8) (fin t (gA S 15 t + 1) (G_passes S t b)) (FC_X9_holdUp X (ad 2 b) (ad 0 t)) := s_mono (s_pass h hf hb (by rw [hk]; decide) (fun z => absurd (hk.symm.trans z) (by decide)) (fun z => absurd (hk.symm.trans z) (by decide)) ⟨fun z => absurd (hk.symm.trans z) (by decide), fun _ => Or.inl hq, fun z => absurd (hk.symm.trans z) (by decide)⟩) (b8 hB)
  rw [eX, G_atGate, if_pos rfl, G_atGate_J24, pas_eta]
  by_cases c : 0 ≤ gA S 31 b
  · rw [if_pos c, if_neg (by clear h eX hp; grind)]; exact hp
  · rw [if_neg c, if_pos (show gA S 31 b = -1 by clear h eX hp; grind)]
    by_cases d : gA S 33 b ≤ 0
    · rw [if_pos d, if_pos (show gA S 33 b = 0 by clear h eX hp; grind), gLt_x, G_atGate_J163]
      have f1 : fre (sA S 29 b (gA S 29 b + 1)) t := fre_k hf (by decide) (by decide) (by decide) (by decide)
      have z := s_go (s_gf (v := gA S 29 b + 1) h (b8 hB) hb hk (by unfold jOb at zo; clear h eX hp; grind) (fun z => absurd z c)) f1
      rw [show gA (sA S 29 b (gA S 29 b + 1)) 15 t = gA S 15 t by simp [gA_sA]] at z
      rw [fin_1 f1.2.1]; exact z
    · rw [if_neg d, if_neg (by clear h eX hp; grind)]; exact hp
theorem s_g31 (h : Sim ad B S X) (hB : 1 ≤ B ∧ B ≤ 1000000000) (hf : fre S t) (hb : 0 ≤ b ∧ b < 24) (hk : gA S 28 b = 8) (hq : opM S t = 31) : Sim ad (B + 8) (fin t (gA S 15 t + 1) (G_atGate S t 31 b)) (FC_X1_perform X (ad 2 b) (ad 0 t) 32) := by
  obtain ⟨x3, x4⟩ := gat h.2.2 hb hk
  have w := own_n h.1 hb
  have zo := h.2.1.1 b hb.1 hb.2
  rw [hk] at zo
  have eX : FC_X1_perform X (ad 2 b) (ad 0 t) 32 = if gA S 31 b = -1 then (if gA S 29 b = 0 then FC_X8_goOn (xwI X (ad 2 b) 3 t) (ad 0 t) else FC_X9_holdUp X (ad 2 b) (ad 0 t)) else FC_X9_holdUp X (ad 2 b) (ad 0 t) := by
    rw [FC_X1_perform, gLt_x, gLt_x, ord_e, show swM.getD (Int32.toNatClampNeg (nI 32)) 0 = 22 by decide, if_neg (by decide), if_neg (by decide), if_neg (by decide), gLt_x, x3, gLt_x, x4, gLt_x, (th0 h.2.2 hf.1).1]
    repeat rw [gLt_x]
  have hp : Sim ad (B + 8) (fin t (gA S 15 t + 1) (G_passes S t b)) (FC_X9_holdUp X (ad 2 b) (ad 0 t)) := s_mono (s_pass h hf hb (by rw [hk]; decide) (fun z => absurd (hk.symm.trans z) (by decide)) (fun z => absurd (hk.symm.trans z) (by decide)) ⟨fun z => absurd (hk.symm.trans z) (by decide), fun _ => Or.inr hq, fun z => absurd (hk.symm.trans z) (by decide)⟩) (b8 hB)
  rw [eX, G_atGate, if_neg (by decide), if_neg (by decide), if_pos rfl, G_atGate_J117, pas_eta]
  by_cases c : 0 ≤ gA S 31 b
  · rw [if_pos c, if_neg (by clear h eX hp; grind)]; exact hp
  · rw [if_neg c, if_pos (show gA S 31 b = -1 by clear h eX hp; grind)]
    by_cases d : gA S 29 b ≤ 0
    · have d0 : gA S 29 b = 0 := by unfold jOb at zo; clear h eX hp; grind
      rw [if_pos d, if_pos d0, gLt_x, G_atGate_J163]
      have f1 : fre (sA S 31 b t) t := fre_k hf (by decide) (by decide) (by decide) (by decide)
      have z := s_go (s_gw (v := t) h hb hk (by have := hf.1; clear h eX hp; grind) (fun _ => d0)) f1
      rw [show gA (sA S 31 b t) 15 t = gA S 15 t by simp [gA_sA]] at z
      rw [fin_1 f1.2.1]; exact s_mono z (b8 hB)
    · rw [if_neg d, if_neg (by clear h eX hp; grind)]; exact hp
theorem s_g30 (h : Sim ad B S X) (hB : 1 ≤ B ∧ B ≤ 1000000000) (hf : fre S t) (hb : 0 ≤ b ∧ b < 24) (hk : gA S 28 b = 8) : Sim ad (B + 8) (fin t (gA S 15 t + 1) (G_atGate S t 30 b)) (FC_X1_perform X (ad 2 b) (ad 0 t) 31) := by
  obtain ⟨x3, x4⟩ := gat h.2.2 hb hk
  have w := own_n h.1 hb
  have zo := h.2.1.1 b hb.1 hb.2
  rw [hk] at zo
  have eX : FC_X1_perform X (ad 2 b) (ad 0 t) 31 = FC_X1_leave X (ad 2 b) (ad 0 t) := by
    rw [FC_X1_perform, gLt_x, gLt_x, ord_e, show swM.getD (Int32.toNatClampNeg (nI 31)) 0 = 21 by decide, if_neg (by decide), if_neg (by decide), if_pos (by decide), gLt_x]
  rw [eX, FC_X1_leave, gLt_x, x4, G_atGate, if_neg (by decide), if_pos rfl]
  by_cases c : gA S 29 b = 0
  · rw [if_pos c, if_pos c, gLt_x, fails_e, gC_p, fin_0]; exact s_mono (s_fail h hf) (b8 hB)
  · rw [if_neg c, if_neg c]
    have ho : gA S 31 b = -1 := by unfold jOb at zo; clear h eX; grind
    have e29 : gA (sA S 29 b (gA S 29 b - 1)) 29 b = gA S 29 b - 1 := by simp [gA_sA]
    have s1 := s_gf (v := gA S 29 b - 1) h (b8 hB) hb hk (by unfold jOb at zo; clear h eX; grind) (fun z => by rw [ho] at z; exact absurd z (by decide))
    have f1 : fre (sA S 29 b (gA S 29 b - 1)) t := fre_k hf (by decide) (by decide) (by decide) (by decide)
    have z := s_go s1 f1
    have k1 : gA (sA S 29 b (gA S 29 b - 1)) 28 b = 8 := by simpa [gA_sA] using hk
    have o1 : gA (sA S 29 b (gA S 29 b - 1)) 31 b = -1 := by simpa [gA_sA] using ho
    rw [show gA (sA S 29 b (gA S 29 b - 1)) 15 t = gA S 15 t by simp [gA_sA]] at z
    have kz : gA (gs (sA S 29 b (gA S 29 b - 1)) t (gA S 15 t + 1)) 28 b = 8 := by rw [gs_o (by decide) (by decide)]; exact k1
    have xz := (gat z.2.2 hb kz).2
    rw [gs_o (by decide) (by decide), e29] at xz
    repeat rw [gLt_x]
    rw [xz, e29]
    by_cases d : gA S 29 b - 1 = 0
    · rw [if_pos d, if_pos d, G_atGate_J163]
      have r0 := s_opn s1 hB hb k1 o1 (e29.trans d)
      have r := s_opn z hB hb kz (by rw [gs_o (by decide) (by decide)]; exact o1) (by rw [gs_o (by decide) (by decide), e29]; exact d)
      rw [r0.2.2 t _ hf.1.1 hf.1.2 f1.2.2.2 f1.2.2.1] at r
      rw [fin_1 ((r0.2.1 t hf.1.1 hf.1.2 f1.2.2.2 f1.2.2.1).trans f1.2.1)]
      exact r.1
    · rw [if_neg d, if_neg d, G_atGate_J163, fin_1 f1.2.1]; exact z
theorem s_g32 (h : Sim ad B S X) (hB : 1 ≤ B ∧ B ≤ 1000000000) (hf : fre S t) (hb : 0 ≤ b ∧ b < 24) (hk : gA S 28 b = 8) : Sim ad (B + 8) (fin t (gA S 15 t + 1) (G_atGate S t 32 b)) (FC_X1_perform X (ad 2 b) (ad 0 t) 33) := by
  obtain ⟨x3, x4⟩ := gat h.2.2 hb hk
  have zo := h.2.1.1 b hb.1 hb.2
  rw [hk] at zo
  have eX : FC_X1_perform X (ad 2 b) (ad 0 t) 33 = FC_X1_giveBack X (ad 2 b) (ad 0 t) := by
    rw [FC_X1_perform, gLt_x, gLt_x, ord_e, show swM.getD (Int32.toNatClampNeg (nI 33)) 0 = 0 by decide, if_pos (by decide), gLt_x]
  rw [eX, FC_X1_giveBack, gLt_x, gLt_x, x3, (th0 h.2.2 hf.1).1, G_atGate, if_neg (by decide), if_neg (by decide), if_neg (by decide)]
  by_cases c : gA S 31 b = t
  · rw [if_pos c, if_pos c, gLt_x, gLt_x, gLt_x, gLt_x, gLt_x, gLt_x, G_atGate_J163]
    have h0 : gA S 29 b = 0 := by have := hf.1; unfold jOb at zo; clear h eX; grind
    have s1 := s_mono (s_gw (v := -1) h hb hk (by decide) (fun z => absurd z (by decide))) (b8 hB)
    have f1 : fre (sA S 31 b (-1)) t := fre_k hf (by decide) (by decide) (by decide) (by decide)
    have z := s_go s1 f1
    have k1 : gA (sA S 31 b (-1)) 28 b = 8 := by simpa [gA_sA] using hk
    have o1 : gA (sA S 31 b (-1)) 31 b = -1 := by simp [gA_sA]
    have e29 : gA (sA S 31 b (-1)) 29 b = 0 := by simpa [gA_sA] using h0
    rw [show gA (sA S 31 b (-1)) 15 t = gA S 15 t by simp [gA_sA]] at z
    have r0 := s_opn s1 hB hb k1 o1 e29
    have r := s_opn z hB hb (by rw [gs_o (by decide) (by decide)]; exact k1) (by rw [gs_o (by decide) (by decide)]; exact o1) (by rw [gs_o (by decide) (by decide)]; exact e29)
    rw [r0.2.2 t _ hf.1.1 hf.1.2 f1.2.2.2 f1.2.2.1] at r
    rw [fin_1 ((r0.2.1 t hf.1.1 hf.1.2 f1.2.2.2 f1.2.2.1).trans f1.2.1)]
    exact r.1
  · rw [if_neg c, if_neg c, gLt_x, fails_e, gC_p, fin_0]; exact s_mono (s_fail h hf) (b8 hB)
end GT2

/-! both side by side: await, meet, give, join; at a SEMAPHORE -/
section ATM
variable {ad : adT} {B : Int32} {S : mS} {X : xS} {b t : Int32}
theorem pas_id : gC (G_passes S t b) (fun r53 S53 => if r53 = 0 then ((0 : Int32), S53) else ((1 : Int32), S53)) = G_passes S t b := by
  rw [passes_e]
  by_cases c : gA S 20 t = 0
  · rw [if_pos c, gC_p, if_pos rfl]
  · rw [if_neg c, gC_p, if_neg (by decide)]
theorem pas_eta {p : Int32 × mS} : gC p (fun r S => (r, S)) = p := rfl
theorem jMbn {k q f p : Int32} (h2 : k ≠ 2) (h8 : k ≠ 8) (h5 : k ≠ 5) : jMb k q f p := ⟨fun z => absurd z h2, fun z => absurd z h8, fun z => absurd z h5⟩
theorem s_w21 (h : Sim ad B S X) (hf : fre S t) (hb : 0 ≤ b ∧ b < 24) (hk : gA S 28 b = 3) : Sim ad B (fin t (gA S 15 t + 1) (G_with_J104 S t 21 b)) (FC_X3_perform X (ad 2 b) (ad 0 t) 22) := by
  have eX : FC_X3_perform X (ad 2 b) (ad 0 t) 22 = if gA S 29 b = 0 then FC_X8_goOn X (ad 0 t) else FC_X9_holdUp X (ad 2 b) (ad 0 t) := by
    rw [FC_X3_perform, gLt_x, gLt_x, ord_e, show swM.getD (Int32.toNatClampNeg (nI 22)) 0 = 11 by decide, if_neg (by decide), if_neg (by decide), gLt_x, gLt_x, gLt_x, hgt h.2.2 hb (Or.inr (Or.inl hk))]
  rw [eX, G_with_J104, if_neg (by decide), if_pos rfl, pas_id]
  by_cases c : gA S 29 b = 0
  · rw [if_pos c, if_pos c, fin_1 hf.2.1]; exact s_go h hf
  · rw [if_neg c, if_neg c]
    exact s_pass h hf hb (by rw [hk]; decide) (fun _ => c) (fun z => absurd (hk.symm.trans z) (by decide)) (by rw [hk]; exact jMbn (by decide) (by decide) (by decide))
theorem wF_14 {m : Int32} : G_waitFor (sA S 14 t m) t b = sA (G_waitFor S t b) 14 t m := by
  rw [waitFor_e, waitFor_e, show gA (sA S 14 t m) 33 b = gA S 33 b by simp [gA_sA], sA_comm (k := 14) (Or.inl (by decide)), sA_comm (k := 14) (Or.inl (by decide)), sA_comm (k := 14) (Or.inl (by decide)), sA_comm (k := 14) (Or.inl (by decide))]
theorem s_w22 (h : Sim ad B S X) (hf : fre S t) (hb : 0 ≤ b ∧ b < 24) (hk : gA S 28 b = 4) : Sim ad B (fin t (gA S 15 t + 1) (G_with_J104 S t 22 b)) (FC_X3_perform X (ad 2 b) (ad 0 t) 23) := by
  have eX : FC_X3_perform X (ad 2 b) (ad 0 t) 23 = if gA S 29 b - gA S 33 b - 1 = 0 then FC_X8_goOn (FC_X9_allGoOn (xwI X (ad 0 t) 2 (gA S 29 b - gA S 33 b - 1)) (ad 2 b)) (ad 0 t) else FC_X9_holdUp (xwI X (ad 0 t) 2 (gA S 29 b - gA S 33 b - 1)) (ad 2 b) (ad 0 t) := by
    rw [FC_X3_perform, gLt_x, gLt_x, ord_e, show swM.getD (Int32.toNatClampNeg (nI 23)) 0 = 0 by decide, if_pos (by decide), gLt_x, gLt_x, gLt_x, gLt_x, gLt_x, gLt_x, gLt_x, gLt_x, hgt h.2.2 hb (Or.inr (Or.inr hk)), ob2 h.2.2 hb (by rw [hk]; decide), Option.getD_some, rsz h.2.2 hb (by rw [hk]; decide)]
  have zo := h.2.1.1 b hb.1 hb.2
  rw [hk] at zo
  have l8 := pre_lv hb h.1
  rw [eX, G_with_J104, if_neg (by decide), if_neg (by decide), if_pos rfl, gLt_x]
  by_cases c : gA S 29 b - gA S 33 b - 1 = 0
  · rw [if_pos c, c, if_pos (by decide), gLt_x]
    have z1 := s_14 (t := t) (v := 0) h
    have f1 : fre (sA S 14 t 0) t := fre_14 hf
    have k1 : gA (sA S 14 t 0) 28 b = 4 := by simpa [gA_sA] using hk
    have e33 : gA (sA S 14 t 0) 33 b = gA S 33 b := by simp [gA_sA]
    have r := s_all hb ((gA (sA S 14 t 0) 33 b).toInt.toNat + 1) ((8 - 0 : Int32).toInt.toNat + 1) 0 _ _ (SimV_o (b := b) z1) (by rw [k1]; decide) (by rw [k1]; decide) (by rw [k1]; decide) (by decide) (by decide) (by rw [e33]; clear h z1; grind) (Nat.lt_succ_self _) (Nat.lt_succ_self _)
    rw [allGoOn_e, eta2 r.1]
    obtain ⟨-, r2, r3, -, r5, -, -⟩ := r
    have y := r3 t hf.1.1 hf.1.2 f1.2.2.2 f1.2.2.1
    have r6 := SimV_b r2 (r5 29 b (by decide) (by decide) (by decide) (by decide) (by decide))
    generalize (G_with_L247 b ((gA (sA S 14 t 0) 33 b).toInt.toNat + 1) (sA S 14 t 0)).2 = S5 at *
    have f5 : fre S5 t := ⟨hf.1, y.2.2.1.trans f1.2.1, y.2.1, y.1⟩
    have e5 : gA S5 15 t = gA S 15 t := y.2.2.2.trans (by simp [gA_sA])
    rw [fin_1 f5.2.1, ← e5]
    exact s_go r6 f5
  · rw [if_neg c, if_neg (by unfold jOb at zo; clear h; grind)]
    have z1 := s_14 (t := t) (v := gA S 29 b - gA S 33 b - 1) h
    have k1 : gA (sA S 14 t (gA S 29 b - gA S 33 b - 1)) 28 b = 4 := by simpa [gA_sA] using hk
    have e33 : gA (sA S 14 t (gA S 29 b - gA S 33 b - 1)) 33 b = gA S 33 b := by simp [gA_sA]
    have e29 : gA (sA S 14 t (gA S 29 b - gA S 33 b - 1)) 29 b = gA S 29 b := by simp [gA_sA]
    have e15 : gA (sA S 14 t (gA S 29 b - gA S 33 b - 1)) 15 t = gA S 15 t := by simp [gA_sA]
    have e20 : gA (sA S 14 t (gA S 29 b - gA S 33 b - 1)) 20 t = gA S 20 t := by simp [gA_sA]
    have r := s_pass z1 (fre_14 hf) hb (by rw [k1]; decide) (fun z => absurd (k1.symm.trans z) (by decide)) (fun _ => by rw [e33, e29]; unfold jOb at zo; clear h z1; grind) (by rw [k1]; exact jMbn (by decide) (by decide) (by decide))
    rw [e15, passes_e, e20, wF_14] at r
    rw [passes_e]
    by_cases d : gA S 20 t = 0
    · rw [if_pos d] at r ⊢
      rw [gC_p, if_pos rfl, gLt_x]; exact r
    · rw [if_neg d] at r ⊢
      rw [gC_p, if_neg (by decide)]
      have e : sA (sA (sA S 14 t (gA S 29 b - gA S 33 b - 1)) 20 t 0) 14 t (-2) = sA (sA S 20 t 0) 14 t (-2) := by rw [sA_comm (k := 14) (l := 20) (Or.inl (by decide)), sA_sA]
      rw [e] at r; exact r
theorem s_w28 (h : Sim ad B S X) (hf : fre S t) (hb : 0 ≤ b ∧ b < 24) (hk : gA S 28 b = 7) : Sim ad B (fin t (gA S 15 t + 1) (G_with_J104 S t 28 b)) (FC_X2_perform X (ad 2 b) (ad 0 t) 29) := by
  obtain ⟨x4, -, x3⟩ := hld h.2.2 hb (Or.inr hk)
  have eX : FC_X2_perform X (ad 2 b) (ad 0 t) 29 = if gA S 30 b = 0 then FC_X9_holdUp X (ad 2 b) (ad 0 t) else FC_X8_goOnWith X (ad 0 t) (gA S 29 b) := by
    rw [FC_X2_perform, gLt_x, gLt_x, ord_e, show swM.getD (Int32.toNatClampNeg (nI 29)) 0 = 0 by decide, if_pos (by decide), gLt_x, gLt_x, gLt_x, gLt_x, x3 hk, x4]
  rw [eX, G_with_J104, if_neg (by decide), if_neg (by decide), if_neg (by decide), if_neg (by decide)]
  by_cases c : gA S 30 b = 0
  · rw [if_pos c, if_pos c, pas_eta]
    exact s_pass h hf hb (by rw [hk]; decide) (fun z => absurd (hk.symm.trans z) (by decide)) (fun z => absurd (hk.symm.trans z) (by decide)) (by rw [hk]; exact jMbn (by decide) (by decide) (by decide))
  · rw [if_neg c, if_neg c, gLt_x, fin_1 (fre_14 hf).2.1]
    exact s_gow h hf
end ATM
theorem L21_nil {X : xS} {o r : Nat} {v : Int32} (ho : xR X o 2 = some r) (hf : FC_X6_first X r = (none, X)) : ∀ (M : Nat) (i : Int32), 0 ≤ i → i ≤ 8 → (8 - i).toInt.toNat < M → FC_X2_isGiven_L21 o v M i X = (1, X) := by
  intro M
  induction M with
  | zero => intro i _ _ h; exact absurd h (Nat.not_lt_zero _)
  | succ M ih =>
    intro i i0 i8 hM
    rw [FC_X2_isGiven_L21]
    by_cases d : (8 : Int32) ≤ i
    · rw [if_pos d]
    · rw [if_neg d, gLt_x, ho, Option.getD_some, hf, gC_p, gO_0, gLt_x]
      exact ih (i + 1) (by clear ih; grind) (by clear ih; grind) (msd hM (by clear ih; grind) (by clear ih; grind))
/-- all that wait for a FUTURE go on with its VALUE -/
theorem s_give {ad : adT} {B b v : Int32} (hb : 0 ≤ b ∧ b < 24) (t : Int32) (ht : 0 ≤ t ∧ t < 8) : ∀ (N M : Nat) (i : Int32) (S : mS) (X : xS), Sim ad B S X → gA S 28 b = 7 → gA S 29 b = v → nR S t → gA S 21 t = 0 → 0 ≤ i → i ≤ 8 → gA S 33 b ≤ 8 - i → (gA S 33 b).toInt.toNat < N → (8 - i).toInt.toNat < M →
    ∃ S5, G_with_L313 t b 1 N S = (1, sA S5 14 t 1) ∧ FC_X2_isGiven_L21 (ad 2 b) v M i X = (1, (FC_X2_isGiven_L21 (ad 2 b) v M i X).2) ∧ Sim ad B S5 (FC_X2_isGiven_L21 (ad 2 b) v M i X).2 ∧ nR S5 t ∧ gA S5 21 t = 0 ∧ gA S5 13 t = gA S 13 t ∧ gA S5 15 t = gA S 15 t := by
  intro N
  induction N with
  | zero => intro M i S X _ _ _ _ _ _ _ _ h; exact absurd h (Nat.not_lt_zero _)
  | succ N ih =>
    intro M i S X h hk hv hn h21 i0 i8 hr hN hM
    have hk0 : gA S 28 b ≠ 0 := by rw [hk]; decide
    have ho := ob2 h.2.2 hb hk0
    have hf := R_first h.2.2 hb hk0
    rw [G_with_L313]
    by_cases c : gA S 33 b ≤ 0
    · rw [if_pos c] at hf
      rw [if_pos c, if_neg (by decide), gLt_x, L21_nil ho hf M i i0 i8 hM]
      exact ⟨S, rfl, rfl, h, hn, h21, rfl, rfl⟩
    · rw [if_neg c] at hf
      rw [if_neg c, fg_e, gC_p, gLt_x]
      cases M with
      | zero => exact absurd hM (Nat.not_lt_zero _)
      | succ M =>
        have f := fg_f h.1 hb c
        have l8 := pre_lv hb h.1
        have d := m8 hr (by clear ih h f; grind) i0
        have e29 := f.2.2 29 b (by decide) (by decide) (by decide) (by decide) (by decide)
        rw [FC_X2_isGiven_L21, if_neg d, gLt_x, ho, Option.getD_some, hf, gC_p, gO_1, gLt_x, gLt_x, e29, hv]
        have s1 := s_14 (t := gA S 32 (8 * b)) (v := v) h
        have e1 : gA (sA S 14 (gA S 32 (8 * b)) v) 32 (8 * b) = gA S 32 (8 * b) := by simp [gA_sA]
        have e2 : gA (sA S 14 (gA S 32 (8 * b)) v) 33 b = gA S 33 b := by simp [gA_sA]
        have e3 : gA (sA S 14 (gA S 32 (8 * b)) v) 28 b = gA S 28 b := by simp [gA_sA]
        have s2 := fg_s s1 hb (by rw [e3, hk]; decide) (by rw [e2]; exact c)
        rw [e1, fg_sA (by decide) (by decide) (by decide) (by decide) (by decide) (by decide)] at s2
        have eg : FC_X8_goOnWith X (ad 0 (gA S 32 (8 * b))) v = FC_X8_goOn (xwI X (ad 0 (gA S 32 (8 * b))) 2 v) (ad 0 (gA S 32 (8 * b))) := by rw [FC_X8_goOnWith, gLt, gLt]
        rw [eg]
        have z := f.1.2.2.2 t ht.1 ht.2 hn h21
        have o14 : ∀ k i, k ≠ 14 → gA (sA (fgo S b) 14 (gA S 32 (8 * b)) v) k i = gA (fgo S b) k i := fun k i a => by simp [gA_sA, a]
        obtain ⟨S5, r1, r2, r3, r4, r5, r6, r7⟩ := ih M (i + 1) _ _ s2 (by rw [o14 _ _ (by decide), f.2.2 28 b (by decide) (by decide) (by decide) (by decide) (by decide)]; exact hk) (by rw [o14 _ _ (by decide), e29]; exact hv) (by simpa [nR, gA_sA] using z.1) (by rw [o14 _ _ (by decide)]; exact z.2.2.2) (by clear ih h f; grind) (by clear ih h f; grind) (by rw [o14 _ _ (by decide)]; have := f.2.1; clear ih h f; grind) (by rw [o14 _ _ (by decide)]; exact msd hN f.2.1.1 f.2.1.2) (msd hM (by clear ih h f; grind) (by clear ih h f; grind))
        exact ⟨S5, r1, r2, r3, r4, r5, by rw [r6, o14 _ _ (by decide), z.2.1], by rw [r7, o14 _ _ (by decide), z.2.2.1]⟩
section ATF
variable {ad : adT} {B : Int32} {S : mS} {X : xS} {b t : Int32}
theorem s_w27 (h : Sim ad B S X) (hf : fre S t) (hb : 0 ≤ b ∧ b < 24) (hk : gA S 28 b = 7) : Sim ad B (fin t (gA S 15 t + 1) (G_with_J104 S t 27 b)) (FC_X2_perform X (ad 2 b) (ad 0 t) 28) := by
  obtain ⟨x4, -, x3⟩ := hld h.2.2 hb (Or.inr hk)
  have eX : FC_X2_perform X (ad 2 b) (ad 0 t) 28 = gC (FC_X2_isGiven X (ad 2 b) (gA S 14 t)) (fun r Y => if r = 0 then FC_X8_goOnWith Y (ad 0 t) 0 else FC_X8_goOnWith Y (ad 0 t) 1) := by
    rw [FC_X2_perform, gLt_x, gLt_x, ord_e, show swM.getD (Int32.toNatClampNeg (nI 28)) 0 = 19 by decide, if_neg (by decide), if_neg (by decide), if_neg (by decide), if_neg (by decide), if_neg (by decide), gLt_x, (th0 h.2.2 hf.1).2.2.1]
    rfl
  rw [eX, FC_X2_isGiven, gLt_x, x3 hk, G_with_J104, if_neg (by decide), if_neg (by decide), if_neg (by decide), if_pos rfl]
  by_cases c : gA S 30 b = 0
  · rw [if_pos c, if_pos c, gLt_x, gLt_x, gLt_x, G_with_J287, if_neg (by decide), gLt_x, gLt_x]
    have e14 : gA (sA S 30 b 1) 14 t = gA S 14 t := by simp [gA_sA]
    rw [e14]
    have k1 : gA (sA S 30 b 1) 28 b = 7 := by simpa [gA_sA] using hk
    have e33 : gA (sA (sA S 30 b 1) 29 b (gA S 14 t)) 33 b = gA S 33 b := by simp [gA_sA]
    have z1 : Sim ad B (sA (sA S 30 b 1) 29 b (gA S 14 t)) (xwI (xwI X (ad 2 b) 3 1) (ad 2 b) 4 (gA S 14 t)) := by
      refine ⟨m_29 (mInv_irr h.1 (by simp [smK])) (by rw [k1]; decide) hb, ?_, Rel_fu (Rel_fs h.2.2 hk) k1⟩
      refine j_obj (b := b) h.2.1 (fun k i hk => ?_) (fun k d hk hd => ?_) ?_ (fun z => absurd (hk.symm.trans z) (by decide))
      · have a1 : k ≠ 30 := by omega
        have a2 : k ≠ 29 := by omega
        simp [gA_sA, a1, a2]
      · simp [gA_sA, hd]
      · have z := h.2.1.1 b hb.1 hb.2
        rw [hk] at z ⊢
        unfold jOb at z ⊢
        clear h; grind
    have l8 := pre_lv hb h.1
    have f1 : fre (sA (sA S 30 b 1) 29 b (gA S 14 t)) t := fre_k (fre_k hf (by decide) (by decide) (by decide) (by decide)) (by decide) (by decide) (by decide) (by decide)
    obtain ⟨S5, r1, r2, r3, r4, r5, r6, r7⟩ := s_give (v := gA S 14 t) hb t hf.1 ((gA (sA (sA S 30 b 1) 29 b (gA S 14 t)) 33 b).toInt.toNat + 1) ((8 - 0 : Int32).toInt.toNat + 1) 0 _ _ z1 (by simpa [gA_sA] using hk) (by simp [gA_sA]) f1.2.2.2 f1.2.2.1 (by decide) (by decide) (by rw [e33]; clear h z1; grind) (Nat.lt_succ_self _) (Nat.lt_succ_self _)
    rw [r1, r2, gC_p, if_neg (by decide)]
    have f5 : fre S5 t := ⟨hf.1, r6.trans f1.2.1, r5, r4⟩
    have e5 : gA S5 15 t = gA S 15 t := r7.trans (by simp [gA_sA])
    rw [fin_1 (fre_14 f5).2.1, ← e5]
    exact s_gow r3 f5
  · rw [if_neg c, if_neg c, gC_p, if_pos rfl, G_with_J287, if_pos rfl, if_pos rfl, gLt_x, fin_1 (fre_14 hf).2.1]
    exact s_gow h hf
end ATF

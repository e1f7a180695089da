/-! both side by side: the code of a THREAD, and at a CELL -/
theorem codeAt_e {X : xS} {a c : Nat} {i v : Int32} (h1 : xI X a 3 = v) (h2 : xR X a 11 = some c) (h3 : 0 ≤ v ∧ v < 60) (h4 : 0 ≤ i ∧ i < 4) : FC_X8_codeAt X a i = (xA X c (4 * v + i), X) := by
  rw [FC_X8_codeAt, gLt_x, gLt_x, h1, if_neg (by grind), gLt_x, h2, Option.getD_some, if_neg (by grind), gLt_x, show v * 4 + i = 4 * v + i by grind]
theorem rc_at {ad : adT} {e : Int32} {S : mS} {X : xS} {u : Int32} (h : Rel ad e S X) (hu : 0 ≤ u ∧ u < 8) (ha : 0 ≤ gA S 15 u ∧ gA S 15 u < gA S 12 u ∧ gA S 12 u ≤ 60) :
    cM (xA X (ad 1 u)) (gA S 15 u) (opM S u) (gA S 11 (240 * u + 4 * gA S 15 u + 1)) (gA S 11 (240 * u + 4 * gA S 15 u + 2)) (gA S 11 (240 * u + 4 * gA S 15 u + 3)) ∧ xI X (ad 0 u) 3 = gA S 15 u ∧ xR X (ad 0 u) 11 = some (ad 1 u) ∧ (0 ≤ gA S 15 u ∧ gA S 15 u < 60) :=
  have z := h.2.2.2.1 u hu.1 hu.2
  ⟨h.2.2.2.2.1 u (gA S 15 u) hu.1 hu.2 ha.1 (by clear h z; grind) ha.2.1, z.2.2.2.1, z.2.2.2.2.2.2.2.2.2.2.1, ha.1, by clear h z; grind⟩
section RD
variable {ad : adT} {e : Int32} {S : mS} {X : xS} {u : Int32}
theorem R_word (h : Rel ad e S X) (hu : 0 ≤ u ∧ u < 8) (ha : 0 ≤ gA S 15 u ∧ gA S 15 u < gA S 12 u ∧ gA S 12 u ≤ 60) : FC_X8_word X (ad 0 u) = ((toC (opM S u)).toNatClampNeg, X) ∧ 0 ≤ opM S u ∧ opM S u ≤ 33 := by
  obtain ⟨c, h1, h2, h3⟩ := rc_at h hu ha
  have r : 0 ≤ toC (opM S u) ∧ toC (opM S u) < 34 := by
    have c1 := c.1
    have c2 := c.2.1
    unfold toC; clear c h1 h2 h3 h; grind
  refine ⟨?_, c.1, c.2.1⟩
  have cx := c.2.2.1
  rw [FC_X8_word, codeAt_e h1 h2 h3 ⟨by decide, by decide⟩, gC_p, show 4 * gA S 15 u + 0 = 4 * gA S 15 u by grind, cx, if_neg (by clear c h1 h2 h3 h cx; grind), if_neg (by clear c h1 h2 h3 h cx; grind), gLt_x]
theorem R_op1 (h : Rel ad e S X) (hu : 0 ≤ u ∧ u < 8) (ha : 0 ≤ gA S 15 u ∧ gA S 15 u < gA S 12 u ∧ gA S 12 u ≤ 60) (q6 : opM S u ≠ 6) (q7 : opM S u ≠ 33) : FC_X8_operand X (ad 0 u) 0 = (G_part S u 1, X) := by
  obtain ⟨c, h1, h2, h3⟩ := rc_at h hu ha
  rw [FC_X8_operand, codeAt_e h1 h2 h3 (by decide), gC_p, show (4 * gA S 15 u + (1 + 0) : Int32) = 4 * gA S 15 u + 1 by grind, c.2.2.2.1 q6 q7, G_part]
theorem R_op2 (h : Rel ad e S X) (hu : 0 ≤ u ∧ u < 8) (ha : 0 ≤ gA S 15 u ∧ gA S 15 u < gA S 12 u ∧ gA S 12 u ≤ 60) (q : opM S u = 15 ∨ opM S u = 16 ∨ opM S u = 17 ∨ opM S u = 18) : FC_X8_operand X (ad 0 u) 1 = (G_part S u 2, X) := by
  obtain ⟨c, h1, h2, h3⟩ := rc_at h hu ha
  rw [FC_X8_operand, codeAt_e h1 h2 h3 (by decide), gC_p, show (4 * gA S 15 u + (1 + 1) : Int32) = 4 * gA S 15 u + 2 by grind, c.2.2.2.2.1 q, G_part]
theorem R_op3 (h : Rel ad e S X) (hu : 0 ≤ u ∧ u < 8) (ha : 0 ≤ gA S 15 u ∧ gA S 15 u < gA S 12 u ∧ gA S 12 u ≤ 60) (q : opM S u = 16) : FC_X8_operand X (ad 0 u) 2 = (G_part S u 3, X) := by
  obtain ⟨c, h1, h2, h3⟩ := rc_at h hu ha
  rw [FC_X8_operand, codeAt_e h1 h2 h3 (by decide), gC_p, show (4 * gA S 15 u + (1 + 2) : Int32) = 4 * gA S 15 u + 3 by grind, c.2.2.2.2.2 q, G_part]
end RD
theorem ord_e {X : xS} {w : Nat} : FC_Jx29ce0_ordinal_8abf5 X w = nI w := by rw [FC_Jx29ce0_ordinal_8abf5, gLt_x]
section ATC
variable {ad : adT} {B : Int32} {S : mS} {X : xS} {b t : Int32}
theorem hld {e : Int32} (h : Rel ad e S X) (hb : 0 ≤ b ∧ b < 24) (hk : gA S 28 b = 6 ∨ gA S 28 b = 7) : xI X (ad 2 b) 4 = gA S 29 b ∧ (gA S 28 b = 6 → xI X (ad 2 b) 3 = 1) ∧ (gA S 28 b = 7 → xI X (ad 2 b) 3 = gA S 30 b) :=
  have z := ((h.2.2.2.2.2.2.2.2.1 b hb.1 hb.2).2 (by rcases hk with q | q <;> rw [q] <;> decide)).2
  ⟨z.2.2.2.2.2.2.2.2.2.2.1 hk, z.2.2.2.2.2.2.2.2.1, z.2.2.2.2.2.2.2.2.2.1⟩
/-- a CELL's, a FUTURE's VALUE changes -/
theorem s_ce {v : Int32} (h : Sim ad B S X) (hb : 0 ≤ b ∧ b < 24) (hk : gA S 28 b = 6) : Sim ad B (sA S 29 b v) (xwI X (ad 2 b) 4 v) := by
  refine ⟨m_29 h.1 (by rw [hk]; decide) hb, j_29 h.2.1 (Int32.le_refl _) (by rw [hk]; decide) ?_, Rel_ce h.2.2 hk⟩
  have z := h.2.1.1 b hb.1 hb.2
  rw [hk] at z ⊢
  unfold jOb at z ⊢
  clear h; grind
theorem s_c13 (h : Sim ad B S X) (hf : fre S t) (hb : 0 ≤ b ∧ b < 24) (hk : gA S 28 b = 6) : Sim ad B (fin t (gA S 15 t + 1) (G_atCell S t 13 b)) (FC_X2_perform X (ad 2 b) (ad 0 t) 14) := by
  rw [G_atCell, if_pos rfl, gLt_x, G_atCell_J18, if_neg (by decide), G_atCell_J36, if_neg (by decide), G_atCell_J69, if_neg (by decide), fin_1 (fre_14 hf).2.1]
  rw [FC_X2_perform, gLt_x, gLt_x, ord_e, show swM.getD (Int32.toNatClampNeg (nI 14)) 0 = 15 by decide, if_neg (by decide), if_pos (by decide), gLt_x, gLt_x, (hld h.2.2 hb (Or.inl hk)).1]
  exact s_gow h hf
theorem s_c14 (h : Sim ad B S X) (hf : fre S t) (hb : 0 ≤ b ∧ b < 24) (hk : gA S 28 b = 6) : Sim ad B (fin t (gA S 15 t + 1) (G_atCell S t 14 b)) (FC_X2_perform X (ad 2 b) (ad 0 t) 15) := by
  have hf2 : fre (sA S 29 b (gA S 14 t)) t := fre_k hf (by decide) (by decide) (by decide) (by decide)
  rw [G_atCell, if_neg (by decide), G_atCell_J18, if_pos rfl, gLt_x, G_atCell_J36, if_neg (by decide), G_atCell_J69, if_neg (by decide), fin_1 hf2.2.1]
  rw [FC_X2_perform, gLt_x, gLt_x, ord_e, show swM.getD (Int32.toNatClampNeg (nI 15)) 0 = 16 by decide, if_neg (by decide), if_neg (by decide), if_pos (by decide), gLt_x, gLt_x, gLt_x, (th0 h.2.2 hf.1).2.2.1]
  have z := s_go (s_ce (v := gA S 14 t) h hb hk) hf2
  rw [show gA (sA S 29 b (gA S 14 t)) 15 t = gA S 15 t by simp [gA_sA]] at z
  exact z
theorem s_c15 (h : Sim ad B S X) (hf : fre S t) (hb : 0 ≤ b ∧ b < 24) (hk : gA S 28 b = 6) (hq : opM S t = 15) : Sim ad B (fin t (gA S 15 t + 1) (G_atCell S t 15 b)) (FC_X2_perform X (ad 2 b) (ad 0 t) 16) := by
  have hf2 : fre (sA S 29 b (gA S 29 b + G_part S t 2)) t := fre_k hf (by decide) (by decide) (by decide) (by decide)
  rw [G_atCell, if_neg (by decide), G_atCell_J18, if_neg (by decide), G_atCell_J36, if_pos rfl, gLt_x, gLt_x, gLt_x, G_atCell_J69, if_neg (by decide), fin_1 (fre_14 hf2).2.1, show gA (sA S 29 b (gA S 29 b + G_part S t 2)) 29 b = gA S 29 b + G_part S t 2 by simp [gA_sA]]
  rw [FC_X2_perform, gLt_x, gLt_x, ord_e, show swM.getD (Int32.toNatClampNeg (nI 16)) 0 = 17 by decide, if_neg (by decide), if_neg (by decide), if_neg (by decide), if_pos (by decide), gLt_x, R_op2 h.2.2 hf.1 (fre_at h.1 hf) (Or.inl hq), gC_p, gLt_x, gLt_x, gLt_x, (hld h.2.2 hb (Or.inl hk)).1]
  have z := s_gow (v := gA S 29 b + G_part S t 2) (s_ce (v := gA S 29 b + G_part S t 2) h hb hk) hf2
  rw [show gA (sA S 29 b (gA S 29 b + G_part S t 2)) 15 t = gA S 15 t by simp [gA_sA]] at z
  exact z
theorem s_c16 (h : Sim ad B S X) (hf : fre S t) (hb : 0 ≤ b ∧ b < 24) (hk : gA S 28 b = 6) (hq : opM S t = 16) : Sim ad B (fin t (gA S 15 t + 1) (G_atCell S t 16 b)) (FC_X2_perform X (ad 2 b) (ad 0 t) 17) := by
  have x4 := (hld h.2.2 hb (Or.inl hk)).1
  have eX : FC_X2_perform X (ad 2 b) (ad 0 t) 17 = if gA S 29 b = G_part S t 2 then FC_X8_goOnWith (xwI X (ad 2 b) 4 (G_part S t 3)) (ad 0 t) 1 else FC_X8_goOnWith (xwI X (ad 2 b) 4 (gA S 29 b)) (ad 0 t) 0 := by
    rw [FC_X2_perform, gLt_x, gLt_x, ord_e, show swM.getD (Int32.toNatClampNeg (nI 17)) 0 = 18 by decide, if_neg (by decide), if_neg (by decide), if_neg (by decide), if_neg (by decide), if_pos (by decide), gLt_x, R_op2 h.2.2 hf.1 (fre_at h.1 hf) (Or.inr (Or.inl hq)), gC_p, x4]
    by_cases c : gA S 29 b = G_part S t 2
    · rw [if_pos c, if_pos c, gLt_x, if_neg (by decide), R_op3 h.2.2 hf.1 (fre_at h.1 hf) hq, gC_p, gLt_x, if_neg (by decide), gLt_x]
    · rw [if_neg c, if_neg c, gLt_x, if_pos rfl, gLt_x, gLt_x, if_pos rfl, gLt_x]
  rw [eX, G_atCell, if_neg (by decide), G_atCell_J18, if_neg (by decide), G_atCell_J36, if_neg (by decide), G_atCell_J69, if_pos rfl, gLt_x]
  by_cases c : gA S 29 b = G_part S t 2
  · rw [if_pos c, if_pos c, G_atCell_J95, if_neg (by decide), gLt_x, gLt_x, G_atCell_J114, if_neg (by decide), G_atCell_J129, gLt_x]
    have hf2 : fre (sA S 29 b (G_part S t 3)) t := fre_k hf (by decide) (by decide) (by decide) (by decide)
    rw [fin_1 (fre_14 hf2).2.1]
    have z := s_gow (v := 1) (s_ce (v := G_part S t 3) h hb hk) hf2
    rw [show gA (sA S 29 b (G_part S t 3)) 15 t = gA S 15 t by simp [gA_sA]] at z
    exact z
  · rw [if_neg c, if_neg c, G_atCell_J95, if_pos rfl, G_atCell_J114, if_pos rfl, G_atCell_J129, gLt_x, fin_1 (fre_14 hf).2.1]
    have z := s_ce (v := gA S 29 b) h hb hk
    rw [sA_self rfl] at z
    exact s_gow z hf
end ATC

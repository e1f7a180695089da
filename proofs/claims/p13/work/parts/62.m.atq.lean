/-! both side by side: at a QUEUE -/
section QW
variable {ad : adT} {B : Int32} {S : mS} {X : xS} {b t v : Int32}
theorem acc_t (h : Rel ad (-1) S X) (hb : 0 ≤ b ∧ b < 24) (hk : gA S 28 b = 5) (h0 : gA S 37 b = 0) (c : ¬ gA S 33 b ≤ 0) : FC_X5_isAccepted X (ad 2 b) v = (1, FC_X8_goOnWith X (ad 0 (gA S 32 (8 * b))) v) := by
  obtain ⟨x3, xc, x5, x4⟩ := que h hb hk
  rw [FC_X5_isAccepted, gLt_x, x5, if_pos h0, gLt_x, ob2 h hb (by rw [hk]; decide), Option.getD_some, R_first h hb (by rw [hk]; decide), if_neg c, gC_p, gO_1, gLt_x]
theorem acc_a (h : Rel ad (-1) S X) (hb : 0 ≤ b ∧ b < 24) (hk : gA S 28 b = 5) (h0 : gA S 37 b ≠ gA S 29 b) (c : gA S 33 b ≤ 0) : FC_X5_isAccepted X (ad 2 b) v = (1, FC_X5_append X (ad 2 b) v) := by
  obtain ⟨x3, xc, x5, x4⟩ := que h hb hk
  rw [FC_X5_isAccepted, gLt_x, x5]
  by_cases d : gA S 37 b = 0
  · rw [if_pos d, gLt_x, ob2 h hb (by rw [hk]; decide), Option.getD_some, R_first h hb (by rw [hk]; decide), if_pos c, gC_p, gO_0, gLt_x, gLt_x, gLt_x, x5, x3, Option.getD_some, xc, if_neg h0, gLt_x]
  · rw [if_neg d, gLt_x, gLt_x, x3, Option.getD_some, xc, if_neg h0, gLt_x]
theorem acc_f (h : Rel ad (-1) S X) (hb : 0 ≤ b ∧ b < 24) (hk : gA S 28 b = 5) (h0 : gA S 37 b = gA S 29 b) (h1 : 1 ≤ gA S 29 b) : FC_X5_isAccepted X (ad 2 b) v = (0, X) := by
  obtain ⟨x3, xc, x5, x4⟩ := que h hb hk
  rw [FC_X5_isAccepted, gLt_x, x5, if_neg (by clear h; grind), gLt_x, gLt_x, x3, Option.getD_some, xc, if_pos h0]
/-- what put and offer are in the reference -/
theorem putS {q : Int32} (hq : q = 23 ∨ q = 25) : G_atQueue S t q b = G_atQueue_J12 S t q b := by
  rw [G_atQueue]
  rcases hq with z | z
  · rw [if_pos z]
  · subst z; rw [if_neg (by decide), if_pos rfl]
theorem J12_1 {q : Int32} (c : ¬ gA S 33 b ≤ 0) (h : opM S (gA S 32 (8 * b)) ≠ 23) : G_atQueue_J12 S t q b = G_atQueue_J126 t q (sA (fgo S b) 14 (gA S 32 (8 * b)) (gA (fgo S b) 14 t)) := by
  rw [G_atQueue_J12, if_neg c, gLt_x, part0, if_neg h, G_atQueue_J45, if_neg (by decide), fg_e, gC_p, gLt_x]
theorem J12_0 {q : Int32} (c : gA S 33 b ≤ 0 ∨ opM S (gA S 32 (8 * b)) = 23) : G_atQueue_J12 S t q b = if gA S 29 b ≤ gA S 37 b then (if q = 25 then (1, sA S 14 t 0) else G_passes S t b) else G_atQueue_J126 t q (G_append S b (gA S 14 t)) := by
  have e : G_atQueue_J44 S t q b = if gA S 29 b ≤ gA S 37 b then (if q = 25 then (1, sA S 14 t 0) else G_passes S t b) else G_atQueue_J126 t q (G_append S b (gA S 14 t)) := by
    rw [G_atQueue_J44, G_atQueue_J45, if_pos rfl, gLt_x, gLt_x, pas_eta]
  rw [G_atQueue_J12, e]
  by_cases d : gA S 33 b ≤ 0
  · rw [if_pos d]
  · rw [if_neg d, gLt_x, part0]
    rcases c with z | z
    · exact absurd z d
    · rw [if_pos z]
theorem J126_p : G_atQueue_J126 t 23 S = (1, S) := by rw [G_atQueue_J126, if_neg (by decide)]
theorem J126_o : G_atQueue_J126 t 25 S = (1, sA S 14 t 1) := by rw [G_atQueue_J126, if_pos rfl, gLt_x]
theorem x24 (h : Rel ad (-1) S X) (ht : 0 ≤ t ∧ t < 8) : FC_X5_perform X (ad 2 b) (ad 0 t) 24 = gC (FC_X5_isAccepted X (ad 2 b) (gA S 14 t)) (fun r Y => if r = 0 then FC_X9_holdUp Y (ad 2 b) (ad 0 t) else FC_X8_goOn Y (ad 0 t)) := by
  rw [FC_X5_perform, gLt_x, gLt_x, ord_e, show swM.getD (Int32.toNatClampNeg (nI 24)) 0 = 12 by decide, if_neg (by decide), if_pos (by decide), gLt_x, (th0 h ht).2.2.1]
  rfl
theorem x26 (h : Rel ad (-1) S X) (ht : 0 ≤ t ∧ t < 8) : FC_X5_perform X (ad 2 b) (ad 0 t) 26 = gC (FC_X5_isAccepted X (ad 2 b) (gA S 14 t)) (fun r Y => if r = 0 then FC_X8_goOnWith Y (ad 0 t) 0 else FC_X8_goOnWith Y (ad 0 t) 1) := by
  rw [FC_X5_perform, gLt_x, gLt_x, ord_e, show swM.getD (Int32.toNatClampNeg (nI 26)) 0 = 13 by decide, if_neg (by decide), if_neg (by decide), if_pos (by decide), gLt_x, (th0 h ht).2.2.1]
  rfl
/-- the first that waits to take has the VALUE at once -/
theorem s_tkr (h : Sim ad B S X) (hf : fre S t) (hb : 0 ≤ b ∧ b < 24) (hk : gA S 28 b = 5) (c : ¬ gA S 33 b ≤ 0) : Sim ad B (sA (fgo S b) 14 (gA S 32 (8 * b)) (gA (fgo S b) 14 t)) (FC_X8_goOnWith X (ad 0 (gA S 32 (8 * b))) (gA S 14 t)) ∧ fre (sA (fgo S b) 14 (gA S 32 (8 * b)) (gA (fgo S b) 14 t)) t ∧ gA (sA (fgo S b) 14 (gA S 32 (8 * b)) (gA (fgo S b) 14 t)) 15 t = gA S 15 t := by
  have f := fg_f h.1 hb c
  have e14 := f.2.2 14 t (by decide) (by decide) (by decide) (by decide) (by decide)
  rw [e14]
  have s1 := s_14 (t := gA S 32 (8 * b)) (v := gA S 14 t) h
  have e1 : gA (sA S 14 (gA S 32 (8 * b)) (gA S 14 t)) 32 (8 * b) = gA S 32 (8 * b) := by simp [gA_sA]
  have e2 : gA (sA S 14 (gA S 32 (8 * b)) (gA S 14 t)) 33 b = gA S 33 b := by simp [gA_sA]
  have e3 : gA (sA S 14 (gA S 32 (8 * b)) (gA S 14 t)) 28 b = gA S 28 b := by simp [gA_sA]
  have s2 := fg_s s1 hb (by rw [e3, hk]; decide) (by rw [e2]; exact c)
  rw [e1, fg_sA (by decide) (by decide) (by decide) (by decide) (by decide) (by decide)] at s2
  have eg : FC_X8_goOnWith X (ad 0 (gA S 32 (8 * b))) (gA S 14 t) = FC_X8_goOn (xwI X (ad 0 (gA S 32 (8 * b))) 2 (gA S 14 t)) (ad 0 (gA S 32 (8 * b))) := by rw [FC_X8_goOnWith, gLt, gLt]
  have z := f.1.2.2.2 t hf.1.1 hf.1.2 hf.2.2.2 hf.2.2.1
  refine ⟨by rw [eg]; exact s2, fre_14 ⟨hf.1, z.2.1.trans hf.2.1, z.2.2.2, z.1⟩, by simpa [gA_sA] using z.2.2.1⟩
theorem q_pass (h : Sim ad B S X) (hf : fre S t) (hb : 0 ≤ b ∧ b < 24) (hk : gA S 28 b = 5) (hm : (gA S 37 b = 0 ∧ opM S t = 24) ∨ (gA S 37 b = gA S 29 b ∧ opM S t = 23)) : Sim ad B (fin t (gA S 15 t + 1) (G_passes S t b)) (FC_X9_holdUp X (ad 2 b) (ad 0 t)) :=
  s_pass h hf hb (by rw [hk]; decide) (fun z => absurd (hk.symm.trans z) (by decide)) (fun z => absurd (hk.symm.trans z) (by decide)) ⟨fun z => absurd (hk.symm.trans z) (by decide), fun z => absurd (hk.symm.trans z) (by decide), fun _ => hm⟩
theorem fre_app {w : Int32} (hf : fre S t) : fre (G_append S b w) t := by rw [append_e]; exact fre_k (fre_k hf (by decide) (by decide) (by decide) (by decide)) (by decide) (by decide) (by decide) (by decide)
theorem s_q23 (h : Sim ad B S X) (hf : fre S t) (hb : 0 ≤ b ∧ b < 24) (hk : gA S 28 b = 5) (hq : opM S t = 23) : Sim ad B (fin t (gA S 15 t + 1) (G_atQueue S t 23 b)) (FC_X5_perform X (ad 2 b) (ad 0 t) 24) := by
  have zo := h.2.1.1 b hb.1 hb.2
  rw [hk] at zo
  have f1 : 1 ≤ gA S 29 b := by unfold jOb at zo; clear h; grind
  have q := q_inv h.1 hb hk
  rw [x24 h.2.2 hf.1, putS (Or.inl rfl)]
  by_cases c : gA S 33 b ≤ 0
  · rw [J12_0 (Or.inl c)]
    by_cases d : gA S 29 b ≤ gA S 37 b
    · have e : gA S 37 b = gA S 29 b := by clear h; grind
      rw [if_pos d, if_neg (by decide), acc_f h.2.2 hb hk e f1, gC_p, if_pos rfl]
      exact q_pass h hf hb hk (Or.inr ⟨e, hq⟩)
    · rw [if_neg d, J126_p, acc_a h.2.2 hb hk (by clear h; grind) c, gC_p, if_neg (by decide)]
      have z := s_go (s_app (v := gA S 14 t) h hb hk (by clear h; grind) c) (fre_app hf)
      rw [app_gA (by decide) (by decide)] at z
      rw [fin_1 (fre_app hf).2.1]; exact z
  · rcases (row_op h.2.1 hb c).2.2 hk with y | y
    · rw [J12_1 c (by rw [y.2]; decide), J126_p, acc_t h.2.2 hb hk y.1 c, gC_p, if_neg (by decide)]
      obtain ⟨s1, s2, s3⟩ := s_tkr h hf hb hk c
      rw [fin_1 s2.2.1, ← s3]; exact s_go s1 s2
    · rw [J12_0 (Or.inr y.2), if_pos (by rw [y.1]; exact Int32.le_refl _), if_neg (by decide), acc_f h.2.2 hb hk y.1 f1, gC_p, if_pos rfl]
      exact q_pass h hf hb hk (Or.inr ⟨y.1, hq⟩)
theorem s_q25 (h : Sim ad B S X) (hf : fre S t) (hb : 0 ≤ b ∧ b < 24) (hk : gA S 28 b = 5) : Sim ad B (fin t (gA S 15 t + 1) (G_atQueue S t 25 b)) (FC_X5_perform X (ad 2 b) (ad 0 t) 26) := by
  have zo := h.2.1.1 b hb.1 hb.2
  rw [hk] at zo
  have f1 : 1 ≤ gA S 29 b := by unfold jOb at zo; clear h; grind
  have q := q_inv h.1 hb hk
  rw [x26 h.2.2 hf.1, putS (Or.inr rfl)]
  by_cases c : gA S 33 b ≤ 0
  · rw [J12_0 (Or.inl c)]
    by_cases d : gA S 29 b ≤ gA S 37 b
    · have e : gA S 37 b = gA S 29 b := by clear h; grind
      rw [if_pos d, if_pos rfl, acc_f h.2.2 hb hk e f1, gC_p, if_pos rfl, fin_1 (fre_14 hf).2.1]
      exact s_gow h hf
    · rw [if_neg d, J126_o, acc_a h.2.2 hb hk (by clear h; grind) c, gC_p, if_neg (by decide)]
      have z := s_gow (v := 1) (s_app (v := gA S 14 t) h hb hk (by clear h; grind) c) (fre_app hf)
      rw [app_gA (by decide) (by decide)] at z
      rw [fin_1 (fre_14 (fre_app hf)).2.1]; exact z
  · rcases (row_op h.2.1 hb c).2.2 hk with y | y
    · rw [J12_1 c (by rw [y.2]; decide), J126_o, acc_t h.2.2 hb hk y.1 c, gC_p, if_neg (by decide)]
      obtain ⟨s1, s2, s3⟩ := s_tkr h hf hb hk c
      rw [fin_1 (fre_14 s2).2.1, ← s3]; exact s_gow s1 s2
    · rw [J12_0 (Or.inr y.2), if_pos (by rw [y.1]; exact Int32.le_refl _), if_pos rfl, acc_f h.2.2 hb hk y.1 f1, gC_p, if_pos rfl, fin_1 (fre_14 hf).2.1]
      exact s_gow h hf
theorem app_14 {w i : Int32} : G_append (sA S 14 i v) b w = sA (G_append S b w) 14 i v := by
  rw [append_e, append_e, show gA (sA S 14 i v) 37 b = gA S 37 b by simp [gA_sA], sA_comm (k := 14) (l := 36) (Or.inl (by decide)), sA_comm (k := 14) (l := 37) (Or.inl (by decide))]
theorem app_fg {w : Int32} (e : gA (fgo S b) 37 b = gA S 37 b) : G_append (fgo S b) b w = fgo (G_append S b w) b := by
  rw [append_e, append_e, e, fg_sA (by decide) (by decide) (by decide) (by decide) (by decide) (by decide), fg_sA (by decide) (by decide) (by decide) (by decide) (by decide) (by decide)]
theorem takeS {q : Int32} (h : Sim ad B S X) (hf : fre S t) (hb : 0 ≤ b ∧ b < 24) (hk : gA S 28 b = 5) (h3 : q ≠ 23) (h5 : q ≠ 25) (h0 : gA S 37 b ≠ 0) : G_atQueue S t q b = (1, sA (tkn S b) 14 t (gA S 36 (100 * b))) := by
  have qi := q_inv h.1 hb hk
  have hq : 0 < gA S 37 b := by clear h; grind
  obtain ⟨a1, a2, a3, a4, a5, a6, a7, a8⟩ := tk_f h.1 hb hk hq
  have e1 : gA (sA S 14 t (gA S 36 (100 * b))) 37 b = gA S 37 b := by simp [gA_sA]
  have e2 : gA (sA (sA S 14 t (gA S 36 (100 * b))) 37 b (gA S 37 b - 1)) 37 b = gA S 37 b - 1 := by simp [gA_sA]
  rw [G_atQueue, if_neg h3, if_neg h5, if_neg h0, gLt_x, gLt_x, gLt_x, e1, e2, L200_e _ 0 _ (by decide) (by rw [e2]; clear h; grind) (by rw [e2]; exact Nat.lt_succ_self _), sA_comm (k := 14) (l := 37) (Or.inl (by decide)), shL_c (by decide) (by decide)]
  have e3 : shL b ((gA S 37 b - 1 - 0).toInt.toNat + 1) 0 (sA S 37 b (gA S 37 b - 1)) = tk S b := rfl
  rw [e3, show gA (sA (tk S b) 14 t (gA S 36 (100 * b))) 33 b = gA S 33 b by rw [gA_sA, if_neg (by decide)]; exact a1 33 b (by decide) (by decide), show gA (sA (tk S b) 14 t (gA S 36 (100 * b))) 32 (8 * b) = gA S 32 (8 * b) by rw [gA_sA, if_neg (by decide)]; exact a1 32 _ (by decide) (by decide)]
  unfold tkn
  by_cases c : gA S 33 b ≤ 0
  · rw [if_pos c, if_pos c]
  · rw [if_neg c, if_neg c, fg_sA (by decide) (by decide) (by decide) (by decide) (by decide) (by decide)]
    have m1 : ¬ gA (tk S b) 33 b ≤ 0 := by rw [a1 33 b (by decide) (by decide)]; exact c
    have ut := fg_t hb hf.2.2.2 c
    have g14 : gA (fgo (tk S b) b) 14 (gA S 32 (8 * b)) = gA S 14 (gA S 32 (8 * b)) := by
      have : ∀ T : mS, gA (fgo T b) 14 (gA S 32 (8 * b)) = gA (G_leaves T b (gA T 32 (8 * b))) 14 (gA S 32 (8 * b)) := fun T => by unfold fgo; rw [goesOn_e]; simp [gA_sA]
      rw [this]
      have l := leaves_c (S := tk S b) (k := 14) (j := gA S 32 (8 * b)) (v := gA (tk S b) 14 (gA S 32 (8 * b))) (b := b) (u := gA (tk S b) 32 (8 * b)) (by decide) (by decide)
      rw [sA_self rfl] at l
      rw [l]; simp [gA_sA]; exact a1 14 _ (by decide) (by decide)
    have g37 : gA (fgo (tk S b) b) 37 b = gA (tk S b) 37 b := by
      have : ∀ T : mS, gA (fgo T b) 37 b = gA (G_leaves T b (gA T 32 (8 * b))) 37 b := fun T => by unfold fgo; rw [goesOn_e]; simp [gA_sA]
      rw [this]
      have l := leaves_c (S := tk S b) (k := 37) (j := b) (v := gA (tk S b) 37 b) (b := b) (u := gA (tk S b) 32 (8 * b)) (by decide) (by decide)
      rw [sA_self rfl] at l
      rw [l]; simp [gA_sA]
    rw [show gA (sA (fgo (tk S b) b) 14 t (gA S 36 (100 * b))) 14 (gA S 32 (8 * b)) = gA S 14 (gA S 32 (8 * b)) by rw [gA_sA, if_pos rfl, if_neg ut]; exact g14, app_14, app_fg g37]
theorem s_q24 (h : Sim ad B S X) (hf : fre S t) (hb : 0 ≤ b ∧ b < 24) (hk : gA S 28 b = 5) (hq : opM S t = 24) : Sim ad B (fin t (gA S 15 t + 1) (G_atQueue S t 24 b)) (FC_X5_perform X (ad 2 b) (ad 0 t) 25) := by
  have qi := q_inv h.1 hb hk
  obtain ⟨x3, xc, x5, x4⟩ := que h.2.2 hb hk
  rw [FC_X5_perform, gLt_x, gLt_x, ord_e, show swM.getD (Int32.toNatClampNeg (nI 25)) 0 = 14 by decide, if_neg (by decide), if_neg (by decide), if_neg (by decide), gLt_x, x5]
  by_cases c : gA S 37 b = 0
  · rw [if_pos (by rw [c]; decide), gLt_x, G_atQueue, if_neg (by decide), if_neg (by decide), if_pos c, if_pos rfl, pas_eta]
    exact q_pass h hf hb hk (Or.inl ⟨c, hq⟩)
  · have c0 : 0 < gA S 37 b := by clear h; grind
    obtain ⟨r1, r2, r3⟩ := s_tk h hb hk c0
    rw [if_neg (show ¬ gA S 37 b ≤ 0 by clear h r1 r2 r3; grind), takeS h hf hb hk (by decide) (by decide) c, r1, gC_p, gLt_x, fin_1 (fre_14 (r3 t hf).1).2.1, ← (r3 t hf).2]
    exact s_gow r2 (r3 t hf).1
theorem s_q26 (h : Sim ad B S X) (hf : fre S t) (hb : 0 ≤ b ∧ b < 24) (hk : gA S 28 b = 5) : Sim ad B (fin t (gA S 15 t + 1) (G_atQueue S t 26 b)) (FC_X5_perform X (ad 2 b) (ad 0 t) 27) := by
  have qi := q_inv h.1 hb hk
  obtain ⟨x3, xc, x5, x4⟩ := que h.2.2 hb hk
  rw [FC_X5_perform, gLt_x, gLt_x, ord_e, show swM.getD (Int32.toNatClampNeg (nI 27)) 0 = 0 by decide, if_pos (by decide), gLt_x, x5]
  by_cases c : gA S 37 b = 0
  · rw [if_pos (by rw [c]; decide), gLt_x, G_atQueue, if_neg (by decide), if_neg (by decide), if_pos c, if_neg (by decide), gLt_x, fin_1 (fre_14 hf).2.1]
    exact s_gow h hf
  · have c0 : 0 < gA S 37 b := by clear h; grind
    obtain ⟨r1, r2, r3⟩ := s_tk h hb hk c0
    rw [if_neg (show ¬ gA S 37 b ≤ 0 by clear h r1 r2 r3; grind), takeS h hf hb hk (by decide) (by decide) c, r1, gC_p, gLt_x, fin_1 (fre_14 (r3 t hf).1).2.1, ← (r3 t hf).2]
    exact s_gow r2 (r3 t hf).1
end QW

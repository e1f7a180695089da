/-! both side by side: at a LOCK -/
theorem fre_k {S : mS} {t v i : Int32} {k : Nat} (hf : fre S t) (h1 : k ≠ 13) (h2 : k ≠ 21) (h3 : k ≠ 32) (h4 : k ≠ 33) : fre (sA S k i v) t := by
  obtain ⟨a1, a2, a3, a4⟩ := hf
  exact ⟨a1, by simpa [gA_sA, Ne.symm h1] using a2, by simpa [gA_sA, Ne.symm h2] using a3, by simpa [nR, gA_sA, Ne.symm h3, Ne.symm h4] using a4⟩
theorem m_29 {S : mS} {b v : Int32} (h : mInv S) (hk : gA S 28 b ≠ 5) (hb : 0 ≤ b ∧ b < 24) : mInv (sA S 29 b v) := (st_first (stp_rf h) hk hb rfl).1
theorem m_31 {S : mS} {b v : Int32} (h : mInv S) (hb : 0 ≤ b ∧ b < 24) (hv : -1 ≤ v ∧ v < 8) : mInv (sA S 31 b v) := (st_owner (stp_rf h) hb rfl hv).1
/-- an OBJECT's first number changes -/
theorem j_29 {S : mS} {B C e b v : Int32} (h : jIn S B e) (hBC : B ≤ C) (hk : gA S 28 b ≠ 5) (q : jOb C (gA S 28 b) v (gA S 30 b) (gA S 31 b) (gA S 33 b)) : jIn (sA S 29 b v) C e := by
  refine j_obj (b := b) (j_mono h hBC) (fun k i hk => ?_) (fun k d hk hd => ?_) ?_ (fun z => absurd z hk)
  · have a2 : k ≠ 29 := by omega
    simp [gA_sA, a2]
  · simp [gA_sA, hd]
  · have e1 : gA (sA S 29 b v) 29 b = v := by simp [gA_sA]
    have e2 : gA (sA S 29 b v) 30 b = gA S 30 b := by simp [gA_sA]
    have e3 : gA (sA S 29 b v) 31 b = gA S 31 b := by simp [gA_sA]
    rw [e1, e2, e3]; exact q
theorem j_31 {S : mS} {B e b v : Int32} (h : jIn S B e) (hk : gA S 28 b ≠ 5) (q : jOb B (gA S 28 b) (gA S 29 b) (gA S 30 b) v (gA S 33 b)) : jIn (sA S 31 b v) B e := by
  refine j_obj (b := b) h (fun k i hk => ?_) (fun k d hk hd => ?_) ?_ (fun z => absurd z hk)
  · have a2 : k ≠ 31 := by omega
    simp [gA_sA, a2]
  · simp [gA_sA, hd]
  · have e1 : gA (sA S 31 b v) 29 b = gA S 29 b := by simp [gA_sA]
    have e2 : gA (sA S 31 b v) 30 b = gA S 30 b := by simp [gA_sA]
    have e3 : gA (sA S 31 b v) 31 b = v := by simp [gA_sA]
    rw [e1, e2, e3]; exact q
theorem lck {ad : adT} {e : Int32} {S : mS} {X : xS} {b : Int32} (h : Rel ad e S X) (hb : 0 ≤ b ∧ b < 24) (hk : gA S 28 b = 1) : xI X (ad 2 b) 3 = gA S 31 b ∧ xI X (ad 2 b) 4 = gA S 30 b ∧ xI X (ad 2 b) 5 = gA S 29 b ∧ xR X (ad 2 b) 6 = some (ad 5 b) :=
  have z := ((h.2.2.2.2.2.2.2.2.1 b hb.1 hb.2).2 (by rw [hk]; decide)).2.2.2.2.2.2.1 hk
  ⟨z.1, z.2.1, z.2.2.1, z.2.2.2.1⟩
theorem th0 {ad : adT} {e : Int32} {S : mS} {X : xS} {t : Int32} (h : Rel ad e S X) (ht : 0 ≤ t ∧ t < 8) : xI X (ad 0 t) 0 = t ∧ xI X (ad 0 t) 1 = gA S 13 t ∧ xI X (ad 0 t) 2 = gA S 14 t ∧ xI X (ad 0 t) 3 = gA S 15 t ∧ xI X (ad 0 t) 5 = gA S 20 t :=
  have z := h.2.2.2.1 t ht.1 ht.2
  ⟨z.1, z.2.1, z.2.2.1, z.2.2.2.1, z.2.2.2.2.2.1⟩
def grb (S : mS) (b t : Int32) : mS := sA (sA S 31 b t) 29 b (gA S 29 b + 1)
theorem grab_e {X : xS} {o a : Nat} : FC_X4_isGrabbed X o a = if xI X o 3 = -1 ∨ xI X o 3 = xI X a 0 then (1, xwI (xwI X o 3 (xI X a 0)) o 5 (xI X o 5 + 1)) else (0, X) := by
  rw [FC_X4_isGrabbed]
  simp only [gLt_x, xI_I]
  by_cases c : xI X o 3 = -1
  · rw [if_pos c, if_pos (Or.inl c)]; simp
  · rw [if_neg c]
    by_cases d : xI X o 3 = xI X a 0
    · rw [if_pos d, if_pos (Or.inr d)]; simp
    · rw [if_neg d, if_neg (fun z => z.elim c d)]
theorem s_grab {ad : adT} {B : Int32} {S : mS} {X : xS} {b t : Int32} (h : Sim ad B S X) (hB : 1 ≤ B ∧ B ≤ 1000000000) (ht : 0 ≤ t ∧ t < 8) (hb : 0 ≤ b ∧ b < 24) (hk : gA S 28 b = 1) (ho : gA S 31 b < 0 ∨ gA S 31 b = t) :
    Sim ad (B + 8) (grb S b t) (xwI (xwI X (ad 2 b) 3 t) (ad 2 b) 5 (gA S 29 b + 1)) := by
  obtain ⟨hm, hJ, hR⟩ := h
  have k1 : gA (sA S 31 b t) 28 b = 1 := by simpa [gA_sA] using hk
  refine ⟨m_29 (m_31 hm hb (by clear hm hJ hR; grind)) (by rw [k1]; decide) hb, ?_, Rel_lf (Rel_lo hR hk) k1⟩
  refine j_obj (b := b) (j_mono hJ (show B ≤ B + 8 by clear hm hJ hR; grind)) (fun k i hk => ?_) (fun k d hk hd => ?_) ?_ (fun z => absurd (hk.symm.trans z) (by decide))
  · have a1 : k ≠ 31 := by omega
    have a2 : k ≠ 29 := by omega
    simp [grb, gA_sA, a1, a2]
  · simp [grb, gA_sA, hd]
  · have z := hJ.1 b hb.1 hb.2
    have e1 : gA (grb S b t) 29 b = gA S 29 b + 1 := by simp [grb, gA_sA]
    have e2 : gA (grb S b t) 30 b = gA S 30 b := by simp [grb, gA_sA]
    have e3 : gA (grb S b t) 31 b = t := by simp [grb, gA_sA]
    rw [e1, e2, e3, hk]
    rw [hk] at z
    unfold jOb at z ⊢
    clear hJ e1 e2 e3 hm hR
    grind
theorem fre_grb {S : mS} {b t : Int32} (hf : fre S t) : fre (grb S b t) t := fre_k (fre_k hf (by decide) (by decide) (by decide) (by decide)) (by decide) (by decide) (by decide) (by decide)
theorem aL7 {S : mS} {t b : Int32} : G_atLock S t 7 b = if gA S 31 b < 0 ∨ gA S 31 b = t then (1, grb S b t) else (0, G_waitFor S t b) := by
  have g1 : G_atLock_J36 S t 7 b 1 = (1, grb S b t) := by
    have e : gA (sA S 31 b t) 29 b = gA S 29 b := by simp [gA_sA]
    rw [G_atLock_J36, if_neg (by decide), gLt_x, gLt_x, G_atLock_J60, if_neg (by decide), if_neg (by decide), G_atLock_J96, if_neg (by decide), e]; rfl
  have g0 : G_atLock_J36 S t 7 b 0 = (0, G_waitFor S t b) := by
    rw [G_atLock_J36, if_pos rfl, G_atLock_J60, if_neg (by decide), if_pos rfl, gLt_x, G_atLock_J96, if_pos rfl, if_neg (by decide)]
  rw [G_atLock, if_pos rfl, G_atLock_J12, G_atLock_J31, g1, g0]
  by_cases c : gA S 31 b < 0
  · rw [if_pos c, if_pos (Or.inl c)]
  · rw [if_neg c]
    by_cases d : gA S 31 b = t
    · rw [if_pos d, if_pos (Or.inr d)]
    · rw [if_neg d, if_neg (fun z => z.elim c d)]
theorem aL8 {S : mS} {t b : Int32} : G_atLock S t 8 b = if gA S 31 b < 0 ∨ gA S 31 b = t then (1, sA (grb S b t) 14 t 1) else (1, sA S 14 t 0) := by
  have g1 : G_atLock_J36 S t 8 b 1 = (1, sA (grb S b t) 14 t 1) := by
    have e : gA (sA S 31 b t) 29 b = gA S 29 b := by simp [gA_sA]
    rw [G_atLock_J36, if_neg (by decide), gLt_x, gLt_x, G_atLock_J60, if_pos rfl, if_neg (by decide), G_atLock_J81, gLt_x, G_atLock_J96, if_neg (by decide), e]; rfl
  have g0 : G_atLock_J36 S t 8 b 0 = (1, sA S 14 t 0) := by
    rw [G_atLock_J36, if_pos rfl, G_atLock_J60, if_pos rfl, if_pos rfl, G_atLock_J81, gLt_x, G_atLock_J96, if_pos rfl, if_pos rfl]
  rw [G_atLock, if_neg (by decide), if_pos rfl, G_atLock_J12, G_atLock_J31, g1, g0]
  by_cases c : gA S 31 b < 0
  · rw [if_pos c, if_pos (Or.inl c)]
  · rw [if_neg c]
    by_cases d : gA S 31 b = t
    · rw [if_pos d, if_pos (Or.inr d)]
    · rw [if_neg d, if_neg (fun z => z.elim c d)]
theorem own_n {S : mS} {b : Int32} (hm : mInv S) (hb : 0 ≤ b ∧ b < 24) : -1 ≤ gA S 31 b ∧ gA S 31 b < 8 := (hm.2.2.2.1 b hb.1 hb.2).2.2.1
theorem s_mono {ad : adT} {B C : Int32} {S : mS} {X : xS} (h : Sim ad B S X) (hBC : B ≤ C) : Sim ad C S X := ⟨h.1, j_mono h.2.1 hBC, h.2.2⟩
theorem b8 {B : Int32} (hB : 1 ≤ B ∧ B ≤ 1000000000) : B ≤ B + 8 := by grind
theorem jMb1 {q f p : Int32} : jMb 1 q f p := ⟨fun z => absurd z (by decide), fun z => absurd z (by decide), fun z => absurd z (by decide)⟩
section ATL
variable {ad : adT} {B : Int32} {S : mS} {X : xS} {b t : Int32}
theorem s_l7 (h : Sim ad B S X) (hB : 1 ≤ B ∧ B ≤ 1000000000) (hf : fre S t) (hb : 0 ≤ b ∧ b < 24) (hk : gA S 28 b = 1) : Sim ad (B + 8) (fin t (gA S 15 t + 1) (G_atLock S t 7 b)) (FC_X4_perform X (ad 2 b) (ad 0 t) 8) := by
  obtain ⟨l3, l4, l5, l6⟩ := lck h.2.2 hb hk
  have w := own_n h.1 hb
  rw [FC_X4_perform, if_pos rfl, gLt_x, FC_X4_grabOrStandIn, grab_e, l3, l5, (th0 h.2.2 hf.1).1, aL7]
  by_cases c : gA S 31 b < 0 ∨ gA S 31 b = t
  · rw [if_pos c, if_pos (by clear h; grind), gC_p, if_neg (by decide), gLt_x, fin_1 (fre_grb hf).2.1]
    have z := s_go (s_grab h hB hf.1 hb hk c) (fre_grb hf)
    rw [show gA (grb S b t) 15 t = gA S 15 t by simp [grb, gA_sA]] at z
    exact z
  · rw [if_neg c, if_neg (by clear h; grind), gC_p, if_pos rfl, gLt_x, gLt_x, ob2 h.2.2 hb (by rw [hk]; decide), Option.getD_some, fin_0]
    have z := n22 h.2.1 hf.1 hf.2.2.2 hf.2.2.1
    refine s_mono (s_wF h.1 (j_wk h.2.1) (Rel_wk h.2.2) hb hf.1 hf.2.2.2 hf.2.2.1 (fre_at h.1 hf) (by rw [hk]; decide) (fun y => ?_) (fun y => ?_) (by rw [hk]; exact jMb1) (fun y => absurd z y) (n17 h.2.1 hf.1 (Or.inl hf.2.1))) (b8 hB)
    · rw [hk] at y; exact absurd y (by decide)
    · rw [hk] at y; exact absurd y (by decide)
theorem s_l8 (h : Sim ad B S X) (hB : 1 ≤ B ∧ B ≤ 1000000000) (hf : fre S t) (hb : 0 ≤ b ∧ b < 24) (hk : gA S 28 b = 1) : Sim ad (B + 8) (fin t (gA S 15 t + 1) (G_atLock S t 8 b)) (FC_X4_perform X (ad 2 b) (ad 0 t) 9) := by
  obtain ⟨l3, l4, l5, l6⟩ := lck h.2.2 hb hk
  have w := own_n h.1 hb
  rw [FC_X4_perform, if_neg (by decide), if_pos rfl, grab_e, l3, l5, (th0 h.2.2 hf.1).1, aL8]
  by_cases c : gA S 31 b < 0 ∨ gA S 31 b = t
  · rw [if_pos c, if_pos (by clear h; grind), gC_p, if_neg (by decide), gLt_x, fin_1 (fre_14 (fre_grb hf)).2.1]
    have z := s_gow (v := 1) (s_grab h hB hf.1 hb hk c) (fre_grb hf)
    rw [show gA (grb S b t) 15 t = gA S 15 t by simp [grb, gA_sA]] at z
    exact z
  · rw [if_neg c, if_neg (by clear h; grind), gC_p, if_pos rfl, gLt_x, fin_1 (fre_14 hf).2.1]
    exact s_mono (s_gow h hf) (b8 hB)
theorem fail_e {a : Nat} {w : Int32} : FC_X8_fail X a w = xwI (xwI X a 1 5) a 4 w := by rw [FC_X8_fail, gLt_x, gLt_x]
theorem fails_e {w : Int32} : G_fails S t w = (0, sA (sA S 13 t 5) 17 t w) := by rw [G_fails, gLt_x, gLt_x]
theorem s_fail {w : Int32} (h : Sim ad B S X) (hf : fre S t) : Sim ad B (sA (sA S 13 t 5) 17 t w) (FC_X8_fail X (ad 0 t) w) := by
  rw [fail_e]
  refine ⟨?_, ?_, Rel_17 (Rel_13 h.2.2)⟩
  · have z := pas_f (w := w) hf (stp_rf h.1) rfl
    exact z.1
  · refine j_thr (t := t) h.2.1 hf.2.2.2 (fun k i hk => ?_) (fun k u hk hu => by simp [gA_sA, hu]) (by simp [gA_sA])
    have a1 : k ≠ 13 := by omega
    have a2 : k ≠ 17 := by omega
    simp [gA_sA, a1, a2]
theorem aL_n {q : Int32} (h7 : q ≠ 7) (h8 : q ≠ 8) (ho : gA S 31 b ≠ t) : G_atLock S t q b = (0, sA (sA S 13 t 5) 17 t 1) := by
  rw [G_atLock, if_neg h7, if_neg h8, if_neg ho, fails_e, gC_p]
theorem perf_n {w : Nat} (h : Sim ad B S X) (hf : fre S t) (hb : 0 ≤ b ∧ b < 24) (hk : gA S 28 b = 1) (h8 : w ≠ 8) (h9 : w ≠ 9) (ho : gA S 31 b ≠ t) : FC_X4_perform X (ad 2 b) (ad 0 t) w = FC_X8_fail X (ad 0 t) 1 := by
  rw [FC_X4_perform, if_neg h8, if_neg h9, gLt_x, gLt_x, (lck h.2.2 hb hk).1, (th0 h.2.2 hf.1).1, if_neg ho, gLt_x]
/-- what a LOCK asks of one that hasn't it -/
theorem s_ln {q : Int32} {w : Nat} (h : Sim ad B S X) (hf : fre S t) (hb : 0 ≤ b ∧ b < 24) (hk : gA S 28 b = 1) (h7 : q ≠ 7) (h8 : q ≠ 8) (w8 : w ≠ 8) (w9 : w ≠ 9) (ho : gA S 31 b ≠ t) : Sim ad B (fin t (gA S 15 t + 1) (G_atLock S t q b)) (FC_X4_perform X (ad 2 b) (ad 0 t) w) := by
  rw [aL_n h7 h8 ho, perf_n h hf hb hk w8 w9 ho, fin_0]
  exact s_fail h hf
theorem s_l9 (h : Sim ad B S X) (hB : 1 ≤ B ∧ B ≤ 1000000000) (hf : fre S t) (hb : 0 ≤ b ∧ b < 24) (hk : gA S 28 b = 1) : Sim ad (B + 8) (fin t (gA S 15 t + 1) (G_atLock S t 9 b)) (FC_X4_perform X (ad 2 b) (ad 0 t) 10) := by
  by_cases ho : gA S 31 b = t
  · refine s_mono ?_ (b8 hB)
    obtain ⟨l3, l4, l5, l6⟩ := lck h.2.2 hb hk
    have z1 := s_go h hf
    have k1 : gA (gs S t (gA S 15 t + 1)) 28 b = 1 := by rw [gs_o (by decide) (by decide)]; exact hk
    have x5 : xI (FC_X8_goOn X (ad 0 t)) (ad 2 b) 5 = gA S 29 b := by rw [(lck z1.2.2 hb k1).2.2.1, gs_o (by decide) (by decide)]
    have e9 : gA (sA S 29 b (gA S 29 b - 1)) 29 b = gA S 29 b - 1 := by simp [gA_sA]
    rw [FC_X4_perform, if_neg (by decide), if_neg (by decide), gLt_x, gLt_x, l3, (th0 h.2.2 hf.1).1, if_pos ho, if_pos rfl, gLt_x, gLt_x, x5, gLt_x, gLt_x]
    rw [G_atLock, if_neg (by decide), if_neg (by decide), if_pos ho, if_pos rfl, gLt_x, e9]
    have zj := hf.1
    have zo := h.2.1.1 b hb.1 hb.2
    rw [hk] at zo
    by_cases c : gA S 29 b - 1 = 0
    · rw [if_pos c, if_pos c, gLt_x, gLt_x, G_atLock_J160, freed_29]
      have st := (p_freed S b hb h.1 hk _ rfl).1.2.2.2 t hf.1.1 hf.1.2 hf.2.2.2 hf.2.2.1
      rw [fin_1 (st.2.1.trans hf.2.1), ← freed_gs h.1 hb hk hf.2.2.2]
      exact s_freed z1.1 z1.2.1 (Rel_lf z1.2.2 k1) hB.1 hb k1
    · rw [if_neg c, if_neg c, G_atLock_J160]
      have hf2 : fre (sA S 29 b (gA S 29 b - 1)) t := fre_k hf (by decide) (by decide) (by decide) (by decide)
      rw [fin_1 hf2.2.1, ← gs_sA (by decide) (by decide) (by decide)]
      refine ⟨m_29 z1.1 (by rw [k1]; decide) hb, j_29 z1.2.1 (Int32.le_refl _) (by rw [k1]; decide) ?_, Rel_lf z1.2.2 k1⟩
      simp only [gs_o (show (28 : Nat) ≠ 13 by decide) (show (28 : Nat) ≠ 15 by decide), gs_o (show (30 : Nat) ≠ 13 by decide) (show (30 : Nat) ≠ 15 by decide), gs_o (show (31 : Nat) ≠ 13 by decide) (show (31 : Nat) ≠ 15 by decide), gs_o (show (33 : Nat) ≠ 13 by decide) (show (33 : Nat) ≠ 15 by decide)]
      rw [hk]
      unfold jOb at zo ⊢
      clear h z1 k1 x5 e9 hf2 hf l3 l4 l5 l6
      grind
  · exact s_mono (s_ln h hf hb hk (by decide) (by decide) (by decide) (by decide) ho) (b8 hB)
theorem ref_e {a : Nat} : FC_X8_refusesToWait X a = if xI X a 5 = 0 then (0, X) else (1, FC_X8_goOn (xwI (xwI X a 5 0) a 2 (-2)) a) := by
  rw [FC_X8_refusesToWait]; simp only [gLt_x]
/-- t comes to the second row of b -/
theorem w2_mj (h : Sim ad B S X) (hf : fre S t) (hb : 0 ≤ b ∧ b < 24) (hk : gA S 28 b = 1) (ho : gA S 31 b = t) : mInv (sA (sA (sA (sA (sA (sA (sA (sA S 18 t (gA S 29 b)) 19 t 1) 22 t 1) 13 t 2) 16 t b) 21 t 1) 34 (8 * b + gA S 35 b) t) 35 b (gA S 35 b + 1)) ∧ jIn (sA (sA (sA (sA (sA (sA (sA (sA S 18 t (gA S 29 b)) 19 t 1) 22 t 1) 13 t 2) 16 t b) 21 t 1) 34 (8 * b + gA S 35 b) t) 35 b (gA S 35 b + 1)) B (-1) := by
  have zo := h.2.1.1 b hb.1 hb.2
  rw [hk] at zo
  have f1 : ∀ k u, u ≠ t → k ≠ 34 → k ≠ 35 → gA (sA (sA (sA (sA (sA (sA (sA (sA S 18 t (gA S 29 b)) 19 t 1) 22 t 1) 13 t 2) 16 t b) 21 t 1) 34 (8 * b + gA S 35 b) t) 35 b (gA S 35 b + 1)) k u = gA S k u := fun k u hu a1 a2 => by simp [gA_sA, hu, a1, a2]
  have f2 : ∀ k q, k ≠ 18 → k ≠ 19 → k ≠ 22 → k ≠ 13 → k ≠ 16 → k ≠ 21 → k ≠ 34 → k ≠ 35 → gA (sA (sA (sA (sA (sA (sA (sA (sA S 18 t (gA S 29 b)) 19 t 1) 22 t 1) 13 t 2) 16 t b) 21 t 1) 34 (8 * b + gA S 35 b) t) 35 b (gA S 35 b + 1)) k q = gA S k q := fun k q a1 a2 a3 a4 a5 a6 a7 a8 => by simp [gA_sA, a1, a2, a3, a4, a5, a6, a7, a8]
  constructor
  · refine (w2_inv hb h.1 hf hk (fun u hu => f1 13 u hu (by decide) (by decide)) (by simp [gA_sA]) (fun u hu => f1 16 u hu (by decide) (by decide)) (by simp [gA_sA]) (fun u hu => f1 21 u hu (by decide) (by decide)) (by simp [gA_sA]) (fun u hu => f1 22 u hu (by decide) (by decide)) (by simp [gA_sA]) (fun q hq => by simp [gA_sA, hq]) (by simp [gA_sA]) (fun d hd => by simp [gA_sA, hd]) (by simp [gA_sA]) (fun k q hq => f2 k q (by omega) (by omega) (by omega) (by omega) (by omega) (by omega) (by omega) (by omega)) (fun _ => rfl)).1
  · refine j_w2 (t := t) (b := b) h.2.1 hf.2.2.2 (n17 h.2.1 hf.1 (Or.inl hf.2.1)) (fun u hu => f1 13 u hu (by decide) (by decide)) (by simp [gA_sA]) (fun u hu => f1 16 u hu (by decide) (by decide)) (fun u hu => f1 21 u hu (by decide) (by decide)) (by simp [gA_sA]) (fun u hu => f1 22 u hu (by decide) (by decide)) (fun u hu => f1 18 u hu (by decide) (by decide)) ?_ (fun u hu => f1 19 u hu (by decide) (by decide)) (by simp [gA_sA]) (fun k q hq => f2 k q (by omega) (by omega) (by omega) (by omega) (by omega) (by omega) (by omega) (by omega))
    simp only [gA_sA]; simp
    have hh := hf.1
    have := hf.1
    unfold jOb at zo
    clear h f1 f2 hf
    grind
theorem stand2_e (h : Rel ad (-1) S X) (hb : 0 ≤ b ∧ b < 24) (hk : gA S 28 b = 1) (hL : 0 ≤ gA S 35 b ∧ gA S 35 b < 8) : FC_X8_standIn (xwI X (ad 0 t) 9 (gA S 29 b)) (ad 0 t) (ad 5 b) (ad 2 b) = xwI (xwR (xwR (xwI (xwQ (xwI X (ad 0 t) 9 (gA S 29 b)) (ad 6 b) (gA S 35 b) (some (ad 0 t))) (ad 5 b) 0 (gA S 35 b + 1)) (ad 0 t) 8 (some (ad 5 b))) (ad 0 t) 7 (some (ad 2 b))) (ad 0 t) 1 2 := by
  have z2 := h.2.2.2.2.2.2.2.2.2.2.1 b hb.1 hb.2 hk
  have z3 : xR X (ad 5 b) 1 = some (ad 6 b) := (((h.2.2.2.2.2.2.2.2.1 b hb.1 hb.2).2 (by rw [hk]; decide)).2.2.2.2.2.2.1 hk).2.2.2.2
  have y1 : xI (xwI X (ad 0 t) 9 (gA S 29 b)) (ad 5 b) 0 = gA S 35 b := by rw [← z2.1]; simp [xI_I, inj_e h.1]
  rw [standIn_e, FC_X6_add, gLt_x, gLt_x, y1, xR_I, z3, Option.getD_some, if_neg (by clear h z2 z3; grind), gLt_x, gLt_x, gLt_x]
theorem s_l10 (h : Sim ad B S X) (hB : 1 ≤ B ∧ B ≤ 1000000000) (hf : fre S t) (hb : 0 ≤ b ∧ b < 24) (hk : gA S 28 b = 1) : Sim ad (B + 8) (fin t (gA S 15 t + 1) (G_atLock S t 10 b)) (FC_X4_perform X (ad 2 b) (ad 0 t) 11) := by
  by_cases ho : gA S 31 b = t
  · refine s_mono ?_ (b8 hB)
    obtain ⟨l3, l4, l5, l6⟩ := lck h.2.2 hb hk
    rw [FC_X4_perform, if_neg (by decide), if_neg (by decide), gLt_x, gLt_x, l3, (th0 h.2.2 hf.1).1, if_pos ho, if_neg (by decide), if_neg (by decide), if_neg (by decide), ref_e, (th0 h.2.2 hf.1).2.2.2.2]
    rw [G_atLock, if_neg (by decide), if_neg (by decide), if_pos ho, if_neg (by decide), if_pos rfl]
    have zo := h.2.1.1 b hb.1 hb.2
    rw [hk] at zo
    by_cases c : gA S 20 t = 0
    · rw [if_pos c, if_pos c, gC_p, if_pos rfl]
      repeat rw [gLt_x]
      rw [nar1, l5, xR_I, l6, Option.getD_some]
      have hL := roomW2 hb hf.1 h.1 hf.2.2.1
      have e35 : ∀ v1 v2 v3 v4 v5 v6 : Int32, gA (sA (sA (sA (sA (sA (sA S 18 t v1) 19 t v2) 22 t v3) 13 t v4) 16 t v5) 21 t v6) 35 b = gA S 35 b := fun _ _ _ _ _ _ => by simp [gA_sA]
      have e35b : ∀ v1 v2 v3 v4 v5 v6 i v7 : Int32, gA (sA (sA (sA (sA (sA (sA (sA S 18 t v1) 19 t v2) 22 t v3) 13 t v4) 16 t v5) 21 t v6) 34 i v7) 35 b = gA S 35 b := fun _ _ _ _ _ _ _ _ => by simp [gA_sA]
      rw [e35, e35b, fin_0]
      have eX := stand2_e (t := t) h.2.2 hb hk hL
      rw [eX]
      have r := Rel_w2 h.2.2 h.1 hb hL hf.2.2.2
      have mj := w2_mj h hf hb hk ho
      generalize xwI (xwR (xwR (xwI (xwQ (xwI X (ad 0 t) 9 (gA S 29 b)) (ad 6 b) (gA S 35 b) (some (ad 0 t))) (ad 5 b) 0 (gA S 35 b + 1)) (ad 0 t) 8 (some (ad 5 b))) (ad 0 t) 7 (some (ad 2 b))) (ad 0 t) 1 2 = X9 at r ⊢
      have k9 : gA (sA (sA (sA (sA (sA (sA (sA (sA S 18 t (gA S 29 b)) 19 t 1) 22 t 1) 13 t 2) 16 t b) 21 t 1) 34 (8 * b + gA S 35 b) t) 35 b (gA S 35 b + 1)) 28 b = 1 := by simpa [gA_sA] using hk
      generalize sA (sA (sA (sA (sA (sA (sA (sA S 18 t (gA S 29 b)) 19 t 1) 22 t 1) 13 t 2) 16 t b) 21 t 1) 34 (8 * b + gA S 35 b) t) 35 b (gA S 35 b + 1) = S9 at r mj k9 ⊢
      refine s_freed (v := gA S9 29 b) mj.1 mj.2 ?_ hB.1 hb k9
      rw [sA_self rfl]; exact r
    · rw [if_neg c, if_neg c, gC_p, if_neg (by decide)]
      simp only [gLt_x, nar0]
      have hf2 : fre (sA (sA S 20 t 0) 14 t (-2)) t := fre_14 (fre_20 hf)
      rw [fin_1 hf2.2.1]
      have z := s_go (s_14 (t := t) (v := -2) (s_20 (t := t) (v := 0) h)) hf2
      have e2 : gA (sA (sA S 20 t 0) 14 t (-2)) 15 t = gA S 15 t := by simp [gA_sA]
      rw [e2] at z
      exact z
  · exact s_mono (s_ln h hf hb hk (by decide) (by decide) (by decide) (by decide) ho) (b8 hB)
end ATL

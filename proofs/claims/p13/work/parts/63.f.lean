/-! both side by side: look, sync, drop -/
section PL
variable {ad : adT} {B : Int32} {S : mS} {X : xS} {t b : Int32}
/-- where one that waits stands -/
theorem w_at (h : Sim ad B S X) (ht : 0 ≤ t ∧ t < 8) (h13 : gA S 13 t = 2) : (0 ≤ gA S 16 t ∧ gA S 16 t < 24) ∧ gA S 28 (gA S 16 t) ≠ 0 ∧ xR X (ad 0 t) 7 = some (ad 2 (gA S 16 t)) ∧ xR X (ad 0 t) 8 = some (if gA S 21 t = 0 then ad 3 (gA S 16 t) else ad 5 (gA S 16 t)) ∧ (gA S 21 t ≠ 0 → gA S 28 (gA S 16 t) = 1) := by
  have b := (h.1.2.1 t ht.1 ht.2).2.1 h13
  by_cases q : gA S 21 t = 0
  · obtain ⟨i, i0, i1, i2⟩ := h.2.1.2.2.1 t (by clear h; grind) ht.1 ht.2 h13 q
    have p := h.2.2.2.2.2.2.2.1 (gA S 16 t) i b.1 b.2 i0 i1
    rw [i2] at p
    rw [if_pos q]
    exact ⟨b, (h.2.1.1 _ b.1 b.2).2.2.1 (by clear h p; grind), p.1, p.2, fun z => absurd q z⟩
  · obtain ⟨j, j0, j1, j2⟩ := ((h.1.2.1 t ht.1 ht.2).2.2 q).2
    have k := (h.1.2.2.2.2.2.2.1 (gA S 16 t) j b.1 b.2 j0 j1).2.2.2.2.2.2
    have p := h.2.2.2.2.2.2.2.2.2.1 t ht.1 ht.2 q
    rw [if_neg q]
    exact ⟨b, by rw [k]; decide, p.1, p.2, fun _ => k⟩
theorem onum (h : Rel ad (-1) S X) (hb : 0 ≤ b ∧ b < 24) (hk : gA S 28 b ≠ 0) : xI X (ad 2 b) 0 = b := ((h.2.2.2.2.2.2.2.2.1 b hb.1 hb.2).2 hk).2.2.1
theorem t_look {i w : Int32} (h : Sim ad B S X) : Both ad B (G_look S i w) (FC_X12_look X (ad 8 0) i w) := by
  rw [G_look, gLt_x, FC_X12_look, strandAt_e h.2.2]
  by_cases c : 0 ≤ i ∧ i ≤ 7
  · rw [if_pos c, in_1 c, if_neg (by decide), gLt_x, gT_0]
    have ht : 0 ≤ i ∧ i < 8 := by clear h; grind
    by_cases d : 0 ≤ w ∧ w ≤ 5
    · rw [in_1 d, if_neg (by decide), gLt_x, if_neg (show ¬ w < 0 by clear h; grind), if_pos d.2]
      have s1 := s_I (k := 0) (v := 0) h (by decide)
      have e0 : gI (sI S 0 0) 0 = 0 := by simp [gI_sI]
      generalize sI S 0 0 = S1 at s1 e0 ⊢
      have z := s1.2.2.2.2.2.1 i ht.1 ht.2
      have e := i32n d.1
      have hn : w.toNatClampNeg ≤ 5 := by
        have a1 : w.toInt ≤ 5 := Int32.le_iff_toInt_le.mp d.2
        simp only [Int32.toNatClampNeg]; omega
      generalize hN : w.toNatClampNeg = n at e hn
      rcases (show n = 0 ∨ n = 1 ∨ n = 2 ∨ n = 3 ∨ n = 4 ∨ n = 5 by omega) with rfl | rfl | rfl | rfl | rfl | rfl
      · replace e : w = 0 := e.trans (by decide)
        subst e
        rw [if_pos rfl, if_neg (by decide), if_pos (by decide), gLt_x, z.2.1]
        exact ⟨e0.symm, fun _ => rfl, s1⟩
      · replace e : w = 1 := e.trans (by decide)
        subst e
        rw [if_neg (by decide), if_pos rfl, if_neg (by decide), if_neg (by decide), if_pos (by decide), gLt_x, z.2.2.1]
        exact ⟨e0.symm, fun _ => rfl, s1⟩
      · replace e : w = 2 := e.trans (by decide)
        subst e
        rw [if_neg (by decide), if_neg (by decide), if_pos rfl, if_neg (show ¬ tabT 26 108 0 4 [34, 39, 44, 68, 95] 2 = 134 by decide), if_neg (show ¬ tabT 26 108 0 4 [34, 39, 44, 68, 95] 2 = 60 by decide), if_neg (show ¬ tabT 26 108 0 4 [34, 39, 44, 68, 95] 2 = 65 by decide), if_pos (show tabT 26 108 0 4 [34, 39, 44, 68, 95] 2 = 70 by decide), gLt_x, z.2.1, gLt_x, z.2.2.2.1, G_look_J77]
        by_cases y : gA S1 13 i = 0
        · rw [if_pos y, if_pos y]; exact ⟨e0.symm, fun _ => rfl, s1⟩
        · rw [if_neg y, if_neg y]
          by_cases y4 : gA S1 13 i = 4
          · rw [if_pos y4, if_pos y4]; exact ⟨e0.symm, fun _ => rfl, s1⟩
          · rw [if_neg y4, if_neg y4]; exact ⟨e0.symm, fun _ => rfl, s1⟩
      · replace e : w = 3 := e.trans (by decide)
        subst e
        rw [if_neg (by decide), if_neg (by decide), if_neg (by decide), if_pos rfl, if_neg (show ¬ tabT 26 108 0 4 [34, 39, 44, 68, 95] 3 = 134 by decide), if_neg (show ¬ tabT 26 108 0 4 [34, 39, 44, 68, 95] 3 = 60 by decide), if_neg (show ¬ tabT 26 108 0 4 [34, 39, 44, 68, 95] 3 = 65 by decide), if_neg (show ¬ tabT 26 108 0 4 [34, 39, 44, 68, 95] 3 = 70 by decide), if_pos (show tabT 26 108 0 4 [34, 39, 44, 68, 95] 3 = 94 by decide), gLt_x, z.2.1]
        by_cases y : gA S1 13 i = 2
        · obtain ⟨w1, w2, w3, -, -⟩ := w_at s1 ht y
          rw [if_pos y, if_pos y, w3, gO_1, gLt_x, onum s1.2.2 w1 w2]
          exact ⟨e0.symm, fun _ => rfl, s1⟩
        · rw [if_neg y, if_neg y]; exact ⟨e0.symm, fun _ => rfl, s1⟩
      · replace e : w = 4 := e.trans (by decide)
        subst e
        rw [if_neg (by decide), if_neg (by decide), if_neg (by decide), if_neg (by decide), if_pos rfl, if_neg (show ¬ tabT 26 108 0 4 [34, 39, 44, 68, 95] 4 = 134 by decide), if_neg (show ¬ tabT 26 108 0 4 [34, 39, 44, 68, 95] 4 = 60 by decide), if_neg (show ¬ tabT 26 108 0 4 [34, 39, 44, 68, 95] 4 = 65 by decide), if_neg (show ¬ tabT 26 108 0 4 [34, 39, 44, 68, 95] 4 = 70 by decide), if_neg (show ¬ tabT 26 108 0 4 [34, 39, 44, 68, 95] 4 = 94 by decide), gLt_x, z.2.2.2.2.2.1]
        by_cases y : gA S1 20 i = 0
        · rw [if_pos y, if_pos y]; exact ⟨e0.symm, fun _ => rfl, s1⟩
        · rw [if_neg y, if_neg y]; exact ⟨e0.symm, fun _ => rfl, s1⟩
      · replace e : w = 5 := e.trans (by decide)
        subst e
        rw [if_neg (by decide), if_neg (by decide), if_neg (by decide), if_neg (by decide), if_neg (by decide), if_pos (show tabT 26 108 0 4 [34, 39, 44, 68, 95] 5 = 134 by decide), gLt_x, z.2.2.2.2.1]
        by_cases y : gA S1 13 i = 5
        · rw [if_pos y]; exact ⟨e0.symm, fun _ => rfl, s1⟩
        · rw [if_neg y]
          have q : gA S1 17 i = 0 := by
            by_cases q : gA S1 17 i = 0
            · exact q
            · exact absurd ((s1.2.1.2.1 i ht.1 ht.2).2.2.1 q) y
          rw [q]; exact ⟨e0.symm, fun _ => rfl, s1⟩
    · rw [in_0 d, if_pos rfl, G_look_J19, refuse_e, gC_p]
      by_cases y : w < 0
      · rw [if_pos y]; exact b_ref h (by decide)
      · rw [if_neg y, if_neg (show ¬ w ≤ 5 by clear h; grind)]; exact b_ref h (by decide)
  · rw [if_neg c, in_0 c, if_pos rfl, G_look_J19, refuse_e, gC_p, gT_1]
    exact b_ref h (by decide)
theorem ob9 (h : Rel ad (-1) S X) (hb : 0 ≤ b ∧ b < 24) (hk : gA S 28 b ≠ 0) : xR X (ad 2 b) 2 = some (ad 3 b) ∧ xI X (ad 3 b) 0 = gA S 33 b := ⟨ob2 h hb hk, rsz h hb hk⟩
theorem t_sy1_0 (h : Sim ad B S X) (hb : 0 ≤ b ∧ b < 24) (hk : gA S 28 b = 1) : Both ad B (G_sync S b 0) (FC_X12_sync X (ad 8 0) b 0) := by
  have hk0 : gA S 28 b ≠ 0 := by rw [hk]; decide
  have hc := (xcl h.2.2 hb hk0).1
  rw [hk, show kC9 1 = 3 by decide] at hc
  have s1 := s_I (k := 0) (v := 0) h (by decide)
  have e0 : gI (sI S 0 0) 0 = 0 := by simp [gI_sI]
  rw [FC_X12_sync, R_sync h.2.2, if_pos (show 0 ≤ b ∧ b < 24 ∧ gA S 28 b ≠ 0 from ⟨hb.1, hb.2, hk0⟩), gC_p, gO_1, if_neg (by decide), if_pos (by decide), hc, if_neg (by decide), if_neg (by decide), if_neg (by decide), if_pos (by decide), FC_X4_tells, if_neg (by decide), gC_p, if_neg (by decide), if_neg (by decide), if_pos (by decide), FC_X4_value, gLt_x, (lck h.2.2 hb hk).2.2.1, gC_p]
  rw [G_sync, gLt_x, isT hb hk0, if_neg (by decide), gLt_x, in_1 (by decide), if_neg (by decide), gLt_x, hk, if_neg (by decide), G_sync_J54, if_neg (by decide), G_sync_J64, if_neg (by decide), G_sync_J81, gLt_x, if_neg (by decide), if_neg (by decide), if_neg (by decide), if_neg (by decide), if_neg (by decide), if_neg (by decide), if_neg (by decide)]
  exact ⟨e0.symm, fun _ => rfl, s1⟩
theorem t_sy1_1 (h : Sim ad B S X) (hb : 0 ≤ b ∧ b < 24) (hk : gA S 28 b = 1) : Both ad B (G_sync S b 1) (FC_X12_sync X (ad 8 0) b 1) := by
  have hk0 : gA S 28 b ≠ 0 := by rw [hk]; decide
  have hc := (xcl h.2.2 hb hk0).1
  rw [hk, show kC9 1 = 3 by decide] at hc
  have s1 := s_I (k := 0) (v := 0) h (by decide)
  have e0 : gI (sI S 0 0) 0 = 0 := by simp [gI_sI]
  rw [FC_X12_sync, R_sync h.2.2, if_pos (show 0 ≤ b ∧ b < 24 ∧ gA S 28 b ≠ 0 from ⟨hb.1, hb.2, hk0⟩), gC_p, gO_1, if_neg (by decide), if_pos (by decide), hc, if_neg (by decide), if_neg (by decide), if_neg (by decide), if_pos (by decide), FC_X4_tells, if_neg (by decide), gC_p, if_neg (by decide), if_neg (by decide), if_neg (by decide), gLt_x, gLt_x, (ob9 h.2.2 hb hk0).1, Option.getD_some, (ob9 h.2.2 hb hk0).2]
  rw [G_sync, gLt_x, isT hb hk0, if_neg (by decide), gLt_x, in_1 (by decide), if_neg (by decide), gLt_x, hk, if_neg (by decide), G_sync_J54, if_neg (by decide), G_sync_J64, if_neg (by decide), G_sync_J81, gLt_x, if_pos (by decide)]
  exact ⟨e0.symm, fun _ => rfl, s1⟩
theorem t_sy1_2 (h : Sim ad B S X) (hb : 0 ≤ b ∧ b < 24) (hk : gA S 28 b = 1) : Both ad B (G_sync S b 2) (FC_X12_sync X (ad 8 0) b 2) := by
  have hk0 : gA S 28 b ≠ 0 := by rw [hk]; decide
  have hc := (xcl h.2.2 hb hk0).1
  rw [hk, show kC9 1 = 3 by decide] at hc
  have s1 := s_I (k := 0) (v := 0) h (by decide)
  have e0 : gI (sI S 0 0) 0 = 0 := by simp [gI_sI]
  rw [FC_X12_sync, R_sync h.2.2, if_pos (show 0 ≤ b ∧ b < 24 ∧ gA S 28 b ≠ 0 from ⟨hb.1, hb.2, hk0⟩), gC_p, gO_1, if_neg (by decide), if_pos (by decide), hc, if_neg (by decide), if_neg (by decide), if_neg (by decide), if_pos (by decide), FC_X4_tells, if_neg (by decide), gC_p, if_neg (by decide), if_pos (by decide), FC_X4_detail, if_pos (by decide), gLt_x, (lck h.2.2 hb hk).1, gC_p]
  rw [G_sync, gLt_x, isT hb hk0, if_neg (by decide), gLt_x, in_1 (by decide), if_neg (by decide), gLt_x, hk, if_pos (by decide), if_pos (by decide), G_sync_J54, if_neg (by decide), G_sync_J64, if_neg (by decide), G_sync_J81, gLt_x, if_neg (by decide), if_pos (by decide)]
  exact ⟨e0.symm, fun _ => rfl, s1⟩
theorem t_sy1_3 (h : Sim ad B S X) (hb : 0 ≤ b ∧ b < 24) (hk : gA S 28 b = 1) : Both ad B (G_sync S b 3) (FC_X12_sync X (ad 8 0) b 3) := by
  have hk0 : gA S 28 b ≠ 0 := by rw [hk]; decide
  have hc := (xcl h.2.2 hb hk0).1
  rw [hk, show kC9 1 = 3 by decide] at hc
  have s1 := s_I (k := 0) (v := 0) h (by decide)
  have e0 : gI (sI S 0 0) 0 = 0 := by simp [gI_sI]
  rw [FC_X12_sync, R_sync h.2.2, if_pos (show 0 ≤ b ∧ b < 24 ∧ gA S 28 b ≠ 0 from ⟨hb.1, hb.2, hk0⟩), gC_p, gO_1, if_neg (by decide), if_pos (by decide), hc, if_neg (by decide), if_neg (by decide), if_neg (by decide), if_pos (by decide), FC_X4_tells, if_neg (by decide), gC_p, if_neg (by decide), if_pos (by decide), FC_X4_detail, if_neg (by decide), gLt_x, gLt_x, (lck h.2.2 hb hk).2.2.2, Option.getD_some, (h.2.2.2.2.2.2.2.2.2.2.2.2.1 b hb.1 hb.2 hk).1, gC_p]
  rw [G_sync, gLt_x, isT hb hk0, if_neg (by decide), gLt_x, in_1 (by decide), if_neg (by decide), gLt_x, hk, if_neg (by decide), G_sync_J54, if_pos (by decide), if_pos (by decide), G_sync_J64, if_neg (by decide), G_sync_J81, gLt_x, if_neg (by decide), if_neg (by decide), if_pos (by decide)]
  exact ⟨e0.symm, fun _ => rfl, s1⟩
theorem t_sy1_4 (h : Sim ad B S X) (hb : 0 ≤ b ∧ b < 24) (hk : gA S 28 b = 1) : Both ad B (G_sync S b 4) (FC_X12_sync X (ad 8 0) b 4) := by
  have hk0 : gA S 28 b ≠ 0 := by rw [hk]; decide
  have hc := (xcl h.2.2 hb hk0).1
  rw [hk, show kC9 1 = 3 by decide] at hc
  have s1 := s_I (k := 0) (v := 0) h (by decide)
  have e0 : gI (sI S 0 0) 0 = 0 := by simp [gI_sI]
  rw [FC_X12_sync, R_sync h.2.2, if_pos (show 0 ≤ b ∧ b < 24 ∧ gA S 28 b ≠ 0 from ⟨hb.1, hb.2, hk0⟩), gC_p, gO_1, if_neg (by decide), if_pos (by decide), hc, if_neg (by decide), if_neg (by decide), if_neg (by decide), if_pos (by decide), FC_X4_tells, if_pos (by decide), gC_p, if_pos rfl]
  rw [G_sync, gLt_x, isT hb hk0, if_neg (by decide), gLt_x, in_1 (by decide), if_neg (by decide), gLt_x, hk, if_neg (by decide), G_sync_J54, if_neg (by decide), G_sync_J64, if_pos (by decide), if_neg (by decide), G_sync_J74, refuse_e, gC_p]
  exact b_ref h (by decide)
theorem t_sy2_0 (h : Sim ad B S X) (hb : 0 ≤ b ∧ b < 24) (hk : gA S 28 b = 2) : Both ad B (G_sync S b 0) (FC_X12_sync X (ad 8 0) b 0) := by
  have hk0 : gA S 28 b ≠ 0 := by rw [hk]; decide
  have hc := (xcl h.2.2 hb hk0).1
  rw [hk, show kC9 2 = 6 by decide] at hc
  have s1 := s_I (k := 0) (v := 0) h (by decide)
  have e0 : gI (sI S 0 0) 0 = 0 := by simp [gI_sI]
  rw [FC_X12_sync, R_sync h.2.2, if_pos (show 0 ≤ b ∧ b < 24 ∧ gA S 28 b ≠ 0 from ⟨hb.1, hb.2, hk0⟩), gC_p, gO_1, if_neg (by decide), if_pos (by decide), hc, if_neg (by decide), if_neg (by decide), if_neg (by decide), if_neg (by decide), if_neg (by decide), FC_X9_tells, if_neg (by decide), gC_p, if_neg (by decide), if_neg (by decide), if_pos (by decide), FC_X7_value, gLt_x, hgt h.2.2 hb (Or.inl hk), gC_p]
  rw [G_sync, gLt_x, isT hb hk0, if_neg (by decide), gLt_x, in_1 (by decide), if_neg (by decide), gLt_x, hk, if_neg (by decide), G_sync_J54, if_neg (by decide), G_sync_J64, if_neg (by decide), G_sync_J81, gLt_x, if_neg (by decide), if_neg (by decide), if_neg (by decide), if_neg (by decide), if_neg (by decide), if_neg (by decide), if_neg (by decide)]
  exact ⟨e0.symm, fun _ => rfl, s1⟩
theorem t_sy2_1 (h : Sim ad B S X) (hb : 0 ≤ b ∧ b < 24) (hk : gA S 28 b = 2) : Both ad B (G_sync S b 1) (FC_X12_sync X (ad 8 0) b 1) := by
  have hk0 : gA S 28 b ≠ 0 := by rw [hk]; decide
  have hc := (xcl h.2.2 hb hk0).1
  rw [hk, show kC9 2 = 6 by decide] at hc
  have s1 := s_I (k := 0) (v := 0) h (by decide)
  have e0 : gI (sI S 0 0) 0 = 0 := by simp [gI_sI]
  rw [FC_X12_sync, R_sync h.2.2, if_pos (show 0 ≤ b ∧ b < 24 ∧ gA S 28 b ≠ 0 from ⟨hb.1, hb.2, hk0⟩), gC_p, gO_1, if_neg (by decide), if_pos (by decide), hc, if_neg (by decide), if_neg (by decide), if_neg (by decide), if_neg (by decide), if_neg (by decide), FC_X9_tells, if_neg (by decide), gC_p, if_neg (by decide), if_neg (by decide), if_neg (by decide), gLt_x, gLt_x, (ob9 h.2.2 hb hk0).1, Option.getD_some, (ob9 h.2.2 hb hk0).2]
  rw [G_sync, gLt_x, isT hb hk0, if_neg (by decide), gLt_x, in_1 (by decide), if_neg (by decide), gLt_x, hk, if_neg (by decide), G_sync_J54, if_neg (by decide), G_sync_J64, if_neg (by decide), G_sync_J81, gLt_x, if_pos (by decide)]
  exact ⟨e0.symm, fun _ => rfl, s1⟩
theorem t_sy2_2 (h : Sim ad B S X) (hb : 0 ≤ b ∧ b < 24) (hk : gA S 28 b = 2) : Both ad B (G_sync S b 2) (FC_X12_sync X (ad 8 0) b 2) := by
  have hk0 : gA S 28 b ≠ 0 := by rw [hk]; decide
  have hc := (xcl h.2.2 hb hk0).1
  rw [hk, show kC9 2 = 6 by decide] at hc
  have s1 := s_I (k := 0) (v := 0) h (by decide)
  have e0 : gI (sI S 0 0) 0 = 0 := by simp [gI_sI]
  rw [FC_X12_sync, R_sync h.2.2, if_pos (show 0 ≤ b ∧ b < 24 ∧ gA S 28 b ≠ 0 from ⟨hb.1, hb.2, hk0⟩), gC_p, gO_1, if_neg (by decide), if_pos (by decide), hc, if_neg (by decide), if_neg (by decide), if_neg (by decide), if_neg (by decide), if_neg (by decide), FC_X9_tells, if_pos (by decide), gC_p, if_pos rfl]
  rw [G_sync, gLt_x, isT hb hk0, if_neg (by decide), gLt_x, in_1 (by decide), if_neg (by decide), gLt_x, hk, if_pos (by decide), if_neg (by decide), if_neg (by decide), G_sync_J74, refuse_e, gC_p]
  exact b_ref h (by decide)
theorem t_sy2_3 (h : Sim ad B S X) (hb : 0 ≤ b ∧ b < 24) (hk : gA S 28 b = 2) : Both ad B (G_sync S b 3) (FC_X12_sync X (ad 8 0) b 3) := by
  have hk0 : gA S 28 b ≠ 0 := by rw [hk]; decide
  have hc := (xcl h.2.2 hb hk0).1
  rw [hk, show kC9 2 = 6 by decide] at hc
  have s1 := s_I (k := 0) (v := 0) h (by decide)
  have e0 : gI (sI S 0 0) 0 = 0 := by simp [gI_sI]
  rw [FC_X12_sync, R_sync h.2.2, if_pos (show 0 ≤ b ∧ b < 24 ∧ gA S 28 b ≠ 0 from ⟨hb.1, hb.2, hk0⟩), gC_p, gO_1, if_neg (by decide), if_pos (by decide), hc, if_neg (by decide), if_neg (by decide), if_neg (by decide), if_neg (by decide), if_neg (by decide), FC_X9_tells, if_pos (by decide), gC_p, if_pos rfl]
  rw [G_sync, gLt_x, isT hb hk0, if_neg (by decide), gLt_x, in_1 (by decide), if_neg (by decide), gLt_x, hk, if_neg (by decide), G_sync_J54, if_pos (by decide), if_neg (by decide), G_sync_J74, refuse_e, gC_p]
  exact b_ref h (by decide)
theorem t_sy2_4 (h : Sim ad B S X) (hb : 0 ≤ b ∧ b < 24) (hk : gA S 28 b = 2) : Both ad B (G_sync S b 4) (FC_X12_sync X (ad 8 0) b 4) := by
  have hk0 : gA S 28 b ≠ 0 := by rw [hk]; decide
  have hc := (xcl h.2.2 hb hk0).1
  rw [hk, show kC9 2 = 6 by decide] at hc
  have s1 := s_I (k := 0) (v := 0) h (by decide)
  have e0 : gI (sI S 0 0) 0 = 0 := by simp [gI_sI]
  rw [FC_X12_sync, R_sync h.2.2, if_pos (show 0 ≤ b ∧ b < 24 ∧ gA S 28 b ≠ 0 from ⟨hb.1, hb.2, hk0⟩), gC_p, gO_1, if_neg (by decide), if_pos (by decide), hc, if_neg (by decide), if_neg (by decide), if_neg (by decide), if_neg (by decide), if_neg (by decide), FC_X9_tells, if_pos (by decide), gC_p, if_pos rfl]
  rw [G_sync, gLt_x, isT hb hk0, if_neg (by decide), gLt_x, in_1 (by decide), if_neg (by decide), gLt_x, hk, if_neg (by decide), G_sync_J54, if_neg (by decide), G_sync_J64, if_pos (by decide), if_neg (by decide), G_sync_J74, refuse_e, gC_p]
  exact b_ref h (by decide)
theorem t_sy3_0 (h : Sim ad B S X) (hb : 0 ≤ b ∧ b < 24) (hk : gA S 28 b = 3) : Both ad B (G_sync S b 0) (FC_X12_sync X (ad 8 0) b 0) := by
  have hk0 : gA S 28 b ≠ 0 := by rw [hk]; decide
  have hc := (xcl h.2.2 hb hk0).1
  rw [hk, show kC9 3 = 2 by decide] at hc
  have s1 := s_I (k := 0) (v := 0) h (by decide)
  have e0 : gI (sI S 0 0) 0 = 0 := by simp [gI_sI]
  rw [FC_X12_sync, R_sync h.2.2, if_pos (show 0 ≤ b ∧ b < 24 ∧ gA S 28 b ≠ 0 from ⟨hb.1, hb.2, hk0⟩), gC_p, gO_1, if_neg (by decide), if_pos (by decide), hc, if_neg (by decide), if_neg (by decide), if_pos (by decide), FC_X9_tells, if_neg (by decide), gC_p, if_neg (by decide), if_neg (by decide), if_pos (by decide), FC_X3_value, gLt_x, (xcl h.2.2 hb hk0).2, hk, if_pos (by decide), gLt_x, hgt h.2.2 hb (Or.inr (Or.inl hk)), gC_p]
  rw [G_sync, gLt_x, isT hb hk0, if_neg (by decide), gLt_x, in_1 (by decide), if_neg (by decide), gLt_x, hk, if_neg (by decide), G_sync_J54, if_neg (by decide), G_sync_J64, if_neg (by decide), G_sync_J81, gLt_x, if_neg (by decide), if_neg (by decide), if_neg (by decide), if_neg (by decide), if_neg (by decide), if_neg (by decide), if_neg (by decide)]
  exact ⟨e0.symm, fun _ => rfl, s1⟩
theorem t_sy3_1 (h : Sim ad B S X) (hb : 0 ≤ b ∧ b < 24) (hk : gA S 28 b = 3) : Both ad B (G_sync S b 1) (FC_X12_sync X (ad 8 0) b 1) := by
  have hk0 : gA S 28 b ≠ 0 := by rw [hk]; decide
  have hc := (xcl h.2.2 hb hk0).1
  rw [hk, show kC9 3 = 2 by decide] at hc
  have s1 := s_I (k := 0) (v := 0) h (by decide)
  have e0 : gI (sI S 0 0) 0 = 0 := by simp [gI_sI]
  rw [FC_X12_sync, R_sync h.2.2, if_pos (show 0 ≤ b ∧ b < 24 ∧ gA S 28 b ≠ 0 from ⟨hb.1, hb.2, hk0⟩), gC_p, gO_1, if_neg (by decide), if_pos (by decide), hc, if_neg (by decide), if_neg (by decide), if_pos (by decide), FC_X9_tells, if_neg (by decide), gC_p, if_neg (by decide), if_neg (by decide), if_neg (by decide), gLt_x, gLt_x, (ob9 h.2.2 hb hk0).1, Option.getD_some, (ob9 h.2.2 hb hk0).2]
  rw [G_sync, gLt_x, isT hb hk0, if_neg (by decide), gLt_x, in_1 (by decide), if_neg (by decide), gLt_x, hk, if_neg (by decide), G_sync_J54, if_neg (by decide), G_sync_J64, if_neg (by decide), G_sync_J81, gLt_x, if_pos (by decide)]
  exact ⟨e0.symm, fun _ => rfl, s1⟩
theorem t_sy3_2 (h : Sim ad B S X) (hb : 0 ≤ b ∧ b < 24) (hk : gA S 28 b = 3) : Both ad B (G_sync S b 2) (FC_X12_sync X (ad 8 0) b 2) := by
  have hk0 : gA S 28 b ≠ 0 := by rw [hk]; decide
  have hc := (xcl h.2.2 hb hk0).1
  rw [hk, show kC9 3 = 2 by decide] at hc
  have s1 := s_I (k := 0) (v := 0) h (by decide)
  have e0 : gI (sI S 0 0) 0 = 0 := by simp [gI_sI]
  rw [FC_X12_sync, R_sync h.2.2, if_pos (show 0 ≤ b ∧ b < 24 ∧ gA S 28 b ≠ 0 from ⟨hb.1, hb.2, hk0⟩), gC_p, gO_1, if_neg (by decide), if_pos (by decide), hc, if_neg (by decide), if_neg (by decide), if_pos (by decide), FC_X9_tells, if_pos (by decide), gC_p, if_pos rfl]
  rw [G_sync, gLt_x, isT hb hk0, if_neg (by decide), gLt_x, in_1 (by decide), if_neg (by decide), gLt_x, hk, if_pos (by decide), if_neg (by decide), if_neg (by decide), G_sync_J74, refuse_e, gC_p]
  exact b_ref h (by decide)
theorem t_sy3_3 (h : Sim ad B S X) (hb : 0 ≤ b ∧ b < 24) (hk : gA S 28 b = 3) : Both ad B (G_sync S b 3) (FC_X12_sync X (ad 8 0) b 3) := by
  have hk0 : gA S 28 b ≠ 0 := by rw [hk]; decide
  have hc := (xcl h.2.2 hb hk0).1
  rw [hk, show kC9 3 = 2 by decide] at hc
  have s1 := s_I (k := 0) (v := 0) h (by decide)
  have e0 : gI (sI S 0 0) 0 = 0 := by simp [gI_sI]
  rw [FC_X12_sync, R_sync h.2.2, if_pos (show 0 ≤ b ∧ b < 24 ∧ gA S 28 b ≠ 0 from ⟨hb.1, hb.2, hk0⟩), gC_p, gO_1, if_neg (by decide), if_pos (by decide), hc, if_neg (by decide), if_neg (by decide), if_pos (by decide), FC_X9_tells, if_pos (by decide), gC_p, if_pos rfl]
  rw [G_sync, gLt_x, isT hb hk0, if_neg (by decide), gLt_x, in_1 (by decide), if_neg (by decide), gLt_x, hk, if_neg (by decide), G_sync_J54, if_pos (by decide), if_neg (by decide), G_sync_J74, refuse_e, gC_p]
  exact b_ref h (by decide)
theorem t_sy3_4 (h : Sim ad B S X) (hb : 0 ≤ b ∧ b < 24) (hk : gA S 28 b = 3) : Both ad B (G_sync S b 4) (FC_X12_sync X (ad 8 0) b 4) := by
  have hk0 : gA S 28 b ≠ 0 := by rw [hk]; decide
  have hc := (xcl h.2.2 hb hk0).1
  rw [hk, show kC9 3 = 2 by decide] at hc
  have s1 := s_I (k := 0) (v := 0) h (by decide)
  have e0 : gI (sI S 0 0) 0 = 0 := by simp [gI_sI]
  rw [FC_X12_sync, R_sync h.2.2, if_pos (show 0 ≤ b ∧ b < 24 ∧ gA S 28 b ≠ 0 from ⟨hb.1, hb.2, hk0⟩), gC_p, gO_1, if_neg (by decide), if_pos (by decide), hc, if_neg (by decide), if_neg (by decide), if_pos (by decide), FC_X9_tells, if_pos (by decide), gC_p, if_pos rfl]
  rw [G_sync, gLt_x, isT hb hk0, if_neg (by decide), gLt_x, in_1 (by decide), if_neg (by decide), gLt_x, hk, if_neg (by decide), G_sync_J54, if_neg (by decide), G_sync_J64, if_pos (by decide), if_neg (by decide), G_sync_J74, refuse_e, gC_p]
  exact b_ref h (by decide)
theorem t_sy4_0 (h : Sim ad B S X) (hb : 0 ≤ b ∧ b < 24) (hk : gA S 28 b = 4) : Both ad B (G_sync S b 0) (FC_X12_sync X (ad 8 0) b 0) := by
  have hk0 : gA S 28 b ≠ 0 := by rw [hk]; decide
  have hc := (xcl h.2.2 hb hk0).1
  rw [hk, show kC9 4 = 2 by decide] at hc
  have s1 := s_I (k := 0) (v := 0) h (by decide)
  have e0 : gI (sI S 0 0) 0 = 0 := by simp [gI_sI]
  rw [FC_X12_sync, R_sync h.2.2, if_pos (show 0 ≤ b ∧ b < 24 ∧ gA S 28 b ≠ 0 from ⟨hb.1, hb.2, hk0⟩), gC_p, gO_1, if_neg (by decide), if_pos (by decide), hc, if_neg (by decide), if_neg (by decide), if_pos (by decide), FC_X9_tells, if_neg (by decide), gC_p, if_neg (by decide), if_neg (by decide), if_pos (by decide), FC_X3_value, gLt_x, (xcl h.2.2 hb hk0).2, hk, if_neg (by decide), gLt_x, gLt_x, (ob9 h.2.2 hb hk0).1, Option.getD_some, (ob9 h.2.2 hb hk0).2, gC_p]
  rw [G_sync, gLt_x, isT hb hk0, if_neg (by decide), gLt_x, in_1 (by decide), if_neg (by decide), gLt_x, hk, if_neg (by decide), G_sync_J54, if_neg (by decide), G_sync_J64, if_neg (by decide), G_sync_J81, gLt_x, if_neg (by decide), if_neg (by decide), if_neg (by decide), if_neg (by decide), if_pos (by decide)]
  exact ⟨e0.symm, fun _ => rfl, s1⟩
theorem t_sy4_1 (h : Sim ad B S X) (hb : 0 ≤ b ∧ b < 24) (hk : gA S 28 b = 4) : Both ad B (G_sync S b 1) (FC_X12_sync X (ad 8 0) b 1) := by
  have hk0 : gA S 28 b ≠ 0 := by rw [hk]; decide
  have hc := (xcl h.2.2 hb hk0).1
  rw [hk, show kC9 4 = 2 by decide] at hc
  have s1 := s_I (k := 0) (v := 0) h (by decide)
  have e0 : gI (sI S 0 0) 0 = 0 := by simp [gI_sI]
  rw [FC_X12_sync, R_sync h.2.2, if_pos (show 0 ≤ b ∧ b < 24 ∧ gA S 28 b ≠ 0 from ⟨hb.1, hb.2, hk0⟩), gC_p, gO_1, if_neg (by decide), if_pos (by decide), hc, if_neg (by decide), if_neg (by decide), if_pos (by decide), FC_X9_tells, if_neg (by decide), gC_p, if_neg (by decide), if_neg (by decide), if_neg (by decide), gLt_x, gLt_x, (ob9 h.2.2 hb hk0).1, Option.getD_some, (ob9 h.2.2 hb hk0).2]
  rw [G_sync, gLt_x, isT hb hk0, if_neg (by decide), gLt_x, in_1 (by decide), if_neg (by decide), gLt_x, hk, if_neg (by decide), G_sync_J54, if_neg (by decide), G_sync_J64, if_neg (by decide), G_sync_J81, gLt_x, if_pos (by decide)]
  exact ⟨e0.symm, fun _ => rfl, s1⟩
theorem t_sy4_2 (h : Sim ad B S X) (hb : 0 ≤ b ∧ b < 24) (hk : gA S 28 b = 4) : Both ad B (G_sync S b 2) (FC_X12_sync X (ad 8 0) b 2) := by
  have hk0 : gA S 28 b ≠ 0 := by rw [hk]; decide
  have hc := (xcl h.2.2 hb hk0).1
  rw [hk, show kC9 4 = 2 by decide] at hc
  have s1 := s_I (k := 0) (v := 0) h (by decide)
  have e0 : gI (sI S 0 0) 0 = 0 := by simp [gI_sI]
  rw [FC_X12_sync, R_sync h.2.2, if_pos (show 0 ≤ b ∧ b < 24 ∧ gA S 28 b ≠ 0 from ⟨hb.1, hb.2, hk0⟩), gC_p, gO_1, if_neg (by decide), if_pos (by decide), hc, if_neg (by decide), if_neg (by decide), if_pos (by decide), FC_X9_tells, if_pos (by decide), gC_p, if_pos rfl]
  rw [G_sync, gLt_x, isT hb hk0, if_neg (by decide), gLt_x, in_1 (by decide), if_neg (by decide), gLt_x, hk, if_pos (by decide), if_neg (by decide), if_neg (by decide), G_sync_J74, refuse_e, gC_p]
  exact b_ref h (by decide)
theorem t_sy4_3 (h : Sim ad B S X) (hb : 0 ≤ b ∧ b < 24) (hk : gA S 28 b = 4) : Both ad B (G_sync S b 3) (FC_X12_sync X (ad 8 0) b 3) := by
  have hk0 : gA S 28 b ≠ 0 := by rw [hk]; decide
  have hc := (xcl h.2.2 hb hk0).1
  rw [hk, show kC9 4 = 2 by decide] at hc
  have s1 := s_I (k := 0) (v := 0) h (by decide)
  have e0 : gI (sI S 0 0) 0 = 0 := by simp [gI_sI]
  rw [FC_X12_sync, R_sync h.2.2, if_pos (show 0 ≤ b ∧ b < 24 ∧ gA S 28 b ≠ 0 from ⟨hb.1, hb.2, hk0⟩), gC_p, gO_1, if_neg (by decide), if_pos (by decide), hc, if_neg (by decide), if_neg (by decide), if_pos (by decide), FC_X9_tells, if_pos (by decide), gC_p, if_pos rfl]
  rw [G_sync, gLt_x, isT hb hk0, if_neg (by decide), gLt_x, in_1 (by decide), if_neg (by decide), gLt_x, hk, if_neg (by decide), G_sync_J54, if_pos (by decide), if_neg (by decide), G_sync_J74, refuse_e, gC_p]
  exact b_ref h (by decide)
theorem t_sy4_4 (h : Sim ad B S X) (hb : 0 ≤ b ∧ b < 24) (hk : gA S 28 b = 4) : Both ad B (G_sync S b 4) (FC_X12_sync X (ad 8 0) b 4) := by
  have hk0 : gA S 28 b ≠ 0 := by rw [hk]; decide
  have hc := (xcl h.2.2 hb hk0).1
  rw [hk, show kC9 4 = 2 by decide] at hc
  have s1 := s_I (k := 0) (v := 0) h (by decide)
  have e0 : gI (sI S 0 0) 0 = 0 := by simp [gI_sI]
  rw [FC_X12_sync, R_sync h.2.2, if_pos (show 0 ≤ b ∧ b < 24 ∧ gA S 28 b ≠ 0 from ⟨hb.1, hb.2, hk0⟩), gC_p, gO_1, if_neg (by decide), if_pos (by decide), hc, if_neg (by decide), if_neg (by decide), if_pos (by decide), FC_X9_tells, if_pos (by decide), gC_p, if_pos rfl]
  rw [G_sync, gLt_x, isT hb hk0, if_neg (by decide), gLt_x, in_1 (by decide), if_neg (by decide), gLt_x, hk, if_neg (by decide), G_sync_J54, if_neg (by decide), G_sync_J64, if_pos (by decide), if_neg (by decide), G_sync_J74, refuse_e, gC_p]
  exact b_ref h (by decide)
theorem t_sy5_0 (h : Sim ad B S X) (hb : 0 ≤ b ∧ b < 24) (hk : gA S 28 b = 5) : Both ad B (G_sync S b 0) (FC_X12_sync X (ad 8 0) b 0) := by
  have hk0 : gA S 28 b ≠ 0 := by rw [hk]; decide
  have hc := (xcl h.2.2 hb hk0).1
  rw [hk, show kC9 5 = 4 by decide] at hc
  have s1 := s_I (k := 0) (v := 0) h (by decide)
  have e0 : gI (sI S 0 0) 0 = 0 := by simp [gI_sI]
  rw [FC_X12_sync, R_sync h.2.2, if_pos (show 0 ≤ b ∧ b < 24 ∧ gA S 28 b ≠ 0 from ⟨hb.1, hb.2, hk0⟩), gC_p, gO_1, if_neg (by decide), if_pos (by decide), hc, if_neg (by decide), if_neg (by decide), if_neg (by decide), if_neg (by decide), if_pos (by decide), FC_X5_tells, if_pos (by decide), gC_p, if_neg (by decide), if_neg (by decide), if_pos (by decide), FC_X5_value, gLt_x, (que h.2.2 hb hk).2.2.1, gC_p]
  rw [G_sync, gLt_x, isT hb hk0, if_neg (by decide), gLt_x, in_1 (by decide), if_neg (by decide), gLt_x, hk, if_neg (by decide), G_sync_J54, if_neg (by decide), G_sync_J64, if_neg (by decide), G_sync_J81, gLt_x, if_neg (by decide), if_neg (by decide), if_neg (by decide), if_neg (by decide), if_neg (by decide), if_pos (by decide)]
  exact ⟨e0.symm, fun _ => rfl, s1⟩
theorem t_sy5_1 (h : Sim ad B S X) (hb : 0 ≤ b ∧ b < 24) (hk : gA S 28 b = 5) : Both ad B (G_sync S b 1) (FC_X12_sync X (ad 8 0) b 1) := by
  have hk0 : gA S 28 b ≠ 0 := by rw [hk]; decide
  have hc := (xcl h.2.2 hb hk0).1
  rw [hk, show kC9 5 = 4 by decide] at hc
  have s1 := s_I (k := 0) (v := 0) h (by decide)
  have e0 : gI (sI S 0 0) 0 = 0 := by simp [gI_sI]
  rw [FC_X12_sync, R_sync h.2.2, if_pos (show 0 ≤ b ∧ b < 24 ∧ gA S 28 b ≠ 0 from ⟨hb.1, hb.2, hk0⟩), gC_p, gO_1, if_neg (by decide), if_pos (by decide), hc, if_neg (by decide), if_neg (by decide), if_neg (by decide), if_neg (by decide), if_pos (by decide), FC_X5_tells, if_pos (by decide), gC_p, if_neg (by decide), if_neg (by decide), if_neg (by decide), gLt_x, gLt_x, (ob9 h.2.2 hb hk0).1, Option.getD_some, (ob9 h.2.2 hb hk0).2]
  rw [G_sync, gLt_x, isT hb hk0, if_neg (by decide), gLt_x, in_1 (by decide), if_neg (by decide), gLt_x, hk, if_neg (by decide), G_sync_J54, if_neg (by decide), G_sync_J64, if_neg (by decide), G_sync_J81, gLt_x, if_pos (by decide)]
  exact ⟨e0.symm, fun _ => rfl, s1⟩
theorem t_sy5_2 (h : Sim ad B S X) (hb : 0 ≤ b ∧ b < 24) (hk : gA S 28 b = 5) : Both ad B (G_sync S b 2) (FC_X12_sync X (ad 8 0) b 2) := by
  have hk0 : gA S 28 b ≠ 0 := by rw [hk]; decide
  have hc := (xcl h.2.2 hb hk0).1
  rw [hk, show kC9 5 = 4 by decide] at hc
  have s1 := s_I (k := 0) (v := 0) h (by decide)
  have e0 : gI (sI S 0 0) 0 = 0 := by simp [gI_sI]
  rw [FC_X12_sync, R_sync h.2.2, if_pos (show 0 ≤ b ∧ b < 24 ∧ gA S 28 b ≠ 0 from ⟨hb.1, hb.2, hk0⟩), gC_p, gO_1, if_neg (by decide), if_pos (by decide), hc, if_neg (by decide), if_neg (by decide), if_neg (by decide), if_neg (by decide), if_pos (by decide), FC_X5_tells, if_neg (by decide), if_neg (by decide), gC_p, if_pos rfl]
  rw [G_sync, gLt_x, isT hb hk0, if_neg (by decide), gLt_x, in_1 (by decide), if_neg (by decide), gLt_x, hk, if_pos (by decide), if_neg (by decide), if_neg (by decide), G_sync_J74, refuse_e, gC_p]
  exact b_ref h (by decide)
theorem t_sy5_3 (h : Sim ad B S X) (hb : 0 ≤ b ∧ b < 24) (hk : gA S 28 b = 5) : Both ad B (G_sync S b 3) (FC_X12_sync X (ad 8 0) b 3) := by
  have hk0 : gA S 28 b ≠ 0 := by rw [hk]; decide
  have hc := (xcl h.2.2 hb hk0).1
  rw [hk, show kC9 5 = 4 by decide] at hc
  have s1 := s_I (k := 0) (v := 0) h (by decide)
  have e0 : gI (sI S 0 0) 0 = 0 := by simp [gI_sI]
  rw [FC_X12_sync, R_sync h.2.2, if_pos (show 0 ≤ b ∧ b < 24 ∧ gA S 28 b ≠ 0 from ⟨hb.1, hb.2, hk0⟩), gC_p, gO_1, if_neg (by decide), if_pos (by decide), hc, if_neg (by decide), if_neg (by decide), if_neg (by decide), if_neg (by decide), if_pos (by decide), FC_X5_tells, if_neg (by decide), if_neg (by decide), gC_p, if_pos rfl]
  rw [G_sync, gLt_x, isT hb hk0, if_neg (by decide), gLt_x, in_1 (by decide), if_neg (by decide), gLt_x, hk, if_neg (by decide), G_sync_J54, if_pos (by decide), if_neg (by decide), G_sync_J74, refuse_e, gC_p]
  exact b_ref h (by decide)
theorem t_sy5_4 (h : Sim ad B S X) (hb : 0 ≤ b ∧ b < 24) (hk : gA S 28 b = 5) : Both ad B (G_sync S b 4) (FC_X12_sync X (ad 8 0) b 4) := by
  have hk0 : gA S 28 b ≠ 0 := by rw [hk]; decide
  have hc := (xcl h.2.2 hb hk0).1
  rw [hk, show kC9 5 = 4 by decide] at hc
  have s1 := s_I (k := 0) (v := 0) h (by decide)
  have e0 : gI (sI S 0 0) 0 = 0 := by simp [gI_sI]
  rw [FC_X12_sync, R_sync h.2.2, if_pos (show 0 ≤ b ∧ b < 24 ∧ gA S 28 b ≠ 0 from ⟨hb.1, hb.2, hk0⟩), gC_p, gO_1, if_neg (by decide), if_pos (by decide), hc, if_neg (by decide), if_neg (by decide), if_neg (by decide), if_neg (by decide), if_pos (by decide), FC_X5_tells, if_neg (by decide), if_pos (by decide), gC_p, if_neg (by decide), if_pos (by decide), FC_X5_detail, gLt_x, gLt_x, (que h.2.2 hb hk).1, Option.getD_some, (que h.2.2 hb hk).2.1, gC_p]
  rw [G_sync, gLt_x, isT hb hk0, if_neg (by decide), gLt_x, in_1 (by decide), if_neg (by decide), gLt_x, hk, if_neg (by decide), G_sync_J54, if_neg (by decide), G_sync_J64, if_pos (by decide), if_pos (by decide), G_sync_J81, gLt_x, if_neg (by decide), if_neg (by decide), if_neg (by decide), if_pos (by decide)]
  exact ⟨e0.symm, fun _ => rfl, s1⟩
theorem t_sy6_0 (h : Sim ad B S X) (hb : 0 ≤ b ∧ b < 24) (hk : gA S 28 b = 6) : Both ad B (G_sync S b 0) (FC_X12_sync X (ad 8 0) b 0) := by
  have hk0 : gA S 28 b ≠ 0 := by rw [hk]; decide
  have hc := (xcl h.2.2 hb hk0).1
  rw [hk, show kC9 6 = 1 by decide] at hc
  have s1 := s_I (k := 0) (v := 0) h (by decide)
  have e0 : gI (sI S 0 0) 0 = 0 := by simp [gI_sI]
  rw [FC_X12_sync, R_sync h.2.2, if_pos (show 0 ≤ b ∧ b < 24 ∧ gA S 28 b ≠ 0 from ⟨hb.1, hb.2, hk0⟩), gC_p, gO_1, if_neg (by decide), if_pos (by decide), hc, if_neg (by decide), if_pos (by decide), FC_X9_tells, if_neg (by decide), gC_p, if_neg (by decide), if_neg (by decide), if_pos (by decide), FC_X2_value, gLt_x, (hld h.2.2 hb (Or.inl hk)).2.1 hk, if_neg (by decide), gLt_x, (hld h.2.2 hb (Or.inl hk)).1, gC_p]
  rw [G_sync, gLt_x, isT hb hk0, if_neg (by decide), gLt_x, in_1 (by decide), if_neg (by decide), gLt_x, hk, if_neg (by decide), G_sync_J54, if_neg (by decide), G_sync_J64, if_neg (by decide), G_sync_J81, gLt_x, if_neg (by decide), if_neg (by decide), if_neg (by decide), if_neg (by decide), if_neg (by decide), if_neg (by decide), if_neg (by decide)]
  exact ⟨e0.symm, fun _ => rfl, s1⟩
theorem t_sy6_1 (h : Sim ad B S X) (hb : 0 ≤ b ∧ b < 24) (hk : gA S 28 b = 6) : Both ad B (G_sync S b 1) (FC_X12_sync X (ad 8 0) b 1) := by
  have hk0 : gA S 28 b ≠ 0 := by rw [hk]; decide
  have hc := (xcl h.2.2 hb hk0).1
  rw [hk, show kC9 6 = 1 by decide] at hc
  have s1 := s_I (k := 0) (v := 0) h (by decide)
  have e0 : gI (sI S 0 0) 0 = 0 := by simp [gI_sI]
  rw [FC_X12_sync, R_sync h.2.2, if_pos (show 0 ≤ b ∧ b < 24 ∧ gA S 28 b ≠ 0 from ⟨hb.1, hb.2, hk0⟩), gC_p, gO_1, if_neg (by decide), if_pos (by decide), hc, if_neg (by decide), if_pos (by decide), FC_X9_tells, if_neg (by decide), gC_p, if_neg (by decide), if_neg (by decide), if_neg (by decide), gLt_x, gLt_x, (ob9 h.2.2 hb hk0).1, Option.getD_some, (ob9 h.2.2 hb hk0).2]
  rw [G_sync, gLt_x, isT hb hk0, if_neg (by decide), gLt_x, in_1 (by decide), if_neg (by decide), gLt_x, hk, if_neg (by decide), G_sync_J54, if_neg (by decide), G_sync_J64, if_neg (by decide), G_sync_J81, gLt_x, if_pos (by decide)]
  exact ⟨e0.symm, fun _ => rfl, s1⟩
theorem t_sy6_2 (h : Sim ad B S X) (hb : 0 ≤ b ∧ b < 24) (hk : gA S 28 b = 6) : Both ad B (G_sync S b 2) (FC_X12_sync X (ad 8 0) b 2) := by
  have hk0 : gA S 28 b ≠ 0 := by rw [hk]; decide
  have hc := (xcl h.2.2 hb hk0).1
  rw [hk, show kC9 6 = 1 by decide] at hc
  have s1 := s_I (k := 0) (v := 0) h (by decide)
  have e0 : gI (sI S 0 0) 0 = 0 := by simp [gI_sI]
  rw [FC_X12_sync, R_sync h.2.2, if_pos (show 0 ≤ b ∧ b < 24 ∧ gA S 28 b ≠ 0 from ⟨hb.1, hb.2, hk0⟩), gC_p, gO_1, if_neg (by decide), if_pos (by decide), hc, if_neg (by decide), if_pos (by decide), FC_X9_tells, if_pos (by decide), gC_p, if_pos rfl]
  rw [G_sync, gLt_x, isT hb hk0, if_neg (by decide), gLt_x, in_1 (by decide), if_neg (by decide), gLt_x, hk, if_pos (by decide), if_neg (by decide), if_neg (by decide), G_sync_J74, refuse_e, gC_p]
  exact b_ref h (by decide)
theorem t_sy6_3 (h : Sim ad B S X) (hb : 0 ≤ b ∧ b < 24) (hk : gA S 28 b = 6) : Both ad B (G_sync S b 3) (FC_X12_sync X (ad 8 0) b 3) := by
  have hk0 : gA S 28 b ≠ 0 := by rw [hk]; decide
  have hc := (xcl h.2.2 hb hk0).1
  rw [hk, show kC9 6 = 1 by decide] at hc
  have s1 := s_I (k := 0) (v := 0) h (by decide)
  have e0 : gI (sI S 0 0) 0 = 0 := by simp [gI_sI]
  rw [FC_X12_sync, R_sync h.2.2, if_pos (show 0 ≤ b ∧ b < 24 ∧ gA S 28 b ≠ 0 from ⟨hb.1, hb.2, hk0⟩), gC_p, gO_1, if_neg (by decide), if_pos (by decide), hc, if_neg (by decide), if_pos (by decide), FC_X9_tells, if_pos (by decide), gC_p, if_pos rfl]
  rw [G_sync, gLt_x, isT hb hk0, if_neg (by decide), gLt_x, in_1 (by decide), if_neg (by decide), gLt_x, hk, if_neg (by decide), G_sync_J54, if_pos (by decide), if_neg (by decide), G_sync_J74, refuse_e, gC_p]
  exact b_ref h (by decide)
theorem t_sy6_4 (h : Sim ad B S X) (hb : 0 ≤ b ∧ b < 24) (hk : gA S 28 b = 6) : Both ad B (G_sync S b 4) (FC_X12_sync X (ad 8 0) b 4) := by
  have hk0 : gA S 28 b ≠ 0 := by rw [hk]; decide
  have hc := (xcl h.2.2 hb hk0).1
  rw [hk, show kC9 6 = 1 by decide] at hc
  have s1 := s_I (k := 0) (v := 0) h (by decide)
  have e0 : gI (sI S 0 0) 0 = 0 := by simp [gI_sI]
  rw [FC_X12_sync, R_sync h.2.2, if_pos (show 0 ≤ b ∧ b < 24 ∧ gA S 28 b ≠ 0 from ⟨hb.1, hb.2, hk0⟩), gC_p, gO_1, if_neg (by decide), if_pos (by decide), hc, if_neg (by decide), if_pos (by decide), FC_X9_tells, if_pos (by decide), gC_p, if_pos rfl]
  rw [G_sync, gLt_x, isT hb hk0, if_neg (by decide), gLt_x, in_1 (by decide), if_neg (by decide), gLt_x, hk, if_neg (by decide), G_sync_J54, if_neg (by decide), G_sync_J64, if_pos (by decide), if_neg (by decide), G_sync_J74, refuse_e, gC_p]
  exact b_ref h (by decide)
theorem t_sy7_0 (h : Sim ad B S X) (hb : 0 ≤ b ∧ b < 24) (hk : gA S 28 b = 7) : Both ad B (G_sync S b 0) (FC_X12_sync X (ad 8 0) b 0) := by
  have hk0 : gA S 28 b ≠ 0 := by rw [hk]; decide
  have hc := (xcl h.2.2 hb hk0).1
  rw [hk, show kC9 7 = 1 by decide] at hc
  have s1 := s_I (k := 0) (v := 0) h (by decide)
  have e0 : gI (sI S 0 0) 0 = 0 := by simp [gI_sI]
  rw [FC_X12_sync, R_sync h.2.2, if_pos (show 0 ≤ b ∧ b < 24 ∧ gA S 28 b ≠ 0 from ⟨hb.1, hb.2, hk0⟩), gC_p, gO_1, if_neg (by decide), if_pos (by decide), hc, if_neg (by decide), if_pos (by decide), FC_X9_tells, if_neg (by decide), gC_p, if_neg (by decide), if_neg (by decide), if_pos (by decide), FC_X2_value, gLt_x, (hld h.2.2 hb (Or.inr hk)).2.2 hk, gLt_x, (hld h.2.2 hb (Or.inr hk)).1]
  rw [G_sync, gLt_x, isT hb hk0, if_neg (by decide), gLt_x, in_1 (by decide), if_neg (by decide), gLt_x, hk, if_neg (by decide), G_sync_J54, if_neg (by decide), G_sync_J64, if_neg (by decide), G_sync_J81, gLt_x, if_neg (by decide), if_neg (by decide), if_neg (by decide), if_neg (by decide), if_neg (by decide), if_neg (by decide), if_pos (by decide)]
  have e30 : gA (sI S 0 0) 30 b = gA S 30 b := rfl
  rw [e30]
  by_cases c : gA S 30 b = 0
  · rw [if_pos c, if_pos c, gC_p]; exact ⟨e0.symm, fun _ => rfl, s1⟩
  · rw [if_neg c, if_neg c, gC_p]; exact ⟨e0.symm, fun _ => rfl, s1⟩
theorem t_sy7_1 (h : Sim ad B S X) (hb : 0 ≤ b ∧ b < 24) (hk : gA S 28 b = 7) : Both ad B (G_sync S b 1) (FC_X12_sync X (ad 8 0) b 1) := by
  have hk0 : gA S 28 b ≠ 0 := by rw [hk]; decide
  have hc := (xcl h.2.2 hb hk0).1
  rw [hk, show kC9 7 = 1 by decide] at hc
  have s1 := s_I (k := 0) (v := 0) h (by decide)
  have e0 : gI (sI S 0 0) 0 = 0 := by simp [gI_sI]
  rw [FC_X12_sync, R_sync h.2.2, if_pos (show 0 ≤ b ∧ b < 24 ∧ gA S 28 b ≠ 0 from ⟨hb.1, hb.2, hk0⟩), gC_p, gO_1, if_neg (by decide), if_pos (by decide), hc, if_neg (by decide), if_pos (by decide), FC_X9_tells, if_neg (by decide), gC_p, if_neg (by decide), if_neg (by decide), if_neg (by decide), gLt_x, gLt_x, (ob9 h.2.2 hb hk0).1, Option.getD_some, (ob9 h.2.2 hb hk0).2]
  rw [G_sync, gLt_x, isT hb hk0, if_neg (by decide), gLt_x, in_1 (by decide), if_neg (by decide), gLt_x, hk, if_neg (by decide), G_sync_J54, if_neg (by decide), G_sync_J64, if_neg (by decide), G_sync_J81, gLt_x, if_pos (by decide)]
  exact ⟨e0.symm, fun _ => rfl, s1⟩
theorem t_sy7_2 (h : Sim ad B S X) (hb : 0 ≤ b ∧ b < 24) (hk : gA S 28 b = 7) : Both ad B (G_sync S b 2) (FC_X12_sync X (ad 8 0) b 2) := by
  have hk0 : gA S 28 b ≠ 0 := by rw [hk]; decide
  have hc := (xcl h.2.2 hb hk0).1
  rw [hk, show kC9 7 = 1 by decide] at hc
  have s1 := s_I (k := 0) (v := 0) h (by decide)
  have e0 : gI (sI S 0 0) 0 = 0 := by simp [gI_sI]
  rw [FC_X12_sync, R_sync h.2.2, if_pos (show 0 ≤ b ∧ b < 24 ∧ gA S 28 b ≠ 0 from ⟨hb.1, hb.2, hk0⟩), gC_p, gO_1, if_neg (by decide), if_pos (by decide), hc, if_neg (by decide), if_pos (by decide), FC_X9_tells, if_pos (by decide), gC_p, if_pos rfl]
  rw [G_sync, gLt_x, isT hb hk0, if_neg (by decide), gLt_x, in_1 (by decide), if_neg (by decide), gLt_x, hk, if_pos (by decide), if_neg (by decide), if_neg (by decide), G_sync_J74, refuse_e, gC_p]
  exact b_ref h (by decide)
theorem t_sy7_3 (h : Sim ad B S X) (hb : 0 ≤ b ∧ b < 24) (hk : gA S 28 b = 7) : Both ad B (G_sync S b 3) (FC_X12_sync X (ad 8 0) b 3) := by
  have hk0 : gA S 28 b ≠ 0 := by rw [hk]; decide
  have hc := (xcl h.2.2 hb hk0).1
  rw [hk, show kC9 7 = 1 by decide] at hc
  have s1 := s_I (k := 0) (v := 0) h (by decide)
  have e0 : gI (sI S 0 0) 0 = 0 := by simp [gI_sI]
  rw [FC_X12_sync, R_sync h.2.2, if_pos (show 0 ≤ b ∧ b < 24 ∧ gA S 28 b ≠ 0 from ⟨hb.1, hb.2, hk0⟩), gC_p, gO_1, if_neg (by decide), if_pos (by decide), hc, if_neg (by decide), if_pos (by decide), FC_X9_tells, if_pos (by decide), gC_p, if_pos rfl]
  rw [G_sync, gLt_x, isT hb hk0, if_neg (by decide), gLt_x, in_1 (by decide), if_neg (by decide), gLt_x, hk, if_neg (by decide), G_sync_J54, if_pos (by decide), if_neg (by decide), G_sync_J74, refuse_e, gC_p]
  exact b_ref h (by decide)
theorem t_sy7_4 (h : Sim ad B S X) (hb : 0 ≤ b ∧ b < 24) (hk : gA S 28 b = 7) : Both ad B (G_sync S b 4) (FC_X12_sync X (ad 8 0) b 4) := by
  have hk0 : gA S 28 b ≠ 0 := by rw [hk]; decide
  have hc := (xcl h.2.2 hb hk0).1
  rw [hk, show kC9 7 = 1 by decide] at hc
  have s1 := s_I (k := 0) (v := 0) h (by decide)
  have e0 : gI (sI S 0 0) 0 = 0 := by simp [gI_sI]
  rw [FC_X12_sync, R_sync h.2.2, if_pos (show 0 ≤ b ∧ b < 24 ∧ gA S 28 b ≠ 0 from ⟨hb.1, hb.2, hk0⟩), gC_p, gO_1, if_neg (by decide), if_pos (by decide), hc, if_neg (by decide), if_pos (by decide), FC_X9_tells, if_pos (by decide), gC_p, if_pos rfl]
  rw [G_sync, gLt_x, isT hb hk0, if_neg (by decide), gLt_x, in_1 (by decide), if_neg (by decide), gLt_x, hk, if_neg (by decide), G_sync_J54, if_neg (by decide), G_sync_J64, if_pos (by decide), if_neg (by decide), G_sync_J74, refuse_e, gC_p]
  exact b_ref h (by decide)
theorem t_sy8_0 (h : Sim ad B S X) (hb : 0 ≤ b ∧ b < 24) (hk : gA S 28 b = 8) : Both ad B (G_sync S b 0) (FC_X12_sync X (ad 8 0) b 0) := by
  have hk0 : gA S 28 b ≠ 0 := by rw [hk]; decide
  have hc := (xcl h.2.2 hb hk0).1
  rw [hk, show kC9 8 = 0 by decide] at hc
  have s1 := s_I (k := 0) (v := 0) h (by decide)
  have e0 : gI (sI S 0 0) 0 = 0 := by simp [gI_sI]
  rw [FC_X12_sync, R_sync h.2.2, if_pos (show 0 ≤ b ∧ b < 24 ∧ gA S 28 b ≠ 0 from ⟨hb.1, hb.2, hk0⟩), gC_p, gO_1, if_neg (by decide), if_pos (by decide), hc, if_pos (by decide), FC_X1_tells, if_neg (by decide), gC_p, if_neg (by decide), if_neg (by decide), if_pos (by decide), FC_X1_value, gLt_x, (gat h.2.2 hb hk).2, gC_p]
  rw [G_sync, gLt_x, isT hb hk0, if_neg (by decide), gLt_x, in_1 (by decide), if_neg (by decide), gLt_x, hk, if_neg (by decide), G_sync_J54, if_neg (by decide), G_sync_J64, if_neg (by decide), G_sync_J81, gLt_x, if_neg (by decide), if_neg (by decide), if_neg (by decide), if_neg (by decide), if_neg (by decide), if_neg (by decide), if_neg (by decide)]
  exact ⟨e0.symm, fun _ => rfl, s1⟩
theorem t_sy8_1 (h : Sim ad B S X) (hb : 0 ≤ b ∧ b < 24) (hk : gA S 28 b = 8) : Both ad B (G_sync S b 1) (FC_X12_sync X (ad 8 0) b 1) := by
  have hk0 : gA S 28 b ≠ 0 := by rw [hk]; decide
  have hc := (xcl h.2.2 hb hk0).1
  rw [hk, show kC9 8 = 0 by decide] at hc
  have s1 := s_I (k := 0) (v := 0) h (by decide)
  have e0 : gI (sI S 0 0) 0 = 0 := by simp [gI_sI]
  rw [FC_X12_sync, R_sync h.2.2, if_pos (show 0 ≤ b ∧ b < 24 ∧ gA S 28 b ≠ 0 from ⟨hb.1, hb.2, hk0⟩), gC_p, gO_1, if_neg (by decide), if_pos (by decide), hc, if_pos (by decide), FC_X1_tells, if_neg (by decide), gC_p, if_neg (by decide), if_neg (by decide), if_neg (by decide), gLt_x, gLt_x, (ob9 h.2.2 hb hk0).1, Option.getD_some, (ob9 h.2.2 hb hk0).2]
  rw [G_sync, gLt_x, isT hb hk0, if_neg (by decide), gLt_x, in_1 (by decide), if_neg (by decide), gLt_x, hk, if_neg (by decide), G_sync_J54, if_neg (by decide), G_sync_J64, if_neg (by decide), G_sync_J81, gLt_x, if_pos (by decide)]
  exact ⟨e0.symm, fun _ => rfl, s1⟩
theorem t_sy8_2 (h : Sim ad B S X) (hb : 0 ≤ b ∧ b < 24) (hk : gA S 28 b = 8) : Both ad B (G_sync S b 2) (FC_X12_sync X (ad 8 0) b 2) := by
  have hk0 : gA S 28 b ≠ 0 := by rw [hk]; decide
  have hc := (xcl h.2.2 hb hk0).1
  rw [hk, show kC9 8 = 0 by decide] at hc
  have s1 := s_I (k := 0) (v := 0) h (by decide)
  have e0 : gI (sI S 0 0) 0 = 0 := by simp [gI_sI]
  rw [FC_X12_sync, R_sync h.2.2, if_pos (show 0 ≤ b ∧ b < 24 ∧ gA S 28 b ≠ 0 from ⟨hb.1, hb.2, hk0⟩), gC_p, gO_1, if_neg (by decide), if_pos (by decide), hc, if_pos (by decide), FC_X1_tells, if_neg (by decide), gC_p, if_neg (by decide), if_pos (by decide), FC_X1_detail, gLt_x, (gat h.2.2 hb hk).1, gC_p]
  rw [G_sync, gLt_x, isT hb hk0, if_neg (by decide), gLt_x, in_1 (by decide), if_neg (by decide), gLt_x, hk, if_pos (by decide), if_neg (by decide), if_pos (by decide), G_sync_J54, if_neg (by decide), G_sync_J64, if_neg (by decide), G_sync_J81, gLt_x, if_neg (by decide), if_pos (by decide)]
  exact ⟨e0.symm, fun _ => rfl, s1⟩
theorem t_sy8_3 (h : Sim ad B S X) (hb : 0 ≤ b ∧ b < 24) (hk : gA S 28 b = 8) : Both ad B (G_sync S b 3) (FC_X12_sync X (ad 8 0) b 3) := by
  have hk0 : gA S 28 b ≠ 0 := by rw [hk]; decide
  have hc := (xcl h.2.2 hb hk0).1
  rw [hk, show kC9 8 = 0 by decide] at hc
  have s1 := s_I (k := 0) (v := 0) h (by decide)
  have e0 : gI (sI S 0 0) 0 = 0 := by simp [gI_sI]
  rw [FC_X12_sync, R_sync h.2.2, if_pos (show 0 ≤ b ∧ b < 24 ∧ gA S 28 b ≠ 0 from ⟨hb.1, hb.2, hk0⟩), gC_p, gO_1, if_neg (by decide), if_pos (by decide), hc, if_pos (by decide), FC_X1_tells, if_pos (by decide), gC_p, if_pos rfl]
  rw [G_sync, gLt_x, isT hb hk0, if_neg (by decide), gLt_x, in_1 (by decide), if_neg (by decide), gLt_x, hk, if_neg (by decide), G_sync_J54, if_pos (by decide), if_neg (by decide), G_sync_J74, refuse_e, gC_p]
  exact b_ref h (by decide)
theorem t_sy8_4 (h : Sim ad B S X) (hb : 0 ≤ b ∧ b < 24) (hk : gA S 28 b = 8) : Both ad B (G_sync S b 4) (FC_X12_sync X (ad 8 0) b 4) := by
  have hk0 : gA S 28 b ≠ 0 := by rw [hk]; decide
  have hc := (xcl h.2.2 hb hk0).1
  rw [hk, show kC9 8 = 0 by decide] at hc
  have s1 := s_I (k := 0) (v := 0) h (by decide)
  have e0 : gI (sI S 0 0) 0 = 0 := by simp [gI_sI]
  rw [FC_X12_sync, R_sync h.2.2, if_pos (show 0 ≤ b ∧ b < 24 ∧ gA S 28 b ≠ 0 from ⟨hb.1, hb.2, hk0⟩), gC_p, gO_1, if_neg (by decide), if_pos (by decide), hc, if_pos (by decide), FC_X1_tells, if_pos (by decide), gC_p, if_pos rfl]
  rw [G_sync, gLt_x, isT hb hk0, if_neg (by decide), gLt_x, in_1 (by decide), if_neg (by decide), gLt_x, hk, if_neg (by decide), G_sync_J54, if_neg (by decide), G_sync_J64, if_pos (by decide), if_neg (by decide), G_sync_J74, refuse_e, gC_p]
  exact b_ref h (by decide)
theorem t_sync {i w : Int32} (h : Sim ad B S X) : Both ad B (G_sync S i w) (FC_X12_sync X (ad 8 0) i w) := by
  by_cases c : 0 ≤ i ∧ i < 24 ∧ gA S 28 i ≠ 0
  · by_cases d : 0 ≤ w ∧ w ≤ 4
    · have e := i32n d.1
      have hn : w.toNatClampNeg ≤ 4 := by
        have a1 : w.toInt ≤ 4 := Int32.le_iff_toInt_le.mp d.2
        simp only [Int32.toNatClampNeg]; omega
      generalize hN : w.toNatClampNeg = n at e hn
      have kz := h.2.1.1 i c.1 c.2.1
      have e2 := i32n kz.1
      have hk8 : (gA S 28 i).toNatClampNeg ≤ 8 := by
        have a1 : (gA S 28 i).toInt ≤ 8 := Int32.le_iff_toInt_le.mp kz.2.1
        simp only [Int32.toNatClampNeg]; omega
      have hk0 : (gA S 28 i).toNatClampNeg ≠ 0 := fun z => c.2.2 (by rw [e2, z]; decide)
      generalize hM : (gA S 28 i).toNatClampNeg = m at e2 hk8 hk0
      rcases (show n = 0 ∨ n = 1 ∨ n = 2 ∨ n = 3 ∨ n = 4 by omega) with rfl | rfl | rfl | rfl | rfl
      · replace e : w = 0 := e.trans (by decide)
        subst e
        rcases (show m = 1 ∨ m = 2 ∨ m = 3 ∨ m = 4 ∨ m = 5 ∨ m = 6 ∨ m = 7 ∨ m = 8 by omega) with rfl | rfl | rfl | rfl | rfl | rfl | rfl | rfl
        · exact t_sy1_0 h ⟨c.1, c.2.1⟩ (e2.trans (by decide))
        · exact t_sy2_0 h ⟨c.1, c.2.1⟩ (e2.trans (by decide))
        · exact t_sy3_0 h ⟨c.1, c.2.1⟩ (e2.trans (by decide))
        · exact t_sy4_0 h ⟨c.1, c.2.1⟩ (e2.trans (by decide))
        · exact t_sy5_0 h ⟨c.1, c.2.1⟩ (e2.trans (by decide))
        · exact t_sy6_0 h ⟨c.1, c.2.1⟩ (e2.trans (by decide))
        · exact t_sy7_0 h ⟨c.1, c.2.1⟩ (e2.trans (by decide))
        · exact t_sy8_0 h ⟨c.1, c.2.1⟩ (e2.trans (by decide))
      · replace e : w = 1 := e.trans (by decide)
        subst e
        rcases (show m = 1 ∨ m = 2 ∨ m = 3 ∨ m = 4 ∨ m = 5 ∨ m = 6 ∨ m = 7 ∨ m = 8 by omega) with rfl | rfl | rfl | rfl | rfl | rfl | rfl | rfl
        · exact t_sy1_1 h ⟨c.1, c.2.1⟩ (e2.trans (by decide))
        · exact t_sy2_1 h ⟨c.1, c.2.1⟩ (e2.trans (by decide))
        · exact t_sy3_1 h ⟨c.1, c.2.1⟩ (e2.trans (by decide))
        · exact t_sy4_1 h ⟨c.1, c.2.1⟩ (e2.trans (by decide))
        · exact t_sy5_1 h ⟨c.1, c.2.1⟩ (e2.trans (by decide))
        · exact t_sy6_1 h ⟨c.1, c.2.1⟩ (e2.trans (by decide))
        · exact t_sy7_1 h ⟨c.1, c.2.1⟩ (e2.trans (by decide))
        · exact t_sy8_1 h ⟨c.1, c.2.1⟩ (e2.trans (by decide))
      · replace e : w = 2 := e.trans (by decide)
        subst e
        rcases (show m = 1 ∨ m = 2 ∨ m = 3 ∨ m = 4 ∨ m = 5 ∨ m = 6 ∨ m = 7 ∨ m = 8 by omega) with rfl | rfl | rfl | rfl | rfl | rfl | rfl | rfl
        · exact t_sy1_2 h ⟨c.1, c.2.1⟩ (e2.trans (by decide))
        · exact t_sy2_2 h ⟨c.1, c.2.1⟩ (e2.trans (by decide))
        · exact t_sy3_2 h ⟨c.1, c.2.1⟩ (e2.trans (by decide))
        · exact t_sy4_2 h ⟨c.1, c.2.1⟩ (e2.trans (by decide))
        · exact t_sy5_2 h ⟨c.1, c.2.1⟩ (e2.trans (by decide))
        · exact t_sy6_2 h ⟨c.1, c.2.1⟩ (e2.trans (by decide))
        · exact t_sy7_2 h ⟨c.1, c.2.1⟩ (e2.trans (by decide))
        · exact t_sy8_2 h ⟨c.1, c.2.1⟩ (e2.trans (by decide))
      · replace e : w = 3 := e.trans (by decide)
        subst e
        rcases (show m = 1 ∨ m = 2 ∨ m = 3 ∨ m = 4 ∨ m = 5 ∨ m = 6 ∨ m = 7 ∨ m = 8 by omega) with rfl | rfl | rfl | rfl | rfl | rfl | rfl | rfl
        · exact t_sy1_3 h ⟨c.1, c.2.1⟩ (e2.trans (by decide))
        · exact t_sy2_3 h ⟨c.1, c.2.1⟩ (e2.trans (by decide))
        · exact t_sy3_3 h ⟨c.1, c.2.1⟩ (e2.trans (by decide))
        · exact t_sy4_3 h ⟨c.1, c.2.1⟩ (e2.trans (by decide))
        · exact t_sy5_3 h ⟨c.1, c.2.1⟩ (e2.trans (by decide))
        · exact t_sy6_3 h ⟨c.1, c.2.1⟩ (e2.trans (by decide))
        · exact t_sy7_3 h ⟨c.1, c.2.1⟩ (e2.trans (by decide))
        · exact t_sy8_3 h ⟨c.1, c.2.1⟩ (e2.trans (by decide))
      · replace e : w = 4 := e.trans (by decide)
        subst e
        rcases (show m = 1 ∨ m = 2 ∨ m = 3 ∨ m = 4 ∨ m = 5 ∨ m = 6 ∨ m = 7 ∨ m = 8 by omega) with rfl | rfl | rfl | rfl | rfl | rfl | rfl | rfl
        · exact t_sy1_4 h ⟨c.1, c.2.1⟩ (e2.trans (by decide))
        · exact t_sy2_4 h ⟨c.1, c.2.1⟩ (e2.trans (by decide))
        · exact t_sy3_4 h ⟨c.1, c.2.1⟩ (e2.trans (by decide))
        · exact t_sy4_4 h ⟨c.1, c.2.1⟩ (e2.trans (by decide))
        · exact t_sy5_4 h ⟨c.1, c.2.1⟩ (e2.trans (by decide))
        · exact t_sy6_4 h ⟨c.1, c.2.1⟩ (e2.trans (by decide))
        · exact t_sy7_4 h ⟨c.1, c.2.1⟩ (e2.trans (by decide))
        · exact t_sy8_4 h ⟨c.1, c.2.1⟩ (e2.trans (by decide))
    · rw [G_sync, gLt_x, isT ⟨c.1, c.2.1⟩ c.2.2, if_neg (by decide), gLt_x, in_0 d, if_pos rfl, refuse_e, gC_p, FC_X12_sync, R_sync h.2.2, if_pos c, gC_p, gO_1]
      by_cases y : w < 0
      · rw [if_pos y]; exact b_ref h (by decide)
      · rw [if_neg y, if_neg (show ¬ w ≤ 4 by clear h; grind)]; exact b_ref h (by decide)
  · rw [G_sync, gLt_x, isT0 c, if_pos rfl, refuse_e, gC_p, FC_X12_sync, R_sync h.2.2, if_neg c, gC_p, gO_0]
    exact b_ref h (by decide)
end PL

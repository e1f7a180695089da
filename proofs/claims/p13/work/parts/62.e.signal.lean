/-! both side by side: signal, all -/
theorem sig_o {S : mS} {b u : Int32} (l8 : gA S 35 b ≤ 8) (h31 : 0 ≤ gA (lv2 S b u) 31 b) : G_signalled S b u = G_waitFor (sA (lv2 S b u) 21 u 0) u b := by
  have e1 : G_signalled S b u = G_signalled_L5 b u ((gA S 35 b - 0).toInt.toNat + 1) 0 0 S := by rw [G_signalled, gLt, gLt]
  rw [e1, signalled_L _ 0 0 S (by decide) l8 (Nat.lt_succ_self _)]
  have e2 : sA (lv_L 34 35 b u ((gA S 35 b - 0).toInt.toNat + 1) 0 0 S).2 35 b (lv_L 34 35 b u ((gA S 35 b - 0).toInt.toNat + 1) 0 0 S).1 = lv2 S b u := rfl
  unfold sgC
  rw [e2]
  have a1 : gA (sA (lv2 S b u) 21 u 0) 31 b = gA (lv2 S b u) 31 b := by simp [gA_sA]
  rw [a1, if_pos h31, G_signalled_J104, gLt, if_pos rfl]
theorem lv2_31 {S : mS} {b u : Int32} (hm : mInv S) (hb : 0 ≤ b ∧ b < 24) : gA (lv2 S b u) 31 b = gA S 31 b := (lvP_f (by decide) (p_l2 (t := u) hb hm)).2.2.1 31 b (by decide) (by decide)
theorem sig_c {S : mS} {b u t v : Int32} {l : Nat} (hl : k35 l) (hu : u ≠ t) (l8 : gA S 35 b ≤ 8) (h31 : 0 ≤ gA (lv2 S b u) 31 b) : G_signalled (sA S l t v) b u = sA (G_signalled S b u) l t v := by
  have a1 := k35n hl 34 (by decide) (by decide)
  have a2 := k35n hl 35 (by decide) (by decide)
  have a3 := k35n hl 31 (by decide) (by decide)
  have a4 := k35n hl 21 (by decide) (by decide)
  have c1 := lv2_c (S := S) (j := t) (v := v) (b := b) (u := u) a1 a2
  rw [sig_o l8 h31, sig_o (by simpa [gA_sA, Ne.symm a2] using l8) (by rw [c1]; simpa [gA_sA, Ne.symm a3] using h31), c1, sA_comm (k := l) (Or.inl a4), wF_cm hl hu]
theorem sig_gs {S : mS} {b u t k : Int32} (hm : mInv S) (hb : 0 ≤ b ∧ b < 24) (hu : u ≠ t) (u0 : 0 ≤ u ∧ u < 8) (h21 : gA S 21 u ≠ 0) (h16 : gA S 16 u = b) (h31 : 0 ≤ gA S 31 b) : G_signalled (gs S t k) b u = gs (G_signalled S b u) t k := by
  have l8 := (pre_l2 hb hm).2
  have e31 := lv2_31 (u := u) hm hb
  have p := p_signalled S b u hb hm u0 h21 h16 _ rfl
  have e12 : gA (G_signalled S b u) 12 t = gA S 12 t := p.1.2.2.1 12 t (by simp)
  unfold gs
  have c1 := lv2_c (S := S) (k := 15) (j := t) (v := k) (b := b) (u := u) (by decide) (by decide)
  rw [sig_c (Or.inl rfl) hu (by simpa [gA_sA] using l8) (by rw [c1]; simpa [gA_sA, e31] using h31), sig_c (Or.inr rfl) hu l8 (by rw [e31]; exact h31), e12]
theorem fst2 {S : mS} {b : Int32} (hm : mInv S) (hb : 0 ≤ b ∧ b < 24) (h : 0 < gA S 35 b) : mem2 S b (gA S 34 (8 * b)) := by
  have z := hm.2.2.2.2.2.2.1 b 0 hb.1 hb.2 (by decide) h
  rwa [show 8 * b + 0 = 8 * b by grind] at z
theorem s_cu1 {ad : adT} {B : Int32} {S : mS} {X : xS} {b : Int32} (h : Sim ad B S X) (hb : 0 ≤ b ∧ b < 24) (hk : gA S 28 b = 1) (ho : 0 ≤ gA S 31 b) (h0 : 0 < gA S 35 b) :
    Sim ad B (G_signalled S b (gA S 34 (8 * b))) (FC_X4_comeToFirst X (ad 2 b) (ad 0 (gA S 34 (8 * b))) 1) := by
  obtain ⟨u0, u1, u13, u16, u21, u22, -⟩ := fst2 h.1 hb h0
  rw [sig_o (pre_l2 hb h.1).2 (by rw [lv2_31 h.1 hb]; exact ho)]
  exact s_sg h.1 (j_wk h.2.1) h.2.2 hb hk ⟨u0, u1⟩ u21 u16 (h.2.1.2.2.2.2.2 _ (by clear h; grind) u0 u1 u21)
theorem cu_S {S : mS} {b n i : Int32} {N : Nat} (h : i < n) : G_atLock_L309 b n (N + 1) i S = G_atLock_L309 b n N (i + 1) (G_signalled S b (gA S 34 (8 * b))) := by
  rw [G_atLock_L309, if_neg (by grind), gLt_x, gLt_x]
theorem cu_S0 {S : mS} {b n i : Int32} {N : Nat} (h : n ≤ i) : G_atLock_L309 b n (N + 1) i S = (1, S) := by
  rw [G_atLock_L309, if_pos h]
theorem sg_stp {S : mS} {b : Int32} (hm : mInv S) (hb : 0 ≤ b ∧ b < 24) (h0 : 0 < gA S 35 b) : stp S (G_signalled S b (gA S 34 (8 * b))) ∧ gA (G_signalled S b (gA S 34 (8 * b))) 35 b + 1 = gA S 35 b := by
  obtain ⟨u0, u1, u13, u16, u21, u22, -⟩ := fst2 hm hb h0
  exact p_signalled S b _ hb hm ⟨u0, u1⟩ u21 u16 _ rfl
theorem sg_31 {S : mS} {b : Int32} (hm : mInv S) (hb : 0 ≤ b ∧ b < 24) (ho : 0 ≤ gA S 31 b) : gA (G_signalled S b (gA S 34 (8 * b))) 31 b = gA S 31 b := by
  rw [sig_o (pre_l2 hb hm).2 (by rw [lv2_31 hm hb]; exact ho), waitFor_e]
  simp [gA_sA, lv2_31 hm hb]
theorem s_cu {ad : adT} {B b n : Int32} (hb : 0 ≤ b ∧ b < 24) : ∀ (N M : Nat) (i : Int32) (S : mS) (X : xS), Sim ad B S X → gA S 28 b = 1 → 0 ≤ gA S 31 b → 0 ≤ i → i ≤ n → n ≤ 8 → n - i ≤ gA S 35 b → (n - i).toInt.toNat < N → (n - i).toInt.toNat < M →
    (G_atLock_L309 b n N i S).1 = 1 ∧ Sim ad B (G_atLock_L309 b n N i S).2 (FC_X4_callUp_L2 (ad 2 b) n M i X) := by
  intro N
  induction N with
  | zero => intro M i S X _ _ _ _ _ _ _ h; exact absurd h (Nat.not_lt_zero _)
  | succ N ih =>
    intro M i S X h hk ho i0 i1 n8 hr hN hM
    cases M with
    | zero => exact absurd hM (Nat.not_lt_zero _)
    | succ M =>
      rw [FC_X4_callUp_L2]
      by_cases c : n ≤ i
      · rw [cu_S0 c, if_pos c]; exact ⟨rfl, h⟩
      · have h0 : 0 < gA S 35 b := by clear ih h; grind
        rw [cu_S (by clear ih h; grind), if_neg c, gLt_x, (lck h.2.2 hb hk).2.2.2, Option.getD_some, R_first2 h.2.2 hb hk, if_neg (by clear ih h; grind), gC_p, gO_1, gLt_x, gLt_x]
        have st := sg_stp h.1 hb h0
        refine ih M (i + 1) _ _ (s_cu1 h hb hk ho h0) ?_ ?_ (by clear ih h st; grind) (by clear ih h st; grind) n8 ?_ (msd hN (by clear ih h st; grind) (by clear ih h st; grind)) (msd hM (by clear ih h st; grind) (by clear ih h st; grind))
        · rw [st.1.2.2.1 28 b (by simp)]; exact hk
        · rw [sg_31 h.1 hb ho]; exact ho
        · have := st.2; clear ih h st; grind
theorem cu_gs {b n t k : Int32} (hb : 0 ≤ b ∧ b < 24) (ht : 0 ≤ t ∧ t < 8) : ∀ (N : Nat) (i : Int32) (S : mS), mInv S → nR S t → gA S 21 t = 0 → gA S 28 b = 1 → 0 ≤ gA S 31 b → 0 ≤ i → n ≤ 8 → n - i ≤ gA S 35 b → (n - i).toInt.toNat < N → i ≤ n →
    G_atLock_L309 b n N i (gs S t k) = (1, gs (G_atLock_L309 b n N i S).2 t k) ∧ gA (G_atLock_L309 b n N i S).2 13 t = gA S 13 t := by
  intro N
  induction N with
  | zero => intro i S _ _ _ _ _ _ _ _ h; exact absurd h (Nat.not_lt_zero _)
  | succ N ih =>
    intro i S hm hn h21 hk ho i0 n8 hr hN i1
    by_cases c : n ≤ i
    · rw [cu_S0 c, cu_S0 c]; exact ⟨rfl, rfl⟩
    · have h0 : 0 < gA S 35 b := by clear ih hm; grind
      obtain ⟨u0, u1, u13, u16, u21, u22, -⟩ := fst2 hm hb h0
      have ut : gA S 34 (8 * b) ≠ t := fun q => u21 (by rw [q]; exact h21)
      have st := sg_stp hm hb h0
      have z4 := st.1.2.2.2 t ht.1 ht.2 hn h21
      rw [cu_S (by clear ih hm; grind), cu_S (by clear ih hm; grind), gs_o (show (34 : Nat) ≠ 13 by decide) (show (34 : Nat) ≠ 15 by decide), sig_gs hm hb ut ⟨u0, u1⟩ u21 u16 ho]
      have r := ih (i + 1) _ st.1.1 z4.1 z4.2.2.2 (by rw [st.1.2.2.1 28 b (by simp)]; exact hk) (by rw [sg_31 hm hb ho]; exact ho) (by clear ih hm st; grind) n8 (by have := st.2; clear ih hm st; grind) (msd hN (by clear ih hm st; grind) (by clear ih hm st; grind)) (by clear ih hm st; grind)
      exact ⟨r.1, r.2.trans z4.2.1⟩
section ATS
variable {ad : adT} {B : Int32} {S : mS} {X : xS} {b t : Int32}
theorem callUp_e {o : Nat} {m : Int32} : FC_X4_callUp X o m = FC_X4_callUp_L2 o m ((if 0 ≤ m then m - 0 else 0).toInt.toNat + 1) 0 X := by rw [FC_X4_callUp, gLt]
theorem J304_e {n : Int32} : G_atLock_J304 S b n = G_atLock_L309 b n ((n - 0).toInt.toNat + 1) 0 S := by rw [G_atLock_J304, gLt]
/-- so many of the second row come to the first, behind its own going on -/
theorem s_call {n : Int32} (h : Sim ad B S X) (hf : fre S t) (hb : 0 ≤ b ∧ b < 24) (hk : gA S 28 b = 1) (ho : gA S 31 b = t) (n0 : 0 ≤ n) (hn : n ≤ gA S 35 b) : Sim ad B (fin t (gA S 15 t + 1) (G_atLock_J304 S b n)) (FC_X4_callUp (FC_X8_goOn X (ad 0 t)) (ad 2 b) n) := by
  have z1 := s_go h hf
  have l8 := (pre_l2 hb h.1).2
  have k1 : gA (gs S t (gA S 15 t + 1)) 28 b = 1 := by rw [gs_o (by decide) (by decide)]; exact hk
  have o0 : 0 ≤ gA S 31 b := by rw [ho]; exact hf.1.1
  have r := s_cu (ad := ad) (B := B) (n := n) hb ((n - 0).toInt.toNat + 1) ((if 0 ≤ n then n - 0 else 0).toInt.toNat + 1) 0 _ _ z1 k1 (by rw [gs_o (by decide) (by decide)]; exact o0) (by decide) n0 (by clear h z1; grind) (by rw [gs_o (by decide) (by decide)]; clear h z1; grind) (Nat.lt_succ_self _) (by rw [if_pos n0]; exact Nat.lt_succ_self _)
  have g := cu_gs (k := gA S 15 t + 1) hb hf.1 ((n - 0).toInt.toNat + 1) 0 S h.1 hf.2.2.2 hf.2.2.1 hk o0 (by decide) (n := n) (by clear h z1 r; grind) (by clear h z1 r; grind) (Nat.lt_succ_self _) n0
  have r0 := s_cu (ad := ad) (B := B) (n := n) hb ((n - 0).toInt.toNat + 1) ((n - 0).toInt.toNat + 1) 0 S X h hk o0 (by decide) n0 (by clear h z1 r g; grind) (by clear h z1 r g; grind) (Nat.lt_succ_self _) (Nat.lt_succ_self _)
  rw [callUp_e, J304_e]
  have e : G_atLock_L309 b n ((n - 0).toInt.toNat + 1) 0 S = (1, (G_atLock_L309 b n ((n - 0).toInt.toNat + 1) 0 S).2) := by rw [← r0.1]
  rw [e, fin_1 (g.2.trans hf.2.1)]
  rw [g.1] at r
  exact r.2
theorem s_l12 (h : Sim ad B S X) (hB : 1 ≤ B ∧ B ≤ 1000000000) (hf : fre S t) (hb : 0 ≤ b ∧ b < 24) (hk : gA S 28 b = 1) : Sim ad (B + 8) (fin t (gA S 15 t + 1) (G_atLock S t 12 b)) (FC_X4_perform X (ad 2 b) (ad 0 t) 13) := by
  by_cases ho : gA S 31 b = t
  · refine s_mono ?_ (b8 hB)
    obtain ⟨l3, l4, l5, l6⟩ := lck h.2.2 hb hk
    have z1 := s_go h hf
    have k1 : gA (gs S t (gA S 15 t + 1)) 28 b = 1 := by rw [gs_o (by decide) (by decide)]; exact hk
    have x6 := (lck z1.2.2 hb k1).2.2.2
    have x35 := (z1.2.2.2.2.2.2.2.2.2.2.2.2.1 b hb.1 hb.2 k1).1
    rw [gs_o (by decide) (by decide)] at x35
    rw [FC_X4_perform, if_neg (by decide), if_neg (by decide), gLt_x, gLt_x, l3, (th0 h.2.2 hf.1).1, if_pos ho, if_neg (by decide), if_neg (by decide), if_pos rfl, gLt_x, if_pos rfl, gLt_x, gLt_x, gLt_x, x6, Option.getD_some, x35]
    rw [G_atLock, if_neg (by decide), if_neg (by decide), if_pos ho, if_neg (by decide), if_neg (by decide), if_pos rfl]
    exact s_call h hf hb hk ho (pre_l2 hb h.1).1 (Int32.le_refl _)
  · exact s_mono (s_ln h hf hb hk (by decide) (by decide) (by decide) (by decide) ho) (b8 hB)
theorem s_l11 (h : Sim ad B S X) (hB : 1 ≤ B ∧ B ≤ 1000000000) (hf : fre S t) (hb : 0 ≤ b ∧ b < 24) (hk : gA S 28 b = 1) : Sim ad (B + 8) (fin t (gA S 15 t + 1) (G_atLock S t 11 b)) (FC_X4_perform X (ad 2 b) (ad 0 t) 12) := by
  by_cases ho : gA S 31 b = t
  · refine s_mono ?_ (b8 hB)
    obtain ⟨l3, l4, l5, l6⟩ := lck h.2.2 hb hk
    have z1 := s_go h hf
    have k1 : gA (gs S t (gA S 15 t + 1)) 28 b = 1 := by rw [gs_o (by decide) (by decide)]; exact hk
    have x6 := (lck z1.2.2 hb k1).2.2.2
    rw [FC_X4_perform, if_neg (by decide), if_neg (by decide), gLt_x, gLt_x, l3, (th0 h.2.2 hf.1).1, if_pos ho, if_neg (by decide), if_pos rfl, gLt_x, if_neg (by decide), gLt_x]
    rw [G_atLock, if_neg (by decide), if_neg (by decide), if_pos ho, if_neg (by decide), if_neg (by decide), if_neg (by decide)]
    by_cases c : gA S 35 b ≤ 0
    · rw [if_pos c]
      have z := s_call (n := 0) h hf hb hk ho (by decide) (pre_l2 hb h.1).1
      have e : ∀ m M, FC_X4_callUp_L2 (ad 2 b) m (M + 1) 0 (FC_X8_goOn X (ad 0 t)) = FC_X8_goOn X (ad 0 t) := fun m M => by
        rw [FC_X4_callUp_L2]
        by_cases y : m ≤ 0
        · rw [if_pos y]
        · rw [if_neg y, gLt_x, x6, Option.getD_some, R_first2 z1.2.2 hb k1, gs_o (by decide) (by decide), if_pos c, gC_p, gO_0]
      rw [callUp_e, e] at z ⊢
      exact z
    · rw [if_neg c]
      exact s_call h hf hb hk ho (by decide) (by clear h z1; grind)
  · exact s_mono (s_ln h hf hb hk (by decide) (by decide) (by decide) (by decide) ho) (b8 hB)
end ATS

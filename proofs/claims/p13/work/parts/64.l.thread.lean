/-! both side by side: thread, whole -/
/-- the class's fields of a THREAD that begins -/
def f6 (o : Nat) (n : Int32) (Y : xS) : xS := xwI (xwI (xwI (xwI (xwI (xwI Y o 12 n) o 1 1) o 2 0) o 3 0) o 4 0) o 5 0
theorem stL {ad : adT} {v n : Int32} (hj : inj ad) : ∀ (N : Nat) (i : Int32) (X : xS), 0 ≤ i → i ≤ 240 → (240 - i).toInt.toNat < N → xR X (ad 0 v) 11 = some (ad 1 v) →
    ∃ Y, FC_X8_start_L2 (ad 0 v) (ad 10 0) n N i X = f6 (ad 0 v) n Y ∧ (∀ a k, a ≠ ad 1 v → xA Y a k = xA X a k) ∧ (∀ k, 0 ≤ k → k < i → xA Y (ad 1 v) k = xA X (ad 1 v) k) ∧ (∀ k, i ≤ k → k < 240 → xA Y (ad 1 v) k = xA X (ad 10 0) k) ∧ (∀ a j, xI Y a j = xI X a j) ∧ (∀ a j, xJ Y a j = xJ X a j) ∧ (∀ a j, xR Y a j = xR X a j) ∧ (∀ a j, xQ Y a j = xQ X a j) ∧ (∀ a, xC Y a = xC X a) := by
  intro N
  induction N with
  | zero => intro i X _ _ h; exact absurd h (Nat.not_lt_zero _)
  | succ N ih =>
    intro i X i0 i1 hN hR
    rw [FC_X8_start_L2, gLt_x, hR, Option.getD_some]
    by_cases c : 240 ≤ i
    · rw [if_pos c]
      repeat rw [gLt_x]
      refine ⟨X, rfl, fun _ _ _ => rfl, fun _ _ _ => rfl, fun k k0 k1 => ?_, fun _ _ => rfl, fun _ _ => rfl, fun _ _ => rfl, fun _ _ => rfl, fun _ => rfl⟩
      exfalso; clear ih; grind
    · rw [if_neg c, if_neg c]
      repeat rw [gLt_x]
      obtain ⟨Y, y1, y2, y3, y4, y5, y6, y7, y8, y9⟩ := ih (i + 1) (xwA X (ad 1 v) i (xA X (ad 10 0) i)) (by clear ih; grind) (by clear ih; grind) (msd hN (by clear ih; grind) (by clear ih; grind)) hR
      have n10 : ad 10 0 ≠ ad 1 v := fun z => absurd (hj _ _ _ _ z).1 (by decide)
      refine ⟨Y, y1, fun a k ne => ?_, fun k k0 k1 => ?_, fun k k0 k1 => ?_, y5, y6, y7, y8, y9⟩
      · rw [y2 a k ne, xA_A, if_neg (fun z => ne z.1)]
      · rw [y3 k k0 (by clear ih y1 y2 y3 y4 y5 y6 y7 y8 y9; grind), xA_A, if_neg (fun z => by have := tn_inj k0 i0 z.2; clear ih y1 y2 y3 y4 y5 y6 y7 y8 y9; grind)]
      · by_cases d : k = i
        · subst d
          rw [y3 k i0 (by clear ih y1 y2 y3 y4 y5 y6 y7 y8 y9; grind), xA_A, if_pos ⟨rfl, rfl⟩]
        · rw [y4 k (by clear ih y1 y2 y3 y4 y5 y6 y7 y8 y9; grind) k1, xA_A, if_neg (fun z => n10 z.1)]
/-- the reference's fields of a THREAD that begins -/
def g9 (v n : Int32) (T : mS) : mS := sA (sA (sA (sA (sA (sA (sA (sA (sA T 12 v n) 13 v 1) 14 v 0) 15 v 0) 16 v (-1)) 17 v 0) 20 v 0) 21 v 0) 22 v 0
theorem ix_o {v x y : Int32} (hv : 0 ≤ v ∧ v < 8) (hx : 0 ≤ x ∧ x < 240) (hy : 0 ≤ y ∧ y < 240) (h : 240 * v + x = 240 * v + y) : x = y := by grind
theorem cpL {v n : Int32} (hv : 0 ≤ v ∧ v < 8) (hn : 0 ≤ n ∧ n ≤ 60) : ∀ (N : Nat) (x : Int32) (S : mS), 0 ≤ x → x ≤ 4 * n → gI S 6 = n → (4 * n - x).toInt.toNat < N →
    ∃ T, G_thread_L72 v N x S = (v, g9 v n T) ∧ (∀ k, gI T k = gI S k) ∧ (∀ k, gJ T k = gJ S k) ∧ (∀ k i, gL T k i = gL S k i) ∧ (∀ k i, k ≠ 11 → gA T k i = gA S k i) ∧ (∀ j, x ≤ j → j < 4 * n → gA T 11 (240 * v + j) = gA S 5 j) ∧ (∀ y, (∀ j, x ≤ j → j < 4 * n → y ≠ 240 * v + j) → gA T 11 y = gA S 11 y) := by
  intro N
  induction N with
  | zero => intro x S _ _ _ h; exact absurd h (Nat.not_lt_zero _)
  | succ N ih =>
    intro x S x0 x1 h6 hN
    have n4 : 0 ≤ 4 * n ∧ 4 * n ≤ 240 := by clear ih; grind
    rw [G_thread_L72, h6]
    by_cases c : 4 * n ≤ x
    · rw [if_pos c]
      repeat rw [gLt_x]
      refine ⟨S, ?_, fun _ => rfl, fun _ => rfl, fun _ _ => rfl, fun _ _ _ => rfl, fun j j0 j1 => ?_, fun _ _ => rfl⟩
      · rw [g9, show vp_nar .boolean 0 = 0 by decide]
      · exfalso; generalize 4 * n = m at *; clear ih; grind
    · rw [if_neg c]
      repeat rw [gLt_x]
      generalize hm : 4 * n = m at *
      obtain ⟨T, t1, t2, t3, t4, t5, t6, t7⟩ := ih (x + 1) (sA S 11 (240 * v + x) (gA S 5 x)) (by clear ih; grind) (by clear ih; grind) h6 (msd hN (by clear ih; grind) (by clear ih; grind))
      refine ⟨T, t1, t2, t3, t4, fun k i ne => by rw [t5 k i ne, gA_sA, if_neg ne], fun j j0 j1 => ?_, fun y hy => ?_⟩
      · by_cases d : j = x
        · subst d
          rw [t7 _ (fun i i0 i1 z => by
            have := ix_o hv ⟨x0, by clear ih t1 t2 t3 t4 t5 t6 t7; grind⟩ ⟨by clear ih t1 t2 t3 t4 t5 t6 t7; grind, by clear ih t1 t2 t3 t4 t5 t6 t7; grind⟩ z
            clear ih t1 t2 t3 t4 t5 t6 t7; grind), gA_sA, if_pos rfl, if_pos rfl]
        · rw [t6 j (by clear ih t1 t2 t3 t4 t5 t6 t7; grind) j1, gA_sA, if_neg (by decide)]
      · rw [t7 y (fun i i0 i1 => hy i (by clear ih t1 t2 t3 t4 t5 t6 t7 hy; grind) i1), gA_sA, if_pos rfl, if_neg (hy x (Int32.le_refl _) (by clear ih t1 t2 t3 t4 t5 t6 t7 hy; grind))]
theorem cM_cg {x x2 : Int32 → Int32} {k q a b c q2 a2 b2 c2 : Int32} (h : cM x k q a b c) (e0 : x2 (4 * k) = x (4 * k)) (e1 : x2 (4 * k + 1) = x (4 * k + 1)) (e2 : x2 (4 * k + 2) = x (4 * k + 2)) (e3 : x2 (4 * k + 3) = x (4 * k + 3)) (f0 : q2 = q) (f1 : a2 = a) (f2 : b2 = b) (f3 : c2 = c) : cM x2 k q2 a2 b2 c2 := by
  subst f0 f1 f2 f3
  unfold cM at h ⊢
  rw [e0, e1, e2, e3]; exact h
theorem pr_eta {α β : Type} (p : α × β) : (p.1, p.2) = p := rfl
section TH
variable {ad : adT} {B : Int32} {S : mS} {X : xS} {v n : Int32}
/-- both begin v -/
theorem t_begin (h : Sim ad B S X) (hv : 0 ≤ v ∧ v < 8) (hs : ¬ (1 ≤ gA S 13 v ∧ gA S 13 v ≤ 3)) (hn : 0 ≤ n ∧ n ≤ 60) (h6 : gI S 6 = n) (hc : cOk9 ad n S X) (m9 : mInv (G_thread_L72 v ((4 * gI S 6 - 0).toInt.toNat + 1) 0 S).2) :
    (G_thread_L72 v ((4 * gI S 6 - 0).toInt.toNat + 1) 0 S).1 = v ∧ gI (G_thread_L72 v ((4 * gI S 6 - 0).toInt.toNat + 1) 0 S).2 0 = gI S 0 ∧ Sim ad B (G_thread_L72 v ((4 * gI S 6 - 0).toInt.toNat + 1) 0 S).2 (FC_X8_start X (ad 0 v) (ad 10 0) n) := by
  have hj := h.2.2.1
  have hR := (h.2.2.2.2.2.1 v hv.1 hv.2).2.2.2.2.2.2.2.2.2.2.1
  obtain ⟨Y, y1, y2, -, y4, y5, y6, y7, y8, y9⟩ := stL (n := n) hj (((240 : Int32) - 0).toInt.toNat + 1) 0 X (by decide) (by decide) (Nat.lt_succ_self _) hR
  obtain ⟨T, t1, t2, t3, t4, t5, t6, t7⟩ := cpL hv hn ((4 * gI S 6 - 0).toInt.toNat + 1) 0 S (by decide) (by clear h hc y1 y2 y4; grind) h6 (by rw [h6]; exact Nat.lt_succ_self _)
  rw [t1] at m9 ⊢
  rw [FC_X8_start, gLt_x, y1]
  refine ⟨rfl, t2 0, ?_⟩
  have n240 : 0 ≤ 4 * n ∧ 4 * n ≤ 240 := by clear h hc y1 y2 y4 t1 t2 t3 t4 t5 t6 t7; grind
  have k11 : ∀ y, gA (g9 v n T) 11 y = gA T 11 y := fun y => by simp [g9, gA_sA]
  refine Sim_new (n := n) h hv hs m9 (t2 26) (t2 2) (fun k => t3 k) (fun k i => t4 k i) (fun k i k5 k1 kt => ?_) (fun k u kt ne => ?_) (fun t i t0 ta te i0 i1 => ?_) (by simp [g9, gA_sA]) (by simp [g9, gA_sA]) (by simp [g9, gA_sA]) (by simp [g9, gA_sA]) (by simp [g9, gA_sA]) (by simp [g9, gA_sA]) (by simp [g9, gA_sA]) (by simp [g9, gA_sA]) (fun a j ne => ?_) (fun a i ne => y2 a i ne) (fun a j => y6 a j) (fun a j => y7 a j) (fun a j => y8 a j) (fun a => y9 a) (by simp [f6, xI_I]) (by simp [f6, xI_I]) (by simp [f6, xI_I]) (by simp [f6, xI_I]) (by simp [f6, xI_I]) (by simp [f6, xI_I]) (fun k k0 k1 => ?_)
  · simp only [thK, not_or] at kt
    rw [← t5 k i k1]
    simp [g9, gA_sA, kt]
  · have k11 : k ≠ 11 := fun z => by subst z; simp [thK] at kt
    rw [← t5 k u k11]
    simp [g9, gA_sA, ne]
  · rw [k11, t7]
    intro j j0 j1 z
    exact te (ix240 ⟨t0, ta⟩ hv ⟨i0, i1⟩ ⟨j0, by clear h hc y1 y2 y4 t1 t2 t3 t4 t5 t6 t7; grind⟩ z).1
  · rw [← y5 a j]
    simp only [f6, xI_I]
    by_cases a0 : a = ad 0 v
    · subst a0
      have nj : ¬ (j = 1 ∨ j = 2 ∨ j = 3 ∨ j = 4 ∨ j = 5 ∨ j = 12) := fun z => ne ⟨rfl, z⟩
      simp only [not_or] at nj
      simp [nj]
    · simp [a0]
  · have o := hc k k0 k1
    have w0 : 0 ≤ 4 * k ∧ 4 * k < 4 * n := by clear h hc y1 y2 y4 t1 t2 t3 t4 t5 t6 t7 o; grind
    have w1 : 0 ≤ 4 * k + 1 ∧ 4 * k + 1 < 4 * n := by clear h hc y1 y2 y4 t1 t2 t3 t4 t5 t6 t7 o; grind
    have w2 : 0 ≤ 4 * k + 2 ∧ 4 * k + 2 < 4 * n := by clear h hc y1 y2 y4 t1 t2 t3 t4 t5 t6 t7 o; grind
    have w3 : 0 ≤ 4 * k + 3 ∧ 4 * k + 3 < 4 * n := by clear h hc y1 y2 y4 t1 t2 t3 t4 t5 t6 t7 o; grind
    have l240 : ∀ z : Int32, z < 4 * n → z < 240 := fun z hz => Int32.lt_of_lt_of_le hz n240.2
    refine cM_cg o (y4 _ w0.1 (l240 _ w0.2)) (y4 _ w1.1 (l240 _ w1.2)) (y4 _ w2.1 (l240 _ w2.2)) (y4 _ w3.1 (l240 _ w3.2)) ?_ ?_ ?_ ?_
    · rw [k11, t6 _ w0.1 w0.2]
    · rw [k11, Int32.add_assoc, t6 _ w1.1 w1.2]
    · rw [k11, Int32.add_assoc, t6 _ w2.1 w2.2]
    · rw [k11, Int32.add_assoc, t6 _ w3.1 w3.2]
theorem isV_e (hv : 0 ≤ v ∧ v < 8) (h : Sim ad B S X) : FC_X8_isVacant X (ad 0 v) = (if 1 ≤ gA S 13 v ∧ gA S 13 v ≤ 3 then 0 else 1, X) := by
  have z := (h.2.2.2.2.2.1 v hv.1 hv.2).2.1
  have y := h.2.1.2.1 v hv.1 hv.2
  have y1 := y.1
  have y2 := y.2.1
  rw [FC_X8_isVacant, gLt_x, z]
  generalize gA S 13 v = s at *
  clear h y z
  by_cases a : s = 0
  · rw [if_pos a, if_neg (by grind)]
  · rw [if_neg a]
    by_cases b : s = 4
    · rw [if_pos b, if_neg (by grind)]
    · rw [if_neg b]
      by_cases c : s = 5
      · rw [if_pos c, if_neg (by grind)]
      · rw [if_neg c, if_pos (by grind)]
theorem t_find (h : Sim ad B S X) (hn : 0 ≤ n ∧ n ≤ 60) (h6 : gI S 6 = n) (x1 : xI X (ad 9 0) 1 = n) (hc : cOk9 ad n S X) : ∀ (N : Nat) (v : Int32), 0 ≤ v → v ≤ 8 → (8 - v).toInt.toNat < N → mInv (G_thread_L27 S N v).2 → Both ad B (G_thread_L27 S N v) (FC_X12_thread_L32 (ad 8 0) N v X) := by
  intro N
  induction N with
  | zero => intro v _ _ h; exact absurd h (Nat.not_lt_zero _)
  | succ N ih =>
    intro v v0 v8 hN m9
    have k1 := h.2.2.2.1
    have z := h.2.2.2.2.1
    rw [FC_X12_thread_L32, gLt_x, k1.2.2.1, Option.getD_some]
    rw [G_thread_L27] at m9 ⊢
    by_cases c : 8 ≤ v
    · have e8 : v = 8 := by clear ih h; grind
      rw [if_pos c, if_pos e8] at m9
      rw [if_pos c, if_pos c, if_pos e8]
      rw [G_refuse, gLt_x, gC_p] at m9 ⊢
      exact ⟨by simp [gI_sI], fun q => absurd q (show ¬ (1 : Int32) = 0 by decide), s_I (k := 0) (v := 1) h (by decide)⟩
    · have hv : 0 ≤ v ∧ v < 8 := ⟨v0, by clear ih h; grind⟩
      have n8 : ¬ v = 8 := by clear ih h; grind
      rw [if_neg c] at m9
      rw [if_neg c, if_neg c, k1.2.2.2.2.2.2 v hv.1 hv.2, Option.getD_some]
      repeat rw [gLt_x] at m9
      repeat rw [gLt_x]
      rw [isV_e hv h]
      by_cases d : 1 ≤ gA S 13 v ∧ gA S 13 v ≤ 3
      · rw [in_1 d, if_neg (show ¬ (1 : Int32) = 0 by decide)] at m9
        rw [in_1 d, if_neg (show ¬ (1 : Int32) = 0 by decide), if_pos d, gC_p, if_pos (show (0 : Int32) = 0 from rfl), gLt_x]
        exact ih (v + 1) (by clear ih h; grind) (by clear ih h; grind) (msd hN (by clear ih h; grind) (by clear ih h; grind)) m9
      · rw [in_0 d, if_pos (show (0 : Int32) = 0 from rfl), if_neg n8] at m9
        rw [in_0 d, if_pos (show (0 : Int32) = 0 from rfl), if_neg n8, if_neg d, gC_p, if_neg (show ¬ (1 : Int32) = 0 by decide)]
        repeat rw [gLt_x]
        rw [k1.2.2.1, k1.1, Option.getD_some, Option.getD_some, k1.2.2.2.2.2.2 v hv.1 hv.2, z.1, Option.getD_some, Option.getD_some, x1]
        have h0 := s_I (k := 0) (v := 0) h (by decide)
        have g := t_begin (v := v) h0 hv d hn h6 hc m9
        have e0 : gI (sI S 0 0) 0 = 0 := by simp [gI_sI]
        generalize G_thread_L72 v ((4 * gI (sI S 0 0) 6 - 0).toInt.toNat + 1) 0 (sI S 0 0) = w at g ⊢
        generalize FC_X8_start X (ad 0 v) (ad 10 0) n = y at g ⊢
        exact ⟨by rw [g.2.1, e0], fun _ => g.1.symm, g.2.2⟩
theorem t_thread1 {S1 : mS} {r : Int32 × xS} (h : Sim ad B S X) (m1 : mInv S1) (rd : RdR ad X r S1) (r1 : gI S1 2 = 0) (r11 : gI S1 26 = gI S 26) (r12 : ∀ k, gJ S1 k = gJ S k) (r13 : ∀ k i, k ≠ 5 → gA S1 k i = gA S k i) (r14 : ∀ k i, gL S1 k i = gL S k i)
    (m9 : mInv (if gI (sI S1 3 (gI S1 10)) 10 < 0 then G_thread_L27 (sI S1 3 (gI S1 10)) ((8 - 0 : Int32).toInt.toNat + 1) 0 else ((0 : Int32), sI (sI S1 3 (gI S1 10)) 0 2)).2) :
    Both ad B (if gI (sI S1 3 (gI S1 10)) 10 < 0 then G_thread_L27 (sI S1 3 (gI S1 10)) ((8 - 0 : Int32).toInt.toNat + 1) 0 else ((0 : Int32), sI (sI S1 3 (gI S1 10)) 0 2)) (if r.1 = 0 then ((2 : Int32), (0 : Int32), xwI r.2 (ad 9 0) 2 0) else FC_X12_thread_L32 (ad 8 0) ((8 - 0 : Int32).toInt.toNat + 1) 0 (xwI r.2 (ad 9 0) 2 0)) := by
  obtain ⟨fr, rr⟩ := rd
  have rel := Rel_rd (S9 := sI S1 3 (gI S1 10)) h.2.2 fr (by rw [gI_sI, if_neg (by decide)]; exact r11) (fun k => r12 k) (fun k i ne => r13 k i ne) (fun k i => r14 k i) (by rw [gI_sI, if_neg (by decide)]; exact r1)
  have jj : jIn (sI S1 3 (gI S1 10)) B (-1) := j_sm h.2.1 (fun k i hk => r13 k i (by unfold jK at hk; omega))
  have ms : mInv (sI S1 3 (gI S1 10)) := mInv_sm m1 (by
    have z := m1.1
    unfold iT at z ⊢
    rw [gI_sI, gI_sI, if_neg (by decide), if_neg (by decide)]; exact z) (fun _ _ _ => rfl)
  have sim : Sim ad B (sI S1 3 (gI S1 10)) (xwI r.2 (ad 9 0) 2 0) := ⟨ms, jj, rel⟩
  have e10 : gI (sI S1 3 (gI S1 10)) 10 = gI S1 10 := by rw [gI_sI, if_neg (by decide)]
  have e6 : gI (sI S1 3 (gI S1 10)) 6 = gI S1 6 := by rw [gI_sI, if_neg (by decide)]
  rcases rr with ⟨a1, a2, a3, a4, a5⟩ | ⟨a1, a2⟩
  · rw [e10, if_pos a2] at m9
    rw [e10, if_pos a2, if_neg (show ¬ r.1 = 0 by rw [a1]; decide)]
    exact t_find sim a4 e6 (by rw [xI_I, if_neg (fun z => absurd z.2 (by decide))]; exact a3) (fun k k0 k1 => a5 k k0 k1) ((8 - 0 : Int32).toInt.toNat + 1) 0 (by decide) (by decide) (Nat.lt_succ_self _) m9
  · have na : ¬ gI S1 10 < 0 := by clear h rel jj ms sim m9 m1 fr r12 r13 r14; grind
    rw [e10, if_neg na, if_pos a1]
    exact ⟨by simp [gI_sI], fun q => absurd q (show ¬ (2 : Int32) = 0 by decide), s_I (k := 0) (v := 2) sim (by decide)⟩
theorem th_e1 : G_thread S = if gI (sI (G_read S) 3 (gI (G_read S) 10)) 10 < 0 then G_thread_L27 (sI (G_read S) 3 (gI (G_read S) 10)) ((8 - 0 : Int32).toInt.toNat + 1) 0 else ((0 : Int32), sI (sI (G_read S) 3 (gI (G_read S) 10)) 0 2) := by
  rw [G_thread, gLt_x, gLt_x, gLt_x, G_refuse, gLt_x, gC_p]
theorem th_e2 (h8 : xR X (ad 8 0) 0 = some (ad 9 0)) (h9 : xR (FC_X10_read X (ad 9 0)).2 (ad 8 0) 0 = some (ad 9 0)) : FC_X12_thread X (ad 8 0) = if (FC_X10_read X (ad 9 0)).1 = 0 then ((2 : Int32), (0 : Int32), xwI (FC_X10_read X (ad 9 0)).2 (ad 9 0) 2 0) else FC_X12_thread_L32 (ad 8 0) ((8 - 0 : Int32).toInt.toNat + 1) 0 (xwI (FC_X10_read X (ad 9 0)).2 (ad 9 0) 2 0) := by
  rw [FC_X12_thread, gLt_x, h8, Option.getD_some, gC_pr, gLt_x, gLt_x, gLt_x, h9, Option.getD_some]
theorem t_thread (h : Sim ad B S X) : Both ad B (G_thread S) (FC_X12_thread X (ad 8 0)) := by
  have hm := p_thread S h.1 _ _ (pr_eta (G_thread S))
  have m9 := hm.1
  have hb : 0 ≤ gI S 2 ∧ gI S 2 ≤ 1600 := ⟨h.1.1.1, h.1.1.2.1⟩
  have rd := t_read h.2.2 hb
  have pr := p_read S hb (G_read S) rfl
  have m1 := th_r h.1 pr
  have k1 := h.2.2.2.1
  have h9 : xR (FC_X10_read X (ad 9 0)).2 (ad 8 0) 0 = some (ad 9 0) := by rw [rd.1.2.2.1]; exact k1.1
  rw [th_e1] at m9
  rw [th_e1, th_e2 k1.1 h9]
  clear hm h9
  generalize FC_X10_read X (ad 9 0) = r at rd ⊢
  generalize G_read S = S1 at m9 rd pr m1 ⊢
  obtain ⟨r1, -, -, -, -, -, r7, r8, r9, r10, r11, r12, r13, r14⟩ := pr
  exact t_thread1 h m1 rd r1 (r11 26 (by decide) (by decide) (by decide) (by decide) (by decide) (by decide)) r12 r13 r14 m9
end TH

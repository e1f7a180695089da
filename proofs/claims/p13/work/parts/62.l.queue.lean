/-! both side by side: put, offer, take, poll -/
section QU
variable {ad : adT} {B : Int32} {S : mS} {X : xS} {b t v : Int32}
theorem append_e : G_append S b v = sA (sA S 36 (100 * b + gA S 37 b) v) 37 b (gA S 37 b + 1) := by
  rw [G_append, gLt_x, gLt_x]; simp [gA_sA]
theorem que {e : Int32} (h : Rel ad e S X) (hb : 0 ≤ b ∧ b < 24) (hk : gA S 28 b = 5) : xR X (ad 2 b) 3 = some (ad 7 b) ∧ nI (xC X (ad 7 b)) = gA S 29 b ∧ xI X (ad 2 b) 5 = gA S 37 b ∧ (0 ≤ xI X (ad 2 b) 4 ∧ xI X (ad 2 b) 4 < gA S 29 b) :=
  have z := ((h.2.2.2.2.2.2.2.2.1 b hb.1 hb.2).2 (by rw [hk]; decide)).2.2.2.2.2.2.2.2.1 hk
  have y := h.2.2.2.2.2.2.2.2.2.2.2 b hb.1 hb.2 hk
  ⟨z.1, z.2, y.1, y.2.1⟩
theorem app_x {o p : Nat} {hd sz f : Int32} (h4 : xI X o 4 = hd) (h5 : xI X o 5 = sz) (h3 : xR X o 3 = some p) (hc : nI (xC X p) = f) (h1 : 0 ≤ hd ∧ hd < f) (h2 : 0 ≤ sz ∧ sz < f) (h100 : f ≤ 100) : FC_X5_append X o v = xwI (xwA X p (rix hd sz f) v) o 5 (sz + 1) := by
  rw [FC_X5_append, gLt_x, gLt_x, gLt_x, gLt_x, gLt_x, h4, h5, h3, Option.getD_some, hc]
  have r := rix_r h1 h2 h100
  unfold rix at r ⊢
  by_cases c : hd + sz < f
  · rw [if_pos c] at r ⊢
    rw [if_pos c, if_neg (by have := r.1; clear r; grind), if_neg (by clear r; grind), gLt_x, gLt_x, gLt_x]
  · rw [if_neg c] at r ⊢
    rw [if_neg c, gLt_x, if_neg (by have := r.1; clear r; grind), if_neg (by have := r.2; clear r; grind), gLt_x, gLt_x, gLt_x]
theorem q_inv (hm : mInv S) (hb : 0 ≤ b ∧ b < 24) (hk : gA S 28 b = 5) : 0 ≤ gA S 37 b ∧ gA S 37 b ≤ gA S 29 b ∧ gA S 29 b ≤ 100 := (hm.2.2.2.1 b hb.1 hb.2).2.2.2 hk
theorem R_app {e : Int32} (h : Rel ad e S X) (hm : mInv S) (hb : 0 ≤ b ∧ b < 24) (hk : gA S 28 b = 5) (hq : 0 ≤ gA S 37 b ∧ gA S 37 b < gA S 29 b) (h100 : gA S 29 b ≤ 100) : Rel ad e (G_append S b v) (FC_X5_append X (ad 2 b) v) := by
  obtain ⟨x3, xc, x5, x4⟩ := que h hb hk
  rw [append_e, app_x rfl x5 x3 xc x4 hq h100]
  exact Rel_app h hm hk hb hq h100
theorem m_app (hm : mInv S) (hb : 0 ≤ b ∧ b < 24) (hq : gA S 28 b = 5 → 0 ≤ gA S 37 b + 1 ∧ gA S 37 b + 1 ≤ gA S 29 b) : mInv (G_append S b v) := by
  rw [append_e]
  exact (st_qlen (stp_rf (mInv_irr (k := 36) (i := 100 * b + gA S 37 b) (v := v) hm (by simp [smK]))) hb rfl (fun z => by simpa [gA_sA] using hq (by simpa [gA_sA] using z))).1
/-- a VALUE comes to the end of a QUEUE at which none waits -/
theorem s_app (h : Sim ad B S X) (hb : 0 ≤ b ∧ b < 24) (hk : gA S 28 b = 5) (hq : gA S 37 b < gA S 29 b) (h33 : gA S 33 b ≤ 0) : Sim ad B (G_append S b v) (FC_X5_append X (ad 2 b) v) := by
  have q := q_inv h.1 hb hk
  refine ⟨m_app h.1 hb (fun _ => by clear h; grind), ?_, R_app h.2.2 h.1 hb hk ⟨q.1, hq⟩ q.2.2⟩
  rw [append_e]
  refine j_obj (b := b) h.2.1 (fun k i hk => ?_) (fun k d hk hd => ?_) ?_ (fun _ i i0 i1 => ?_)
  · have a1 : k ≠ 36 := by omega
    have a2 : k ≠ 37 := by omega
    simp [gA_sA, a1, a2]
  · have a1 : k ≠ 36 := by omega
    simp [gA_sA, a1, hd]
  · have z := h.2.1.1 b hb.1 hb.2
    simpa [gA_sA] using z
  · exfalso; clear h; grind
end QU
/-- the shift of the row -/
def shL (b : Int32) : Nat → Int32 → mS → mS
  | 0, _, S => S
  | N + 1, i, S => if gA S 37 b ≤ i then S else shL b N (i + 1) (sA S 36 (100 * b + i) (gA S 36 (100 * b + i + 1)))
theorem L200_e {b : Int32} : ∀ (N : Nat) (i : Int32) (S : mS), 0 ≤ i → gA S 37 b ≤ 100 → (gA S 37 b - i).toInt.toNat < N → G_atQueue_L200 b N i S = (1, if gA (shL b N i S) 33 b ≤ 0 then shL b N i S else G_append (fgo (shL b N i S) b) b (gA (fgo (shL b N i S) b) 14 (gA (shL b N i S) 32 (8 * b)))) := by
  intro N
  induction N with
  | zero => intro i S _ _ h; exact absurd h (Nat.not_lt_zero _)
  | succ N ih =>
    intro i S i0 q1 hm
    rw [G_atQueue_L200, shL]
    by_cases c : gA S 37 b ≤ i
    · simp only [if_pos c]
      by_cases d : gA S 33 b ≤ 0
      · rw [if_pos d, if_pos d]
      · rw [if_neg d, if_neg d, fg_e, gC_p, gLt_x]
    · simp only [if_neg c]
      have e : gA (sA S 36 (100 * b + i) (gA S 36 (100 * b + i + 1))) 37 b = gA S 37 b := by simp [gA_sA]
      rw [gLt_x, gLt_x]
      exact ih (i + 1) _ (by clear ih; grind) (by rw [e]; exact q1) (by rw [e]; exact msd hm (by clear ih hm; grind) (by clear ih hm; grind))
theorem shL_c {b : Int32} {k : Nat} {j v : Int32} (h6 : k ≠ 36) (h7 : k ≠ 37) : ∀ (N : Nat) (i : Int32) (S : mS), shL b N i (sA S k j v) = sA (shL b N i S) k j v := by
  intro N
  induction N with
  | zero => intro i S; rw [shL, shL]
  | succ N ih =>
    intro i S
    have e1 : gA (sA S k j v) 37 b = gA S 37 b := by simp [gA_sA, Ne.symm h7]
    have e2 : ∀ q, gA (sA S k j v) 36 q = gA S 36 q := fun q => by simp [gA_sA, Ne.symm h6]
    rw [shL, shL, e1, e2]
    by_cases c : gA S 37 b ≤ i
    · rw [if_pos c, if_pos c]
    · rw [if_neg c, if_neg c, sA_comm (Or.inl h6), ih]
theorem shL_f {b : Int32} (hb : 0 ≤ b ∧ b < 24) : ∀ (N : Nat) (i : Int32) (S : mS), 0 ≤ i → gA S 37 b < 100 → (gA S 37 b - i).toInt.toNat < N →
    (∀ k j, k ≠ 36 → gA (shL b N i S) k j = gA S k j) ∧ (∀ k, gI (shL b N i S) k = gI S k) ∧ (∀ k, gJ (shL b N i S) k = gJ S k) ∧ (∀ k j, gL (shL b N i S) k j = gL S k j) ∧
    (∀ j, i ≤ j → j < gA S 37 b → gA (shL b N i S) 36 (100 * b + j) = gA S 36 (100 * b + (j + 1))) ∧ (∀ j, 0 ≤ j → j < i → gA (shL b N i S) 36 (100 * b + j) = gA S 36 (100 * b + j)) ∧ (∀ d j, 0 ≤ d → d < 24 → d ≠ b → 0 ≤ j → j < 100 → gA (shL b N i S) 36 (100 * d + j) = gA S 36 (100 * d + j)) := by
  intro N
  induction N with
  | zero => intro i S _ _ h; exact absurd h (Nat.not_lt_zero _)
  | succ N ih =>
    intro i S i0 q1 hm
    rw [shL]
    by_cases c : gA S 37 b ≤ i
    · rw [if_pos c]
      exact ⟨fun _ _ _ => rfl, fun _ => rfl, fun _ => rfl, fun _ _ => rfl, fun j j0 j1 => by exfalso; clear ih hm; grind, fun _ _ _ => rfl, fun _ _ _ _ _ _ _ => rfl⟩
    · rw [if_neg c]
      have e : gA (sA S 36 (100 * b + i) (gA S 36 (100 * b + i + 1))) 37 b = gA S 37 b := by simp [gA_sA]
      obtain ⟨r1, r2, r3, r4, r5, r6, r7⟩ := ih (i + 1) (sA S 36 (100 * b + i) (gA S 36 (100 * b + i + 1))) (by clear ih hm; grind) (by rw [e]; exact q1) (by rw [e]; exact msd hm (by clear ih hm; grind) (by clear ih hm; grind))
      rw [e] at r5
      refine ⟨fun k j hk => (r1 k j hk).trans (by simp [gA_sA, hk]), fun k => (r2 k).trans rfl, fun k => (r3 k).trans rfl, fun k j => (r4 k j).trans rfl, fun j j0 j1 => ?_, fun j j0 j1 => ?_, fun d j d0 d1 hd j0 j1 => ?_⟩
      · by_cases y : j = i
        · subst y
          rw [r6 j i0 (by clear ih r1 r2 r3 r4 r5 r6 r7 hm; grind)]
          simp only [gA_sA, if_true]
          rw [show 100 * b + j + 1 = 100 * b + (j + 1) by grind]
        · rw [r5 j (by clear ih r1 r2 r3 r4 r5 r6 r7 hm; grind) j1, gA_sA, if_pos rfl, if_neg (by clear ih r1 r2 r3 r4 r5 r6 r7 hm; grind)]
      · rw [r6 j j0 (by clear ih r1 r2 r3 r4 r5 r6 r7 hm; grind), gA_sA, if_pos rfl, if_neg (by clear ih r1 r2 r3 r4 r5 r6 r7 hm; grind)]
      · rw [r7 d j d0 d1 hd j0 j1, gA_sA, if_pos rfl, if_neg (fun y => hd (ix100 ⟨d0, d1⟩ hb ⟨j0, j1⟩ ⟨i0, by clear ih r1 r2 r3 r4 r5 r6 r7 hm; grind⟩ y).1)]
/-- the first VALUE is taken out -/
def tk (S : mS) (b : Int32) : mS := shL b ((gA S 37 b - 1 - 0).toInt.toNat + 1) 0 (sA S 37 b (gA S 37 b - 1))
section QV
variable {ad : adT} {B : Int32} {S : mS} {X : xS} {b t v : Int32}
theorem tk_f (hm : mInv S) (hb : 0 ≤ b ∧ b < 24) (hk : gA S 28 b = 5) (hq : 0 < gA S 37 b) : (∀ k i, k ≠ 36 → k ≠ 37 → gA (tk S b) k i = gA S k i) ∧ (∀ k, gI (tk S b) k = gI S k) ∧ (∀ k, gJ (tk S b) k = gJ S k) ∧ (∀ k i, gL (tk S b) k i = gL S k i) ∧ (∀ d, d ≠ b → gA (tk S b) 37 d = gA S 37 d) ∧ gA (tk S b) 37 b = gA S 37 b - 1 ∧
    (∀ d j, 0 ≤ d → d < 24 → d ≠ b → 0 ≤ j → j < 100 → gA (tk S b) 36 (100 * d + j) = gA S 36 (100 * d + j)) ∧ (∀ j, 0 ≤ j → j < gA S 37 b - 1 → gA (tk S b) 36 (100 * b + j) = gA S 36 (100 * b + (j + 1))) := by
  have q := q_inv hm hb hk
  have e : gA (sA S 37 b (gA S 37 b - 1)) 37 b = gA S 37 b - 1 := by simp [gA_sA]
  obtain ⟨r1, r2, r3, r4, r5, r6, r7⟩ := shL_f hb ((gA S 37 b - 1 - 0).toInt.toNat + 1) 0 (sA S 37 b (gA S 37 b - 1)) (by decide) (by rw [e]; clear hm; grind) (by rw [e]; exact Nat.lt_succ_self _)
  rw [e] at r5
  exact ⟨fun k i a1 a2 => (r1 k i a1).trans (by simp [gA_sA, a2]), fun k => (r2 k).trans rfl, fun k => (r3 k).trans rfl, fun k j => (r4 k j).trans rfl, fun d hd => (r1 37 d (by decide)).trans (by simp [gA_sA, hd]), (r1 37 b (by decide)).trans e, fun d j d0 d1 hd j0 j1 => (r7 d j d0 d1 hd j0 j1).trans (by simp [gA_sA]), fun j j0 j1 => (r5 j j0 j1).trans (by simp [gA_sA])⟩
theorem R_tk {e : Int32} (h : Rel ad e S X) (hm : mInv S) (hb : 0 ≤ b ∧ b < 24) (hk : gA S 28 b = 5) (hq : 0 < gA S 37 b) : Rel ad e (tk S b) (xwI (xwI X (ad 2 b) 4 (rn (xI X (ad 2 b) 4) (gA S 29 b))) (ad 2 b) 5 (gA S 37 b - 1)) := by
  have q := q_inv hm hb hk
  obtain ⟨a1, a2, a3, a4, a5, a6, a7, a8⟩ := tk_f hm hb hk hq
  exact Rel_out h hm hk hb ⟨hq, q.2.1⟩ q.2.2 a1 a2 a3 a4 a5 a6 a7 a8
theorem taken_e (h : Rel ad (-1) S X) (hb : 0 ≤ b ∧ b < 24) (hk : gA S 28 b = 5) : FC_X5_takenOut X (ad 2 b) = (xA X (ad 7 b) (xI X (ad 2 b) 4), gC (FC_X6_first (xwI (xwI X (ad 2 b) 4 (rn (xI X (ad 2 b) 4) (gA S 29 b))) (ad 2 b) 5 (gA S 37 b - 1)) (ad 3 b)) (fun r Y => gO r Y (fun y => FC_X8_goOn (FC_X5_append Y (ad 2 b) (xI Y y 2)) y))) := by
  obtain ⟨x3, xc, x5, x4⟩ := que h hb hk
  have o2 := ob2 h hb (by rw [hk]; decide)
  have w4 : ∀ w, xI (xwI X (ad 2 b) 4 w) (ad 2 b) 5 = gA S 37 b := fun w => by simp [xI_I, x5]
  have fin9 : ∀ (Y : xS) (z : Int32) (q : Nat), (gC (FC_X6_first Y q) (fun r17 Xf15 => gO r17 (z, Xf15) (fun y18 => gLt (xI Xf15 y18 2) (fun v19_2 => gLt (FC_X5_append Xf15 (ad 2 b) v19_2) (fun Xf21 => gLt (FC_X8_goOn Xf21 y18) (fun Xf25 => (z, Xf25))))))) = (z, gC (FC_X6_first Y q) (fun r Y => gO r Y (fun y => FC_X8_goOn (FC_X5_append Y (ad 2 b) (xI Y y 2)) y))) := fun Y z q => by
    rw [first_e, gC_p, gC_p]
    by_cases c : xI Y q 0 ≤ 0
    · rw [if_pos c]; rfl
    · rw [if_neg c]
      cases xQ Y ((xR Y q 1).getD 0) 0 <;> rfl
  rw [FC_X5_takenOut, gLt_x, gLt_x, gLt_x, x3, Option.getD_some, xc, if_neg (by clear h fin9; grind), gLt_x]
  unfold rn
  by_cases c : gA S 29 b ≤ xI X (ad 2 b) 4 + 1
  · rw [if_pos c, if_pos c, gLt_x, gLt_x, gLt_x, gLt_x, gLt_x, w4, xR_I, xR_I, o2, Option.getD_some]
    exact fin9 _ _ _
  · rw [if_neg c, if_neg c, gLt_x, gLt_x, gLt_x, gLt_x, gLt_x, gLt_x, w4, xR_I, xR_I, o2, Option.getD_some]
    exact fin9 _ _ _
theorem fre_of {S9 : mS} (hf : fre S t) (e13 : gA S9 13 t = gA S 13 t) (e21 : gA S9 21 t = gA S 21 t) (hn : nR S9 t) : fre S9 t := ⟨hf.1, e13.trans hf.2.1, e21.trans hf.2.2.1, hn⟩
theorem app_gA {k : Nat} {i : Int32} (h6 : k ≠ 36) (h7 : k ≠ 37) : gA (G_append S b v) k i = gA S k i := by rw [append_e]; simp [gA_sA, h6, h7]
/-- .. and the first that waits to put puts its own -/
def tkn (S : mS) (b : Int32) : mS := if gA S 33 b ≤ 0 then tk S b else fgo (G_append (tk S b) b (gA S 14 (gA S 32 (8 * b)))) b
theorem s_tk (h : Sim ad B S X) (hb : 0 ≤ b ∧ b < 24) (hk : gA S 28 b = 5) (hq : 0 < gA S 37 b) : FC_X5_takenOut X (ad 2 b) = (gA S 36 (100 * b), (FC_X5_takenOut X (ad 2 b)).2) ∧ Sim ad B (tkn S b) (FC_X5_takenOut X (ad 2 b)).2 ∧ (∀ t, fre S t → fre (tkn S b) t ∧ gA (tkn S b) 15 t = gA S 15 t) := by
  have q := q_inv h.1 hb hk
  have hR := h.2.2
  obtain ⟨x3, xc, x5, x4⟩ := que hR hb hk
  obtain ⟨a1, a2, a3, a4, a5, a6, a7, a8⟩ := tk_f h.1 hb hk hq
  have r1 := R_tk hR h.1 hb hk hq
  have k1 : gA (tk S b) 28 b = 5 := by rw [a1 28 b (by decide) (by decide)]; exact hk
  have v0 : xA X (ad 7 b) (xI X (ad 2 b) 4) = gA S 36 (100 * b) := by
    have z := (hR.2.2.2.2.2.2.2.2.2.2.2 b hb.1 hb.2 hk).2.2 0 (by decide) hq
    rw [rix_0 x4, show 100 * b + 0 = 100 * b by grind] at z
    exact z
  have hf := R_first r1 hb (by rw [k1]; decide)
  rw [a1 33 b (by decide) (by decide), a1 32 _ (by decide) (by decide)] at hf
  rw [taken_e hR hb hk, v0, hf, gC_p]
  refine ⟨rfl, ?_⟩
  show Sim ad B (tkn S b) _ ∧ _
  unfold tkn
  have m1 : mInv (tk S b) := by
    refine (ow_inv (b := b) h.1 ?_ (fun _ => ?_) (fun k q _ b1 b2 b3 => ?_) (fun k d hk9 hd => ?_) (iT_of h.1 a2))
    · rw [a1 31 b (by decide) (by decide)]; exact own_n h.1 hb
    · rw [a6, a1 29 b (by decide) (by decide)]; clear h hR a1 a5 a7 a8 r1; grind
    · by_cases z : k = 36
      · subst z; rename_i hs; exact absurd hs (by simp [smK])
      · exact a1 k q z b3
    · rcases hk9 with z | z | z
      · subst z; exact a1 29 d (by decide) (by decide)
      · subst z; exact a1 31 d (by decide) (by decide)
      · subst z; exact a5 d hd
  by_cases c : gA S 33 b ≤ 0
  · simp only [if_pos c, gO_0]
    refine ⟨⟨m1, ?_, r1⟩, fun t hf => ⟨fre_of hf (a1 13 t (by decide) (by decide)) (a1 21 t (by decide) (by decide)) (fun d i d0 d1 i0 i1 => ?_), a1 15 t (by decide) (by decide)⟩⟩
    · refine j_obj (b := b) h.2.1 (fun k i hk => a1 k i (by omega) (by omega)) (fun k d hk hd => ?_) ?_ (fun _ i i0 i1 => ?_)
      · by_cases z : k = 37
        · subst z; exact a5 d hd
        · exact a1 k d (by omega) z
      · rw [a1 29 b (by decide) (by decide), a1 30 b (by decide) (by decide), a1 31 b (by decide) (by decide)]; exact h.2.1.1 b hb.1 hb.2
      · exfalso; clear h hR a1 a5 a7 a8 r1 m1 hf; grind
    · rw [a1 33 d (by decide) (by decide)] at i1
      rw [a1 32 _ (by decide) (by decide)]
      exact hf.2.2.2 d i d0 d1 i0 i1
  · simp only [if_neg c, gO_1]
    obtain ⟨u0, ua⟩ := row_u h.1 hb c
    have x2 : xI (xwI (xwI X (ad 2 b) 4 (rn (xI X (ad 2 b) 4) (gA S 29 b))) (ad 2 b) 5 (gA S 37 b - 1)) (ad 0 (gA S 32 (8 * b))) 2 = gA S 14 (gA S 32 (8 * b)) := by
      rw [(th0 r1 u0).2.2.1, a1 14 _ (by decide) (by decide)]
    rw [x2]
    have r2 := R_app (v := gA S 14 (gA S 32 (8 * b))) r1 m1 hb k1 ⟨by rw [a6]; clear h hR a1 a5 a7 a8 r1 m1 hf; grind, by rw [a6, a1 29 b (by decide) (by decide)]; clear h hR a1 a5 a7 a8 r1 m1 hf; grind⟩ (by rw [a1 29 b (by decide) (by decide)]; exact q.2.2)
    have p1 : ∀ k i, k ≠ 36 → gA (G_append (tk S b) b (gA S 14 (gA S 32 (8 * b)))) k i = gA S k i := fun k i hk => by
      by_cases z : k = 37
      · subst z
        rw [append_e]
        by_cases y : i = b
        · subst y; simp [gA_sA, a6]
        · simp [gA_sA, y, a5 i y]
      · rw [app_gA hk z]; exact a1 k i hk z
    have pI : ∀ k, gI (G_append (tk S b) b (gA S 14 (gA S 32 (8 * b)))) k = gI S k := fun k => by rw [append_e, gI_sA, gI_sA]; exact a2 k
    generalize G_append (tk S b) b (gA S 14 (gA S 32 (8 * b))) = S2 at *
    have n36 : ∀ k, smK k → k ≠ 36 := fun k hk z => by subst z; exact absurd hk (by simp [smK])
    have j36 : ∀ k, jK k → k ≠ 36 := fun k hk z => by subst z; exact absurd hk (by simp [jK])
    have s2 : Sim ad B S2 (FC_X5_append (xwI (xwI X (ad 2 b) 4 (rn (xI X (ad 2 b) 4) (gA S 29 b))) (ad 2 b) 5 (gA S 37 b - 1)) (ad 2 b) (gA S 14 (gA S 32 (8 * b)))) := ⟨mInv_sm h.1 (iT_of h.1 pI) (fun k i hk => p1 k i (n36 k hk)), j_sm h.2.1 (fun k i hk => p1 k i (j36 k hk)), r2⟩
    have c2 : ¬ gA S2 33 b ≤ 0 := by rw [p1 33 b (by decide)]; exact c
    have s3 := fg_s s2 hb (by rw [p1 28 b (by decide), hk]; decide) c2
    rw [p1 32 _ (by decide)] at s3
    refine ⟨s3, fun t hf => ?_⟩
    have n2 : nR S2 t := fun d i d0 d1 i0 i1 => by
      rw [p1 33 d (by decide)] at i1
      rw [p1 32 _ (by decide)]
      exact hf.2.2.2 d i d0 d1 i0 i1
    have z := (fg_f s2.1 hb c2).1.2.2.2 t hf.1.1 hf.1.2 n2 (by rw [p1 21 t (by decide)]; exact hf.2.2.1)
    exact ⟨⟨hf.1, z.2.1.trans ((p1 13 t (by decide)).trans hf.2.1), z.2.2.2, z.1⟩, z.2.2.1.trans (p1 15 t (by decide))⟩
end QV

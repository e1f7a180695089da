/-! the reference: where a THREAD stands may be written before or after what others do -/
theorem leavesL_c {k : Nat} {j v b u : Int32} (h2 : k ≠ 32) (h3 : k ≠ 33) : ∀ (N : Nat) (n i : Int32) (S : mS), G_leaves_L5 b u N n i (sA S k j v) = sA (G_leaves_L5 b u N n i S) k j v := by
  intro N
  induction N with
  | zero => intro n i S; rw [G_leaves_L5, G_leaves_L5]
  | succ N ih =>
    intro n i S
    have e1 : gA (sA S k j v) 33 b = gA S 33 b := by simp [gA_sA, Ne.symm h3]
    have e2 : ∀ q, gA (sA S k j v) 32 q = gA S 32 q := fun q => by simp [gA_sA, Ne.symm h2]
    rw [G_leaves_L5, G_leaves_L5]
    simp only [gLt_x, e1, e2]
    by_cases c : gA S 33 b ≤ i
    · rw [if_pos c, if_pos c, sA_comm (Or.inl h3)]
    · rw [if_neg c, if_neg c]
      by_cases d : gA S 32 (8 * b + i) = u
      · rw [if_pos d, if_pos d, ih]
      · rw [if_neg d, if_neg d, sA_comm (Or.inl h2), ih]
theorem leaves_c {S : mS} {k : Nat} {j v b u : Int32} (h2 : k ≠ 32) (h3 : k ≠ 33) : G_leaves (sA S k j v) b u = sA (G_leaves S b u) k j v := by
  have e1 : gA (sA S k j v) 33 b = gA S 33 b := by simp [gA_sA, Ne.symm h3]
  rw [leaves_e, leaves_e, e1, leavesL_c h2 h3]
theorem lvL_c {kr kl k : Nat} {j v b u : Int32} (h2 : k ≠ kr) (h3 : k ≠ kl) : ∀ (N : Nat) (n i : Int32) (S : mS), lv_L kr kl b u N n i (sA S k j v) = ((lv_L kr kl b u N n i S).1, sA (lv_L kr kl b u N n i S).2 k j v) := by
  intro N
  induction N with
  | zero => intro n i S; rw [lv_L, lv_L]
  | succ N ih =>
    intro n i S
    have e1 : gA (sA S k j v) kl b = gA S kl b := by simp [gA_sA, Ne.symm h3]
    have e2 : ∀ q, gA (sA S k j v) kr q = gA S kr q := fun q => by simp [gA_sA, Ne.symm h2]
    rw [lv_L, lv_L]
    simp only [e1, e2]
    by_cases c : gA S kl b ≤ i
    · rw [if_pos c, if_pos c]
    · rw [if_neg c, if_neg c]
      by_cases d : gA S kr (8 * b + i) = u
      · rw [if_pos d, if_pos d, ih]
      · rw [if_neg d, if_neg d, sA_comm (Or.inl h2), ih]
theorem lv2_c {S : mS} {k : Nat} {j v b u : Int32} (h2 : k ≠ 34) (h3 : k ≠ 35) : lv2 (sA S k j v) b u = sA (lv2 S b u) k j v := by
  have e1 : gA (sA S k j v) 35 b = gA S 35 b := by simp [gA_sA, Ne.symm h3]
  unfold lv2
  rw [e1, lvL_c h2 h3, sA_comm (Or.inl h3)]
theorem goesOn_c {S : mS} {k : Nat} {t v u : Int32} (h : u ≠ t) : G_goesOn (sA S k t v) u = sA (G_goesOn S u) k t v := by
  have e1 : ∀ l, gA (sA S k t v) l u = gA S l u := fun l => by simp [gA_sA, h]
  rw [goesOn_e, goesOn_e, e1, e1, sA_comm (k := k) (Or.inr (Ne.symm h)), sA_comm (k := k) (Or.inr (Ne.symm h)), sA_comm (k := k) (Or.inr (Ne.symm h))]
def k35 (k : Nat) : Prop := k = 13 ∨ k = 15
theorem k35n {k : Nat} (h : k35 k) (l : Nat) (h1 : l ≠ 13) (h2 : l ≠ 15) : k ≠ l := by unfold k35 at h; omega
theorem hs_c {S : mS} {k : Nat} {t v b u : Int32} (hk : k35 k) (h : u ≠ t) : hs (sA S k t v) b u = sA (hs S b u) k t v := by
  have e1 : ∀ l, gA (sA S k t v) l u = gA S l u := fun l => by simp [gA_sA, h]
  unfold hs
  rw [e1, e1, e1]
  have a1 := k35n hk 31 (by decide) (by decide)
  have a2 := k35n hk 29 (by decide) (by decide)
  have a3 := k35n hk 22 (by decide) (by decide)
  have a4 := k35n hk 14 (by decide) (by decide)
  by_cases c : gA S 22 u = 0
  · rw [if_pos c, if_pos c, sA_comm (k := k) (Or.inl a1), sA_comm (k := k) (Or.inl a2), sA_comm (k := k) (Or.inl a3)]
  · rw [if_neg c, if_neg c, sA_comm (k := k) (Or.inl a1), sA_comm (k := k) (Or.inl a2), sA_comm (k := k) (Or.inl a4), sA_comm (k := k) (Or.inl a3)]
theorem lg_c {S : mS} {k : Nat} {t v b u : Int32} (hk : k35 k) (h : u ≠ t) : G_goesOn (G_leaves (sA S k t v) b u) u = sA (G_goesOn (G_leaves S b u) u) k t v := by
  rw [leaves_c (k35n hk 32 (by decide) (by decide)) (k35n hk 33 (by decide) (by decide)), goesOn_c h]
theorem has_c {S : mS} {k : Nat} {t v b u : Int32} (hk : k35 k) (h : u ≠ t) : G_has (sA S k t v) b u = sA (G_has S b u) k t v := by
  rw [has_e, has_e, hs_c hk h, lg_c hk h]
theorem freed_c {S : mS} {k : Nat} {t v b : Int32} (hk : k35 k) (h : gA S 33 b = 0 ∨ gA S 32 (8 * b) ≠ t) : G_freed (sA S k t v) b = sA (G_freed S b) k t v := by
  have a1 := k35n hk 31 (by decide) (by decide)
  have a2 := k35n hk 29 (by decide) (by decide)
  have b1 := k35n hk 33 (by decide) (by decide)
  have b2 := k35n hk 32 (by decide) (by decide)
  have b3 := k35n hk 30 (by decide) (by decide)
  have e1 : gA (sA S k t v) 33 b = gA S 33 b := by simp [gA_sA, Ne.symm b1]
  have e2 : gA (sA S k t v) 32 (8 * b) = gA S 32 (8 * b) := by simp [gA_sA, Ne.symm b2]
  have e3 : gA (sA S k t v) 30 b = gA S 30 b := by simp [gA_sA, Ne.symm b3]
  rw [freed_e, freed_e, e1, e2, e3, sA_comm (k := k) (Or.inl a1), sA_comm (k := k) (Or.inl a2)]
  by_cases c : gA S 33 b = 0
  · rw [if_pos c, if_pos c]
  · rw [if_neg c, if_neg c]
    have h2 : gA S 32 (8 * b) ≠ t := by rcases h with q | q; exact absurd q c; exact q
    by_cases d : gA S 30 b = 1
    · rw [if_pos d, if_pos d, has_c hk h2]
    · rw [if_neg d, if_neg d, sA_comm (k := k) (Or.inr (Ne.symm h2)), sA_comm (k := k) (Or.inr (Ne.symm h2))]
theorem wF_cm {S : mS} {k : Nat} {t v b u : Int32} (hk : k35 k) (h : u ≠ t) : G_waitFor (sA S k t v) u b = sA (G_waitFor S u b) k t v := by
  have b1 := k35n hk 33 (by decide) (by decide)
  have b2 := k35n hk 32 (by decide) (by decide)
  have e1 : gA (sA S k t v) 33 b = gA S 33 b := by simp [gA_sA, Ne.symm b1]
  rw [waitFor_e, waitFor_e, e1, sA_comm (k := k) (Or.inr (Ne.symm h)), sA_comm (k := k) (Or.inr (Ne.symm h)), sA_comm (k := k) (Or.inl b2), sA_comm (k := k) (Or.inl b1)]
theorem freed_29 {S : mS} {b v : Int32} : G_freed (sA S 29 b v) b = G_freed S b := by
  have e1 : gA (sA S 29 b v) 33 b = gA S 33 b := by simp [gA_sA]
  have e2 : gA (sA S 29 b v) 32 (8 * b) = gA S 32 (8 * b) := by simp [gA_sA]
  have e3 : gA (sA S 29 b v) 30 b = gA S 30 b := by simp [gA_sA]
  rw [freed_e, freed_e, e1, e2, e3, sA_comm (k := 29) (l := 31) (Or.inl (by decide)), sA_sA]
/-- what commutes with both writes commutes with standing elsewhere -/
theorem gs_cm {S : mS} {t k : Int32} {F : mS → mS} (h : ∀ l v T, k35 l → (∀ i, gA T 32 i = gA S 32 i) → (∀ i, gA T 33 i = gA S 33 i) → F (sA T l t v) = sA (F T) l t v) (e : gA (F S) 12 t = gA S 12 t) : F (gs S t k) = gs (F S) t k := by
  unfold gs
  rw [h 13 _ _ (Or.inl rfl) (fun i => by simp [gA_sA]) (fun i => by simp [gA_sA]), h 15 _ _ (Or.inr rfl) (fun _ => rfl) (fun _ => rfl), e]
theorem gs_sA {S : mS} {t k : Int32} {l : Nat} {i v : Int32} (h1 : l ≠ 13) (h2 : l ≠ 15) (h3 : l ≠ 12) : sA (gs S t k) l i v = gs (sA S l i v) t k := by
  unfold gs
  have e : gA (sA S l i v) 12 t = gA S 12 t := by simp [gA_sA, Ne.symm h3]
  rw [sA_comm (k := 13) (Or.inl (Ne.symm h1)), sA_comm (k := 15) (Or.inl (Ne.symm h2)), e]
theorem freed_gs {S : mS} {t k b : Int32} (hm : mInv S) (hb : 0 ≤ b ∧ b < 24) (hk : gA S 28 b = 1) (hn : nR S t) : G_freed (gs S t k) b = gs (G_freed S b) t k := by
  have l8 := pre_lv hb hm
  refine gs_cm (F := fun T => G_freed T b) (fun l v T hl e2 e3 => freed_c hl ?_) ((p_freed S b hb hm hk _ rfl).1.2.2.1 12 t (by simp))
  rw [e2, e3]
  by_cases c : gA S 33 b = 0
  · exact Or.inl c
  · refine Or.inr ?_
    have := hn b 0 hb.1 hb.2 (by decide) (by clear hm hn e2 e3; grind)
    rwa [show 8 * b + 0 = 8 * b by grind] at this

/-! both side by side: make; which OBJECT, and whether -/
def fitP (k x : Int32) : Prop := (0 ≤ k ∧ k ≤ 7) ∧ (k = 0 → 0 ≤ x ∧ x ≤ 1) ∧ (k = 2 → 0 ≤ x) ∧ (k = 3 → 1 ≤ x ∧ x ≤ 8) ∧ (k = 4 → 1 ≤ x ∧ x ≤ 100)
def mkF (k x : Int32) : Int32 := if k = 0 ∨ k = 6 ∨ k = 7 then 0 else x
def mkD (k x : Int32) : Int32 := if k = 0 then x else 0
theorem tab_o {k : Int32} (h : k < 0 ∨ 4 < k) : tabT 1 94 0 4 [35, 94, 50, 60, 77] k = 95 := by
  unfold tabT
  rcases h with h | h
  · have a : k.toInt < 0 := Int32.lt_iff_toInt_lt.mp h
    rw [if_pos a]; decide
  · have a : 4 < k.toInt := by
      have := Int32.lt_iff_toInt_lt.mp h
      have e : (4 : Int32).toInt = 4 := by decide
      omega
    rw [if_neg (by omega), if_pos a]; decide
theorem fits_e {X : xS} {k x : Int32} : (fitP k x ∧ FC_X12_fits X k x = 1) ∨ (¬ fitP k x ∧ FC_X12_fits X k x = 0) := by
  unfold FC_X12_fits
  by_cases c0 : k = 0
  · subst c0
    rw [if_neg (show ¬ tabT 1 94 0 4 [35, 94, 50, 60, 77] 0 = 95 by decide), if_pos (show tabT 1 94 0 4 [35, 94, 50, 60, 77] 0 = 36 by decide)]
    by_cases a : x = 0
    · rw [if_pos a]; exact Or.inl ⟨by unfold fitP; grind, rfl⟩
    · rw [if_neg a]
      by_cases b : x = 1
      · rw [if_pos b]; exact Or.inl ⟨by unfold fitP; grind, rfl⟩
      · rw [if_neg b]; exact Or.inr ⟨fun z => by have := z.2.1 rfl; clear z; grind, rfl⟩
  · by_cases c2 : k = 2
    · subst c2
      rw [if_neg (show ¬ tabT 1 94 0 4 [35, 94, 50, 60, 77] 2 = 95 by decide), if_neg (show ¬ tabT 1 94 0 4 [35, 94, 50, 60, 77] 2 = 36 by decide), if_pos (show tabT 1 94 0 4 [35, 94, 50, 60, 77] 2 = 51 by decide)]
      by_cases a : x < 0
      · rw [if_pos a]; exact Or.inr ⟨fun z => by have := z.2.2.1 rfl; clear z; grind, rfl⟩
      · rw [if_neg a]; exact Or.inl ⟨by unfold fitP; grind, rfl⟩
    · by_cases c3 : k = 3
      · subst c3
        rw [if_neg (show ¬ tabT 1 94 0 4 [35, 94, 50, 60, 77] 3 = 95 by decide), if_neg (show ¬ tabT 1 94 0 4 [35, 94, 50, 60, 77] 3 = 36 by decide), if_neg (show ¬ tabT 1 94 0 4 [35, 94, 50, 60, 77] 3 = 51 by decide), if_pos (show tabT 1 94 0 4 [35, 94, 50, 60, 77] 3 = 61 by decide)]
        by_cases a : x < 1
        · rw [if_pos a]; exact Or.inr ⟨fun z => by have := z.2.2.2.1 rfl; clear z; grind, rfl⟩
        · rw [if_neg a]
          by_cases b : 8 < x
          · rw [if_pos b]; exact Or.inr ⟨fun z => by have := z.2.2.2.1 rfl; clear z; grind, rfl⟩
          · rw [if_neg b]; exact Or.inl ⟨by unfold fitP; grind, rfl⟩
      · by_cases c4 : k = 4
        · subst c4
          rw [if_neg (show ¬ tabT 1 94 0 4 [35, 94, 50, 60, 77] 4 = 95 by decide), if_neg (show ¬ tabT 1 94 0 4 [35, 94, 50, 60, 77] 4 = 36 by decide), if_neg (show ¬ tabT 1 94 0 4 [35, 94, 50, 60, 77] 4 = 51 by decide), if_neg (show ¬ tabT 1 94 0 4 [35, 94, 50, 60, 77] 4 = 61 by decide)]
          by_cases a : x < 1
          · rw [if_pos a]; exact Or.inr ⟨fun z => by have := z.2.2.2.2 rfl; clear z; grind, rfl⟩
          · rw [if_neg a]
            by_cases b : 100 < x
            · rw [if_pos b]; exact Or.inr ⟨fun z => by have := z.2.2.2.2 rfl; clear z; grind, rfl⟩
            · rw [if_neg b]; exact Or.inl ⟨by unfold fitP; grind, rfl⟩
        · have t : tabT 1 94 0 4 [35, 94, 50, 60, 77] k = 95 := by
            by_cases c1 : k = 1
            · subst c1; decide
            · exact tab_o (by grind)
          rw [if_pos t]
          by_cases a : k < 0
          · rw [if_pos a]; exact Or.inr ⟨fun z => by have := z.1; clear z; grind, rfl⟩
          · rw [if_neg a]
            by_cases b : 7 < k
            · rw [if_pos b]; exact Or.inr ⟨fun z => by have := z.1; clear z; grind, rfl⟩
            · rw [if_neg b]; exact Or.inl ⟨⟨⟨by grind, by grind⟩, fun z => absurd z c0, fun z => absurd z c2, fun z => absurd z c3, fun z => absurd z c4⟩, rfl⟩
section MK
variable {S : mS} {k x : Int32}
theorem J60_k {r : Int32} (h2 : k ≠ 2) (h3 : k ≠ 3) (h4 : k ≠ 4) : G_make_J19 S k x r = G_make_J60 S k x r := by
  rw [G_make_J19, if_neg h2, G_make_J34, if_neg h3, G_make_J47, if_neg h4]
theorem mk_1 (h : fitP k x) : G_make S k x = G_make_J60 S k x 1 := by
  obtain ⟨h7, h0, h2, h3, h4⟩ := h
  rw [G_make, gLt_x, in_1 (show 0 ≤ k ∧ k ≤ 7 from h7)]
  by_cases c0 : k = 0
  · rw [if_pos c0, gLt_x, in_1 (h0 c0)]
    exact J60_k (by rw [c0]; decide) (by rw [c0]; decide) (by rw [c0]; decide)
  · rw [if_neg c0]
    by_cases c2 : k = 2
    · rw [G_make_J19, if_pos c2, if_neg (Int32.not_lt.mpr (h2 c2)), G_make_J33, G_make_J34, if_neg (by rw [c2]; decide), G_make_J47, if_neg (by rw [c2]; decide)]
    · by_cases c3 : k = 3
      · rw [G_make_J19, if_neg c2, G_make_J34, if_pos c3, gLt_x, in_1 (h3 c3), G_make_J47, if_neg (by rw [c3]; decide)]
      · by_cases c4 : k = 4
        · rw [G_make_J19, if_neg c2, G_make_J34, if_neg c3, G_make_J47, if_pos c4, gLt_x, in_1 (h4 c4)]
        · exact J60_k c2 c3 c4
theorem mk_0 (h : ¬ fitP k x) : G_make S k x = G_make_J60 S k x 0 := by
  rw [G_make, gLt_x]
  by_cases c0 : k = 0
  · have n : ¬ (0 ≤ x ∧ x ≤ 1) := fun z => h ⟨by rw [c0]; decide, fun _ => z, fun y => absurd (c0.symm.trans y) (by decide), fun y => absurd (c0.symm.trans y) (by decide), fun y => absurd (c0.symm.trans y) (by decide)⟩
    rw [if_pos c0, gLt_x, in_0 n]
    exact J60_k (by rw [c0]; decide) (by rw [c0]; decide) (by rw [c0]; decide)
  · rw [if_neg c0]
    by_cases c2 : k = 2
    · have n : x < 0 := Classical.byContradiction (fun z => h ⟨by rw [c2]; decide, fun y => absurd y c0, fun _ => Int32.not_lt.mp z, fun y => absurd (c2.symm.trans y) (by decide), fun y => absurd (c2.symm.trans y) (by decide)⟩)
      rw [G_make_J19, if_pos c2, if_pos n, G_make_J33, G_make_J34, if_neg (by rw [c2]; decide), G_make_J47, if_neg (by rw [c2]; decide)]
    · by_cases c3 : k = 3
      · have n : ¬ (1 ≤ x ∧ x ≤ 8) := fun z => h ⟨by rw [c3]; decide, fun y => absurd y c0, fun y => absurd y c2, fun _ => z, fun y => absurd (c3.symm.trans y) (by decide)⟩
        rw [G_make_J19, if_neg c2, G_make_J34, if_pos c3, gLt_x, in_0 n, G_make_J47, if_neg (by rw [c3]; decide)]
      · by_cases c4 : k = 4
        · have n : ¬ (1 ≤ x ∧ x ≤ 100) := fun z => h ⟨by rw [c4]; decide, fun y => absurd y c0, fun y => absurd y c2, fun y => absurd y c3, fun _ => z⟩
          rw [G_make_J19, if_neg c2, G_make_J34, if_neg c3, G_make_J47, if_pos c4, gLt_x, in_0 n]
        · have n : ¬ (0 ≤ k ∧ k ≤ 7) := fun z => h ⟨z, fun y => absurd y c0, fun y => absurd y c2, fun y => absurd y c3, fun y => absurd y c4⟩
          rw [in_0 n]
          exact J60_k c2 c3 c4
theorem mkL {ad : adT} {B : Int32} {X : xS} (h : Sim ad B S X) : ∀ (N : Nat) (v : Int32), 0 ≤ v → v ≤ 24 → (24 - v).toInt.toNat < N →
    (∃ b, 0 ≤ b ∧ b < 24 ∧ gA S 28 b = 0 ∧ FC_X12_leastFree_L2 (ad 8 0) N v X = (b, X) ∧ G_make_L73 S k x N v = (b, mkS S b (k + 1) (mkF k x) (mkD k x))) ∨ (FC_X12_leastFree_L2 (ad 8 0) N v X = (-1, X) ∧ G_make_L73 S k x N v = (0, sI S 0 2)) := by
  intro N
  induction N with
  | zero => intro v _ _ h; exact absurd h (Nat.not_lt_zero _)
  | succ N ih =>
    intro v v0 v1 hN
    have k1 := h.2.2.2.1
    rw [FC_X12_leastFree_L2, G_make_L73, gLt_x, k1.2.1, Option.getD_some]
    by_cases c : 24 ≤ v
    · have e : v = 24 := by clear ih h; grind
      rw [if_pos c, if_pos c, if_pos e, G_refuse, gLt_x, gC_p]
      exact Or.inr ⟨rfl, rfl⟩
    · have hv : v < 24 := by clear ih h; grind
      have n24 : ¬ v = 24 := by clear ih h; grind
      have z := h.2.2.2.2.2.2.2.2.2.2.1 v v0 hv
      rw [if_neg c, if_neg c]
      by_cases d : gA S 28 v = 0
      · rw [if_pos d, if_neg n24, z.1 d, gO_0]
        refine Or.inl ⟨v, v0, hv, d, rfl, ?_⟩
        clear ih h z k1
        repeat rw [gLt_x]
        by_cases a0 : k = 0
        · have eF : mkF k x = 0 := by unfold mkF; rw [if_pos (Or.inl a0)]
          have eD : mkD k x = x := by unfold mkD; rw [if_pos a0]
          rw [if_pos a0]
          repeat rw [gLt_x]
          rw [if_pos a0]
          repeat rw [gLt_x]
          rw [eF, eD, mkS]
        · have eD : mkD k x = 0 := by unfold mkD; rw [if_neg a0]
          rw [if_neg a0]
          by_cases a6 : k = 6
          · have eF : mkF k x = 0 := by unfold mkF; rw [if_pos (Or.inr (Or.inl a6))]
            rw [if_pos a6]
            repeat rw [gLt_x]
            rw [if_neg a0]
            repeat rw [gLt_x]
            rw [eF, eD, mkS]
          · rw [if_neg a6]
            by_cases a7 : k = 7
            · have eF : mkF k x = 0 := by unfold mkF; rw [if_pos (Or.inr (Or.inr a7))]
              rw [if_pos a7]
              repeat rw [gLt_x]
              rw [if_neg a0]
              repeat rw [gLt_x]
              rw [eF, eD, mkS]
            · have eF : mkF k x = x := by unfold mkF; rw [if_neg (show ¬ (k = 0 ∨ k = 6 ∨ k = 7) from fun y => y.elim a0 (fun y => y.elim a6 a7))]
              rw [if_neg a7]
              repeat rw [gLt_x]
              rw [if_neg a0]
              repeat rw [gLt_x]
              rw [eF, eD, mkS]
      · rw [if_neg d, (z.2 d).1, gO_1]
        repeat rw [gLt_x]
        exact ih (v + 1) (by clear ih h; grind) (by clear ih h; grind) (msd hN (by clear ih h; grind) (by clear ih h; grind))
theorem make_e {ad : adT} {B : Int32} {X : xS} (h : Sim ad B S X) : (¬ fitP k x ∧ FC_X12_fits X k x = 0 ∧ G_make S k x = (0, sI S 0 1)) ∨ (fitP k x ∧ FC_X12_fits X k x = 1 ∧ ((FC_X12_leastFree X (ad 8 0) = (-1, X) ∧ G_make S k x = (0, sI S 0 2)) ∨ ∃ b, 0 ≤ b ∧ b < 24 ∧ gA S 28 b = 0 ∧ FC_X12_leastFree X (ad 8 0) = (b, X) ∧ G_make S k x = (b, mkS S b (k + 1) (mkF k x) (mkD k x)))) := by
  rcases fits_e (X := X) (k := k) (x := x) with ⟨a, b⟩ | ⟨a, b⟩
  · refine Or.inr ⟨a, b, ?_⟩
    rw [mk_1 a, G_make_J60, if_neg (show ¬ (1 : Int32) = 0 by decide), gLt_x, FC_X12_leastFree, gLt_x]
    rcases mkL (k := k) (x := x) h (((24 : Int32) - 0).toInt.toNat + 1) 0 (by decide) (by decide) (Nat.lt_succ_self _) with z | z
    · exact Or.inr z
    · exact Or.inl z
  · refine Or.inl ⟨a, b, ?_⟩
    rw [mk_0 a, G_make_J60, if_pos rfl, G_refuse, gLt_x, gC_p]
theorem mk_ob {B : Int32} (h : fitP k x) (hB : 0 ≤ B) : jOb B (k + 1) (mkF k x) (mkD k x) (-1) 0 ∧ k + 1 ≠ 0 := by
  unfold fitP at h
  unfold jOb mkF mkD
  by_cases c0 : k = 0
  · subst c0
    have := h.2.1 rfl
    rw [if_pos (Or.inl rfl), if_pos rfl]
    clear h
    refine ⟨⟨by decide, by decide, fun _ => by decide, fun _ => ⟨by grind, fun _ => rfl, fun z => absurd z (by decide)⟩, fun z => absurd z (by decide), fun z => absurd z (by decide), fun z => absurd z (by decide), fun z => absurd z (by decide)⟩, by decide⟩
  · rw [if_neg c0]
    obtain ⟨h7, h0, h2, h3, h4⟩ := h
    refine ⟨⟨by grind, by grind, fun _ => by grind, fun z => absurd (show k = 0 by grind) c0, fun z => ?_, fun z => ?_, fun z => ?_, fun z => ?_⟩, by grind⟩
    · have e : k = 2 := by grind
      subst e
      rw [if_neg (by decide)]
      exact ⟨h2 rfl, fun _ => rfl⟩
    · have e : k = 3 := by grind
      subst e
      rw [if_neg (by decide)]
      have := h3 rfl
      exact ⟨this.1, this.2, by grind⟩
    · have e : k = 4 := by grind
      subst e
      rw [if_neg (by decide)]
      exact (h4 rfl).1
    · have e : k = 7 := by grind
      subst e
      rw [if_pos (by decide)]
      exact ⟨by decide, hB, fun z => absurd z (by decide)⟩
end MK

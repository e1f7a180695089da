/-! both side by side: a turn -/
def tnS (S : mS) (t : Int32) : mS := sJ (sI S 26 t) 25 (gJ S 25 + 1)
theorem one_e {S : mS} {t : Int32} : G_one S t = if G_rowOf (tnS S t) t < 0 then oneT (tnS S t) t (G_part (tnS S t) t 0) (G_part (tnS S t) t 1) (gA (tnS S t) 15 t + 1) else (if 0 ≤ gA (tnS S t) 31 (G_rowOf (tnS S t) t) then sA (sA (tnS S t) 13 t 2) 16 t (G_rowOf (tnS S t) t) else G_has (tnS S t) (G_rowOf (tnS S t) t) t) := by
  rw [G_one, gLt_x, gLt_x, gLt_x, gJ_sI]
  unfold tnS oneT
  by_cases c : G_rowOf (sJ (sI S 26 t) 25 (gJ S 25 + 1)) t < 0
  · rw [if_pos c, if_pos c, gLt_x, gLt_x, gLt_x]
  · rw [if_neg c, if_neg c]
    by_cases d : 0 ≤ gA (sJ (sI S 26 t) 25 (gJ S 25 + 1)) 31 (G_rowOf (sJ (sI S 26 t) 25 (gJ S 25 + 1)) t)
    · rw [if_pos d, if_pos d, gLt_x, gLt_x]
    · rw [if_neg d, if_neg d, gLt_x]
section TN
variable {ad : adT} {B : Int32} {S : mS} {X : xS} {t : Int32}
theorem s_tn (h : Sim ad B S X) (ht : 0 ≤ t ∧ t < 8) : Sim ad B (tnS S t) (xwI (xwJ X (ad 8 0) 4 (gJ S 25 + 1)) (ad 8 0) 5 t) := by
  refine ⟨mInv_sm h.1 ?_ (fun _ _ _ => rfl), j_sm h.2.1 (fun _ _ _ => rfl), Rel_tn h.2.2⟩
  have z := h.1.1
  unfold iT at z ⊢
  refine ⟨?_, ?_, ?_, ?_⟩
  · exact z.1
  · exact z.2.1
  · exact ht.1
  · exact ht.2
theorem tryA_e {o a : Nat} : FC_X4_tryAgain X o a = if xI X o 3 = -1 then FC_X4_have X o a else xwI X a 1 2 := by
  rw [FC_X4_tryAgain, gLt_x]
  by_cases c : xI X o 3 = -1
  · rw [if_pos c, if_pos c, gLt_x]
  · rw [if_neg c, if_neg c, gLt_x]
theorem s_turn (h : Sim ad B S X) (hB : 1 ≤ B ∧ B ≤ 1000000000) (ht : 0 ≤ t ∧ t < 8) (h13 : gA S 13 t = 1) : Sim ad (B + 8) (G_one S t) (FC_X12_takeTurn X (ad 8 0) (some (ad 0 t))) := by
  have mo := (p_one S t ht h.1 h13 _ rfl).1
  have s0 := s_tn h ht
  have k4 : xJ X (ad 8 0) 4 = gJ S 25 := h.2.2.2.1.2.2.2.2.1
  rw [turn_e, k4, (th0 h.2.2 ht).1]
  rw [one_e] at mo ⊢
  have h13' : gA (tnS S t) 13 t = 1 := h13
  have h21 : gA (tnS S t) 21 t = 0 := by
    by_cases q : gA (tnS S t) 21 t = 0
    · exact q
    · have := ((s0.1.2.1 t ht.1 ht.2).2.2 q).1
      rw [h13'] at this; exact absurd this (by decide)
  generalize xwI (xwJ X (ad 8 0) 4 (gJ S 25 + 1)) (ad 8 0) 5 t = X6 at s0 ⊢
  generalize tnS S t = S0 at s0 mo h13' h21 ⊢
  have pr := (p_rowOf S0 t s0.1 _ rfl).2
  generalize G_rowOf S0 t = r at mo pr ⊢
  rcases pr with z | z
  · have hn : nR S0 t := by
      intro b i b0 b1 i0 i1 y
      have m := s0.1.2.2.2.2.1 b i b0 b1 i0 i1
      rw [y] at m
      rcases m.2.2.2 with w | w
      · rw [h13'] at w; exact absurd w.1 (by decide)
      · exact z.2 b i b0 b1 w.2 i0 i1 y
    have hf : fre S0 t := ⟨ht, h13', h21, hn⟩
    rw [if_pos (show r < 0 by rw [z.1]; decide), (s0.2.2.2.2.2.2.2.2.1 t (by clear s0 mo h z; grind) ht.1 ht.2 hn h21).1, gO_0]
    exact s_rst s0 hB hf
  · obtain ⟨r0, r1, rk, i, i0, i1, i2⟩ := z
    have hi : inR S0 r t := ⟨i, i0, i1, i2⟩
    have p7 := (s0.2.2.2.2.2.2.2.1 r i r0 r1 i0 i1).1
    rw [i2] at p7
    have hc := (xcl s0.2.2 ⟨r0, r1⟩ (by rw [rk]; decide)).1
    rw [rk, show kC9 1 = 3 by decide] at hc
    have rn : ¬ r < 0 := by clear s0 mo h; grind
    rw [if_neg rn] at mo ⊢
    rw [p7, gO_1, hc, if_pos rfl, tryA_e, (lck s0.2.2 ⟨r0, r1⟩ rk).1]
    have w := own_n s0.1 ⟨r0, r1⟩
    by_cases c : 0 ≤ gA S0 31 r
    · rw [if_pos c] at mo ⊢
      rw [if_neg (show ¬ gA S0 31 r = -1 by clear s0 mo h; grind)]
      exact ⟨mo, j_mono (j_st s0.1 s0.2.1 (Or.inl h13') (Or.inr ⟨rfl, hi⟩) rfl) (b8 hB), Rel_16 (Rel_13 s0.2.2) (by simpa [gA_sA] using h21)⟩
    · rw [if_neg c, if_pos (show gA S0 31 r = -1 by clear s0 mo h; grind)]
      exact s_mono (s_has s0 hB.1 ⟨r0, r1⟩ rk hi) (b8 hB)
/-- a number that neither the class nor the invariant knows -/
theorem s_I {k : Nat} {v : Int32} (h : Sim ad B S X) (hk : k ≠ 2 ∧ k ≠ 26) : Sim ad B (sI S k v) X := by
  refine ⟨mInv_sm h.1 ?_ (fun _ _ _ => rfl), j_sm h.2.1 (fun _ _ _ => rfl), Rel_I h.2.2 hk⟩
  have z := h.1.1
  unfold iT at z ⊢
  simpa [gI_sI, Ne.symm hk.1, Ne.symm hk.2] using z
theorem in_1 {v lo hi : Int32} (h : lo ≤ v ∧ v ≤ hi) : G_in S v lo hi = 1 := by
  rcases (p_in S v lo hi _ rfl).2 with z | z
  · exact z.1
  · exact absurd h z.2
theorem in_0 {v lo hi : Int32} (h : ¬ (lo ≤ v ∧ v ≤ hi)) : G_in S v lo hi = 0 := by
  rcases (p_in S v lo hi _ rfl).2 with z | z
  · exact absurd z.2 h
  · exact z.1
theorem refuse_e {w : Int32} : G_refuse S w = (0, sI S 0 w) := by rw [G_refuse, gLt_x]
theorem strandAt_e {i : Int32} (h : Rel ad (-1) S X) : FC_X12_strandAt X (ad 8 0) i = if 0 ≤ i ∧ i ≤ 7 then (0, ad 0 i, X) else (1, 0, X) := by
  rw [FC_X12_strandAt]
  by_cases c : i < 0
  · rw [if_pos c, if_neg (fun z => by have := z.1; clear h; grind)]
  · rw [if_neg c, gLt_x, h.2.1.2.2.1, Option.getD_some]
    by_cases d : i < 8
    · rw [if_pos d, gLt_x, h.2.1.2.2.2.2.2.2 i (by clear h; grind) d, Option.getD_some, if_pos ⟨by clear h; grind, by clear h; grind⟩]
    · rw [if_neg d, if_neg (fun z => by have := z.2; clear h; grind)]
/-- what a call is in both: the number thrown, the answer, what stands behind it -/
def Both {α : Type} (ad : adT) (C : Int32) (g : α × mS) (f : Int32 × α × xS) : Prop := f.1 = gI g.2 0 ∧ (f.1 = 0 → f.2.1 = g.1) ∧ Sim ad C g.2 f.2.2
theorem gT_0 {α β : Type} {y : α} {Y : xS} {d : β} {k : α → xS → Int32 × β × xS} : gT (0, y, Y) d k = k y Y := by rw [gT]; exact if_pos rfl
theorem gT_1 {α β : Type} {y : α} {Y : xS} {d : β} {k : α → xS → Int32 × β × xS} : gT (1, y, Y) d k = (1, d, Y) := by rw [gT]; exact if_neg (show ¬ ((1 : Int32) = 0) by decide)
theorem b_ref {α : Type} {a c : α} {w : Int32} (h : Sim ad B S X) (hw : w ≠ 0) : Both ad B (a, sI S 0 w) (w, c, X) :=
  ⟨by simp [gI_sI], fun z => absurd z hw, s_I h (by decide)⟩
theorem b_mono {α : Type} {C D : Int32} {g : α × mS} {f : Int32 × α × xS} (h : Both ad C g f) (hCD : C ≤ D) : Both ad D g f := ⟨h.1, h.2.1, s_mono h.2.2 hCD⟩
theorem J273_I {k : Int32} {j : Nat} : gI (G_one_J273 t k S) j = gI S j := by
  rw [G_one_J273, gLt_x]
  split
  · rfl
  · rfl
theorem J150_I {k : Int32} {j : Nat} : gI (G_one_J150 t k S) j = gI S j := by rw [G_one_J150, J273_I]
theorem J198_I {k q : Int32} {j : Nat} : gI (G_one_J198 t q k S) j = gI S j := by
  rw [G_one_J198]
  split
  · rw [J273_I]
  · rw [gLt_x, gLt_x, J273_I]; rfl
theorem gCw_I {p : Int32 × mS} {x : Int32} {j : Nat} (h : gI p.2 j = gI S j) : gI (gC p (fun r76 S75 => if r76 = 0 then S75 else G_one_J273 t x S75)) j = gI S j := by
  rw [gC]
  split
  · exact h
  · rw [J273_I]; exact h
theorem ite_I {P : Prop} {d : Decidable P} {x y : mS} {j : Nat} {v : Int32} (h1 : gI x j = v) (h2 : gI y j = v) : gI (@ite mS P d x y) j = v := by
  by_cases c : P
  · rw [if_pos c]; exact h1
  · rw [if_neg c]; exact h2
theorem oneT_I {q r x : Int32} {j : Nat} (hW : ∀ q b, gI (G_with S t q b).2 j = gI S j) : gI (oneT S t q r x) j = gI S j := by
  rw [oneT]
  repeat' (with_reducible apply ite_I)
  all_goals first
    | with_reducible exact J273_I
    | with_reducible exact J150_I
    | with_reducible exact J198_I
    | with_reducible exact gCw_I (hW _ _)
    | (rw [gLt_x, J273_I]; rfl)
    | (rw [gLt_x, gLt_x]; rfl)
    | (rw [gLt_x]; rfl)
theorem one_I {k : Nat} (hm : mInv S) (ht : 0 ≤ t ∧ t < 8) (h13 : gA S 13 t = 1) (hk : k ≠ 26) : gI (G_one S t) k = gI S k := by
  have m0 : mInv (tnS S t) := by
    refine mInv_sm hm ?_ (fun _ _ _ => rfl)
    have z := hm.1
    unfold iT at z ⊢
    exact ⟨z.1, z.2.1, ht.1, ht.2⟩
  have e0 : gI (tnS S t) k = gI S k := by show gI (sI S 26 t) k = gI S k; rw [gI_sI, if_neg hk]
  have h13' : gA (tnS S t) 13 t = 1 := h13
  rw [one_e, ← e0]
  generalize tnS S t = S0 at m0 h13' ⊢
  have h21 : gA S0 21 t = 0 := by
    by_cases q : gA S0 21 t = 0
    · exact q
    · have := ((m0.2.1 t ht.1 ht.2).2.2 q).1
      rw [h13'] at this; exact absurd this (by decide)
  have pr := (p_rowOf S0 t m0 _ rfl).2
  generalize G_rowOf S0 t = r at pr ⊢
  rcases pr with z | z
  · have hn : nR S0 t := by
      intro b i b0 b1 i0 i1 y
      have m := m0.2.2.2.2.1 b i b0 b1 i0 i1
      rw [y] at m
      rcases m.2.2.2 with w | w
      · rw [h13'] at w; exact absurd w.1 (by decide)
      · exact z.2 b i b0 b1 w.2 i0 i1 y
    rw [if_pos (show r < 0 by rw [z.1]; decide)]
    exact oneT_I (fun q b => (p_with S0 t q b ⟨ht, h13', h21, hn⟩ m0 _ _ rfl).2.1 k)
  · obtain ⟨r0, r1, rk, i, i0, i1, i2⟩ := z
    rw [if_neg (show ¬ r < 0 by clear m0; grind)]
    split
    · rfl
    · exact (p_has S0 r t ⟨r0, r1⟩ m0 rk ⟨i, i0, i1, i2⟩ _ rfl).1.2.1 k
theorem t_step {i : Int32} (h : Sim ad B S X) (hB : 1 ≤ B ∧ B ≤ 1000000000) : Both ad (B + 8) (G_step S i) (FC_X12_step X (ad 8 0) i) := by
  rw [G_step, gLt_x, FC_X12_step, strandAt_e h.2.2]
  by_cases c : 0 ≤ i ∧ i ≤ 7
  · rw [if_pos c, in_1 c, if_neg (by decide), gLt_x, gT_0, gLt_x]
    have ht : 0 ≤ i ∧ i < 8 := by clear h; grind
    have s1 := s_I (k := 0) (v := 0) h (by decide)
    have e13 : gA (sI S 0 0) 13 i = gA S 13 i := rfl
    rw [e13, gLt_x, (th0 h.2.2 ht).2.1]
    by_cases d : gA S 13 i = 1
    · rw [if_pos d, if_pos d]
      repeat rw [gLt_x]
      have s2 := s_turn s1 hB ht d
      refine ⟨?_, fun _ => (th0 s2.2.2 ht).2.1, s2⟩
      rw [one_I s1.1 ht d (by decide)]; simp [gI_sI]
    · rw [if_neg d, if_neg d]
      exact ⟨by simp [gI_sI], fun _ => rfl, s_mono s1 (b8 hB)⟩
  · rw [if_neg c, in_0 c, if_pos rfl, refuse_e, gC_p, gT_1]
    exact b_mono (b_ref h (by decide)) (b8 hB)
end TN

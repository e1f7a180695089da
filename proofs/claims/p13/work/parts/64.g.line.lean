/-! reading a PROGRAM, both side by side: an INSTRUCTION -/
theorem gC_pr {α β γ : Type} {x : α × β} {F : α → β → γ} : gC x F = F x.1 x.2 := rfl
/-- the reference's line behind its word -/
def GT (r : Int32) (T : mS) : mS := if r = 0 then G_line_J53 r 1000000000 0 0 0 T else (if r = 1 then G_line_J53 r 1000000000 0 0 0 T else (if r = 5 then G_line_J53 r 1000000000 0 0 0 T else (if r = 2 then G_line_J79 r 1000000000 0 0 0 T else (if r = 3 then G_line_J79 r 1000000000 0 0 0 T else (if r = 4 then G_line_J79 r 1000000000 0 0 0 T else (if r = 6 then G_line_J110 r 1000000000 0 0 0 T else (if r = 33 then G_line_J110 r 1000000000 0 0 0 T else G_line_J110 r 1000000000 (G_number T 0 23).1 0 0 (G_number T 0 23).2)))))))
theorem line_e {S : mS} (h6 : gI S 6 ≠ 60) (hr : 0 ≤ G_word S) : G_line S = GT (G_word S) (G_next S) := by
  rw [G_line, gLt_x, if_neg h6, if_pos hr]
  repeat rw [gLt_x]
  rw [gC_pr, GT]
theorem line_b {S : mS} (h10 : gI S 10 < 0) (h : gI S 6 = 60 ∨ G_word S = -1) : G_line S = sI S 10 (gI S 8) := by
  rw [G_line, gLt_x]
  by_cases c : gI S 6 = 60
  · rw [if_pos c, G_line_J18, wrong_e h10, gC_p]
  · rcases h with z | z
    · exact absurd z c
    · rw [if_neg c, z, if_neg (by decide), G_line_J18, wrong_e h10, gC_p]
section TR
variable {m a b c : Int32} {T : mS}
theorem J110_z {r : Int32} (h : r ≠ 15 ∧ r ≠ 16 ∧ r ≠ 17 ∧ r ≠ 18) : G_line_J110 r m a b c T = G_line_J166 r m a b c T := by
  rw [G_line_J110, if_neg h.1, if_neg h.2.1, G_line_J131, if_neg h.2.1, G_line_J146, if_neg h.2.2.1, if_neg h.2.2.2]
theorem J110_15 : G_line_J110 15 m a b c T = G_line_J166 15 m a (G_number T (-m) m).1 c (G_number T (-m) m).2 := by
  rw [G_line_J110, if_pos rfl, G_line_J122, gC_pr, G_line_J131, if_neg (by decide), G_line_J146, if_neg (by decide), if_neg (by decide)]
theorem J110_16 : G_line_J110 16 m a b c T = G_line_J166 16 m a (G_number T (-m) m).1 (G_number (G_number T (-m) m).2 (-m) m).1 (G_number (G_number T (-m) m).2 (-m) m).2 := by
  rw [G_line_J110, if_neg (by decide), if_pos rfl, G_line_J122, gC_pr, G_line_J131, if_pos rfl, gC_pr, G_line_J146, if_neg (by decide), if_neg (by decide)]
theorem J110_17 : G_line_J110 17 m a b c T = G_line_J166 17 m a (G_number T 1 m).1 c (G_number T 1 m).2 := by
  rw [G_line_J110, if_neg (by decide), if_neg (by decide), G_line_J131, if_neg (by decide), G_line_J146, if_pos rfl, G_line_J158, gC_pr]
theorem J110_18 : G_line_J110 18 m a b c T = G_line_J166 18 m a (G_number T 1 m).1 c (G_number T 1 m).2 := by
  rw [G_line_J110, if_neg (by decide), if_neg (by decide), G_line_J131, if_neg (by decide), G_line_J146, if_neg (by decide), if_pos rfl, G_line_J158, gC_pr]
theorem J166_e {r : Int32} : G_line_J166 r m a b c T = sI (sA (sA (sA (sA T 5 (4 * gI T 6) r) 5 (4 * gI T 6 + 1) a) 5 (4 * gI T 6 + 2) b) 5 (4 * gI T 6 + 3) c) 6 (gI T 6 + 1) := by
  rw [G_line_J166]
  repeat rw [gLt_x]
  rfl
theorem J166_10 {r : Int32} : gI (G_line_J166 r m a b c T) 10 = gI T 10 := by rw [J166_e, gI_sI, if_neg (by decide)]; rfl
end TR
theorem GT_0 {k : Nat} {T : mS} (h : k = 6 ∨ k = 33) : GT (nI k) T = G_line_J110 (nI k) 1000000000 0 0 0 T := by
  rcases h with rfl | rfl
  · rw [GT, if_neg (show ¬ nI 6 = 0 by decide), if_neg (show ¬ nI 6 = 1 by decide), if_neg (show ¬ nI 6 = 5 by decide), if_neg (show ¬ nI 6 = 2 by decide), if_neg (show ¬ nI 6 = 3 by decide), if_neg (show ¬ nI 6 = 4 by decide), if_pos (show nI 6 = 6 by decide)]
  · rw [GT, if_neg (show ¬ nI 33 = 0 by decide), if_neg (show ¬ nI 33 = 1 by decide), if_neg (show ¬ nI 33 = 5 by decide), if_neg (show ¬ nI 33 = 2 by decide), if_neg (show ¬ nI 33 = 3 by decide), if_neg (show ¬ nI 33 = 4 by decide), if_neg (show ¬ nI 33 = 6 by decide), if_pos (show nI 33 = 33 by decide)]
theorem GT_1 {k : Nat} {T : mS} (h : k = 0 ∨ k = 1 ∨ k = 5) : GT (nI k) T = G_line_J110 (nI k) 1000000000 (G_number T (-1000000000) 1000000000).1 0 0 (G_number T (-1000000000) 1000000000).2 := by
  rcases h with rfl | rfl | rfl
  · rw [GT, if_pos (show nI 0 = 0 by decide), G_line_J53, gC_pr]
  · rw [GT, if_neg (show ¬ nI 1 = 0 by decide), if_pos (show nI 1 = 1 by decide), G_line_J53, gC_pr]
  · rw [GT, if_neg (show ¬ nI 5 = 0 by decide), if_neg (show ¬ nI 5 = 1 by decide), if_pos (show nI 5 = 5 by decide), G_line_J53, gC_pr]
theorem GT_2 {k : Nat} {T : mS} (h : k = 2 ∨ k = 3 ∨ k = 4) : GT (nI k) T = G_line_J110 (nI k) 1000000000 (G_number T 0 59).1 0 0 (G_number T 0 59).2 := by
  rcases h with rfl | rfl | rfl
  · rw [GT, if_neg (show ¬ nI 2 = 0 by decide), if_neg (show ¬ nI 2 = 1 by decide), if_neg (show ¬ nI 2 = 5 by decide), if_pos (show nI 2 = 2 by decide), G_line_J79, gC_pr]
  · rw [GT, if_neg (show ¬ nI 3 = 0 by decide), if_neg (show ¬ nI 3 = 1 by decide), if_neg (show ¬ nI 3 = 5 by decide), if_neg (show ¬ nI 3 = 2 by decide), if_pos (show nI 3 = 3 by decide), G_line_J79, gC_pr]
  · rw [GT, if_neg (show ¬ nI 4 = 0 by decide), if_neg (show ¬ nI 4 = 1 by decide), if_neg (show ¬ nI 4 = 5 by decide), if_neg (show ¬ nI 4 = 2 by decide), if_neg (show ¬ nI 4 = 3 by decide), if_pos (show nI 4 = 4 by decide), G_line_J79, gC_pr]
theorem GT_3 {k : Nat} {T : mS} (h : k = 7 ∨ k = 8 ∨ k = 9 ∨ k = 10 ∨ k = 11 ∨ k = 12 ∨ k = 13 ∨ k = 14 ∨ k = 15 ∨ k = 16 ∨ k = 17 ∨ k = 18 ∨ k = 19 ∨ k = 20 ∨ k = 21 ∨ k = 22 ∨ k = 23 ∨ k = 24 ∨ k = 25 ∨ k = 26 ∨ k = 27 ∨ k = 28 ∨ k = 29 ∨ k = 30 ∨ k = 31 ∨ k = 32) : GT (nI k) T = G_line_J110 (nI k) 1000000000 (G_number T 0 23).1 0 0 (G_number T 0 23).2 := by
  rcases h with rfl | rfl | rfl | rfl | rfl | rfl | rfl | rfl | rfl | rfl | rfl | rfl | rfl | rfl | rfl | rfl | rfl | rfl | rfl | rfl | rfl | rfl | rfl | rfl | rfl | rfl
  · rw [GT, if_neg (show ¬ nI 7 = 0 by decide), if_neg (show ¬ nI 7 = 1 by decide), if_neg (show ¬ nI 7 = 5 by decide), if_neg (show ¬ nI 7 = 2 by decide), if_neg (show ¬ nI 7 = 3 by decide), if_neg (show ¬ nI 7 = 4 by decide), if_neg (show ¬ nI 7 = 6 by decide), if_neg (show ¬ nI 7 = 33 by decide)]
  · rw [GT, if_neg (show ¬ nI 8 = 0 by decide), if_neg (show ¬ nI 8 = 1 by decide), if_neg (show ¬ nI 8 = 5 by decide), if_neg (show ¬ nI 8 = 2 by decide), if_neg (show ¬ nI 8 = 3 by decide), if_neg (show ¬ nI 8 = 4 by decide), if_neg (show ¬ nI 8 = 6 by decide), if_neg (show ¬ nI 8 = 33 by decide)]
  · rw [GT, if_neg (show ¬ nI 9 = 0 by decide), if_neg (show ¬ nI 9 = 1 by decide), if_neg (show ¬ nI 9 = 5 by decide), if_neg (show ¬ nI 9 = 2 by decide), if_neg (show ¬ nI 9 = 3 by decide), if_neg (show ¬ nI 9 = 4 by decide), if_neg (show ¬ nI 9 = 6 by decide), if_neg (show ¬ nI 9 = 33 by decide)]
  · rw [GT, if_neg (show ¬ nI 10 = 0 by decide), if_neg (show ¬ nI 10 = 1 by decide), if_neg (show ¬ nI 10 = 5 by decide), if_neg (show ¬ nI 10 = 2 by decide), if_neg (show ¬ nI 10 = 3 by decide), if_neg (show ¬ nI 10 = 4 by decide), if_neg (show ¬ nI 10 = 6 by decide), if_neg (show ¬ nI 10 = 33 by decide)]
  · rw [GT, if_neg (show ¬ nI 11 = 0 by decide), if_neg (show ¬ nI 11 = 1 by decide), if_neg (show ¬ nI 11 = 5 by decide), if_neg (show ¬ nI 11 = 2 by decide), if_neg (show ¬ nI 11 = 3 by decide), if_neg (show ¬ nI 11 = 4 by decide), if_neg (show ¬ nI 11 = 6 by decide), if_neg (show ¬ nI 11 = 33 by decide)]
  · rw [GT, if_neg (show ¬ nI 12 = 0 by decide), if_neg (show ¬ nI 12 = 1 by decide), if_neg (show ¬ nI 12 = 5 by decide), if_neg (show ¬ nI 12 = 2 by decide), if_neg (show ¬ nI 12 = 3 by decide), if_neg (show ¬ nI 12 = 4 by decide), if_neg (show ¬ nI 12 = 6 by decide), if_neg (show ¬ nI 12 = 33 by decide)]
  · rw [GT, if_neg (show ¬ nI 13 = 0 by decide), if_neg (show ¬ nI 13 = 1 by decide), if_neg (show ¬ nI 13 = 5 by decide), if_neg (show ¬ nI 13 = 2 by decide), if_neg (show ¬ nI 13 = 3 by decide), if_neg (show ¬ nI 13 = 4 by decide), if_neg (show ¬ nI 13 = 6 by decide), if_neg (show ¬ nI 13 = 33 by decide)]
  · rw [GT, if_neg (show ¬ nI 14 = 0 by decide), if_neg (show ¬ nI 14 = 1 by decide), if_neg (show ¬ nI 14 = 5 by decide), if_neg (show ¬ nI 14 = 2 by decide), if_neg (show ¬ nI 14 = 3 by decide), if_neg (show ¬ nI 14 = 4 by decide), if_neg (show ¬ nI 14 = 6 by decide), if_neg (show ¬ nI 14 = 33 by decide)]
  · rw [GT, if_neg (show ¬ nI 15 = 0 by decide), if_neg (show ¬ nI 15 = 1 by decide), if_neg (show ¬ nI 15 = 5 by decide), if_neg (show ¬ nI 15 = 2 by decide), if_neg (show ¬ nI 15 = 3 by decide), if_neg (show ¬ nI 15 = 4 by decide), if_neg (show ¬ nI 15 = 6 by decide), if_neg (show ¬ nI 15 = 33 by decide)]
  · rw [GT, if_neg (show ¬ nI 16 = 0 by decide), if_neg (show ¬ nI 16 = 1 by decide), if_neg (show ¬ nI 16 = 5 by decide), if_neg (show ¬ nI 16 = 2 by decide), if_neg (show ¬ nI 16 = 3 by decide), if_neg (show ¬ nI 16 = 4 by decide), if_neg (show ¬ nI 16 = 6 by decide), if_neg (show ¬ nI 16 = 33 by decide)]
  · rw [GT, if_neg (show ¬ nI 17 = 0 by decide), if_neg (show ¬ nI 17 = 1 by decide), if_neg (show ¬ nI 17 = 5 by decide), if_neg (show ¬ nI 17 = 2 by decide), if_neg (show ¬ nI 17 = 3 by decide), if_neg (show ¬ nI 17 = 4 by decide), if_neg (show ¬ nI 17 = 6 by decide), if_neg (show ¬ nI 17 = 33 by decide)]
  · rw [GT, if_neg (show ¬ nI 18 = 0 by decide), if_neg (show ¬ nI 18 = 1 by decide), if_neg (show ¬ nI 18 = 5 by decide), if_neg (show ¬ nI 18 = 2 by decide), if_neg (show ¬ nI 18 = 3 by decide), if_neg (show ¬ nI 18 = 4 by decide), if_neg (show ¬ nI 18 = 6 by decide), if_neg (show ¬ nI 18 = 33 by decide)]
  · rw [GT, if_neg (show ¬ nI 19 = 0 by decide), if_neg (show ¬ nI 19 = 1 by decide), if_neg (show ¬ nI 19 = 5 by decide), if_neg (show ¬ nI 19 = 2 by decide), if_neg (show ¬ nI 19 = 3 by decide), if_neg (show ¬ nI 19 = 4 by decide), if_neg (show ¬ nI 19 = 6 by decide), if_neg (show ¬ nI 19 = 33 by decide)]
  · rw [GT, if_neg (show ¬ nI 20 = 0 by decide), if_neg (show ¬ nI 20 = 1 by decide), if_neg (show ¬ nI 20 = 5 by decide), if_neg (show ¬ nI 20 = 2 by decide), if_neg (show ¬ nI 20 = 3 by decide), if_neg (show ¬ nI 20 = 4 by decide), if_neg (show ¬ nI 20 = 6 by decide), if_neg (show ¬ nI 20 = 33 by decide)]
  · rw [GT, if_neg (show ¬ nI 21 = 0 by decide), if_neg (show ¬ nI 21 = 1 by decide), if_neg (show ¬ nI 21 = 5 by decide), if_neg (show ¬ nI 21 = 2 by decide), if_neg (show ¬ nI 21 = 3 by decide), if_neg (show ¬ nI 21 = 4 by decide), if_neg (show ¬ nI 21 = 6 by decide), if_neg (show ¬ nI 21 = 33 by decide)]
  · rw [GT, if_neg (show ¬ nI 22 = 0 by decide), if_neg (show ¬ nI 22 = 1 by decide), if_neg (show ¬ nI 22 = 5 by decide), if_neg (show ¬ nI 22 = 2 by decide), if_neg (show ¬ nI 22 = 3 by decide), if_neg (show ¬ nI 22 = 4 by decide), if_neg (show ¬ nI 22 = 6 by decide), if_neg (show ¬ nI 22 = 33 by decide)]
  · rw [GT, if_neg (show ¬ nI 23 = 0 by decide), if_neg (show ¬ nI 23 = 1 by decide), if_neg (show ¬ nI 23 = 5 by decide), if_neg (show ¬ nI 23 = 2 by decide), if_neg (show ¬ nI 23 = 3 by decide), if_neg (show ¬ nI 23 = 4 by decide), if_neg (show ¬ nI 23 = 6 by decide), if_neg (show ¬ nI 23 = 33 by decide)]
  · rw [GT, if_neg (show ¬ nI 24 = 0 by decide), if_neg (show ¬ nI 24 = 1 by decide), if_neg (show ¬ nI 24 = 5 by decide), if_neg (show ¬ nI 24 = 2 by decide), if_neg (show ¬ nI 24 = 3 by decide), if_neg (show ¬ nI 24 = 4 by decide), if_neg (show ¬ nI 24 = 6 by decide), if_neg (show ¬ nI 24 = 33 by decide)]
  · rw [GT, if_neg (show ¬ nI 25 = 0 by decide), if_neg (show ¬ nI 25 = 1 by decide), if_neg (show ¬ nI 25 = 5 by decide), if_neg (show ¬ nI 25 = 2 by decide), if_neg (show ¬ nI 25 = 3 by decide), if_neg (show ¬ nI 25 = 4 by decide), if_neg (show ¬ nI 25 = 6 by decide), if_neg (show ¬ nI 25 = 33 by decide)]
  · rw [GT, if_neg (show ¬ nI 26 = 0 by decide), if_neg (show ¬ nI 26 = 1 by decide), if_neg (show ¬ nI 26 = 5 by decide), if_neg (show ¬ nI 26 = 2 by decide), if_neg (show ¬ nI 26 = 3 by decide), if_neg (show ¬ nI 26 = 4 by decide), if_neg (show ¬ nI 26 = 6 by decide), if_neg (show ¬ nI 26 = 33 by decide)]
  · rw [GT, if_neg (show ¬ nI 27 = 0 by decide), if_neg (show ¬ nI 27 = 1 by decide), if_neg (show ¬ nI 27 = 5 by decide), if_neg (show ¬ nI 27 = 2 by decide), if_neg (show ¬ nI 27 = 3 by decide), if_neg (show ¬ nI 27 = 4 by decide), if_neg (show ¬ nI 27 = 6 by decide), if_neg (show ¬ nI 27 = 33 by decide)]
  · rw [GT, if_neg (show ¬ nI 28 = 0 by decide), if_neg (show ¬ nI 28 = 1 by decide), if_neg (show ¬ nI 28 = 5 by decide), if_neg (show ¬ nI 28 = 2 by decide), if_neg (show ¬ nI 28 = 3 by decide), if_neg (show ¬ nI 28 = 4 by decide), if_neg (show ¬ nI 28 = 6 by decide), if_neg (show ¬ nI 28 = 33 by decide)]
  · rw [GT, if_neg (show ¬ nI 29 = 0 by decide), if_neg (show ¬ nI 29 = 1 by decide), if_neg (show ¬ nI 29 = 5 by decide), if_neg (show ¬ nI 29 = 2 by decide), if_neg (show ¬ nI 29 = 3 by decide), if_neg (show ¬ nI 29 = 4 by decide), if_neg (show ¬ nI 29 = 6 by decide), if_neg (show ¬ nI 29 = 33 by decide)]
  · rw [GT, if_neg (show ¬ nI 30 = 0 by decide), if_neg (show ¬ nI 30 = 1 by decide), if_neg (show ¬ nI 30 = 5 by decide), if_neg (show ¬ nI 30 = 2 by decide), if_neg (show ¬ nI 30 = 3 by decide), if_neg (show ¬ nI 30 = 4 by decide), if_neg (show ¬ nI 30 = 6 by decide), if_neg (show ¬ nI 30 = 33 by decide)]
  · rw [GT, if_neg (show ¬ nI 31 = 0 by decide), if_neg (show ¬ nI 31 = 1 by decide), if_neg (show ¬ nI 31 = 5 by decide), if_neg (show ¬ nI 31 = 2 by decide), if_neg (show ¬ nI 31 = 3 by decide), if_neg (show ¬ nI 31 = 4 by decide), if_neg (show ¬ nI 31 = 6 by decide), if_neg (show ¬ nI 31 = 33 by decide)]
  · rw [GT, if_neg (show ¬ nI 32 = 0 by decide), if_neg (show ¬ nI 32 = 1 by decide), if_neg (show ¬ nI 32 = 5 by decide), if_neg (show ¬ nI 32 = 2 by decide), if_neg (show ¬ nI 32 = 3 by decide), if_neg (show ¬ nI 32 = 4 by decide), if_neg (show ¬ nI 32 = 6 by decide), if_neg (show ¬ nI 32 = 33 by decide)]

/-- a line of both -/
def LnR (ad : adT) (S : mS) (i : Int32) (X : xS) (r : Int32 × xS) (T : mS) : Prop :=
  (∃ p, r.1 = 1 ∧ St ad T r.2 p ∧ gI T 6 = i + 1 ∧ cM (xA r.2 (ad 10 0)) i (gA T 5 (4 * i)) (gA T 5 (4 * i + 1)) (gA T 5 (4 * i + 2)) (gA T 5 (4 * i + 3)) ∧ frT ad (4 * i) 4 X r.2 ∧ (∀ x, 0 ≤ x → (x < 4 * i ∨ 4 * i + 4 ≤ x) → gA T 5 x = gA S 5 x)) ∨ (0 ≤ gI T 10 ∧ BR ad S (4 * i) X r)
theorem stk_S {S T : mS} {p : Int32} (e7 : gI T 7 = gI S 7) (e1 : ∀ i, gA T 1 i = gA S 1 i) (h : stk T p) : stk S p := by
  unfold stk at *
  rw [e7, e1] at h; exact h
theorem BR_S {ad : adT} {S T : mS} {i : Int32} {X : xS} {r : Int32 × xS} (e7 : gI T 7 = gI S 7) (e1 : ∀ i, gA T 1 i = gA S 1 i) (h : BR ad T i X r) : BR ad S i X r := ⟨h.1.imp id (fun z => ⟨z.1, stk_S e7 e1 z.2⟩), h.2⟩
theorem LnR_tr {ad : adT} {S T0 T : mS} {i : Int32} {X X1 : xS} {r : Int32 × xS} (e7 : gI T0 7 = gI S 7) (eA : ∀ k i, gA T0 k i = gA S k i) (f : frT ad (4 * i) 4 X X1) (h : LnR ad T0 i X1 r T) : LnR ad S i X r T := by
  rcases h with ⟨p, h1, h2, h3, h4, h5, h6⟩ | ⟨h1, h2⟩
  · exact Or.inl ⟨p, h1, h2, h3, h4, frT_tr f h5, fun x x0 x1 => (h6 x x0 x1).trans (eA 5 x)⟩
  · exact Or.inr ⟨h1, BR_tr f (BR_S e7 (eA 1) h2)⟩
theorem gA5 {S : mS} {i x q : Int32} : gA (sA S 5 i x) 5 q = if q = i then x else gA S 5 q := by rw [gA_sA, if_pos rfl]
theorem i4 {i : Int32} (h : 0 ≤ i ∧ i < 60) : 0 ≤ 4 * i ∧ 4 * i ≤ 236 := by grind
theorem J_St {ad : adT} {S T : mS} {i p m a b c : Int32} {X X2 : xS} {k : Nat} (hs : St ad T X2 p) (h6 : gI T 6 = i) (hi : 0 ≤ i ∧ i < 60) (eA : ∀ x, gA T 5 x = gA S 5 x) (f : frT ad (4 * i) 4 X X2) (hk : k < 34) (c0 : xA X2 (ad 10 0) (4 * i) = toC (nI k)) (c1 : nI k ≠ 6 → nI k ≠ 33 → xA X2 (ad 10 0) (4 * i + 1) = a) (c2 : nI k = 15 ∨ nI k = 16 ∨ nI k = 17 ∨ nI k = 18 → xA X2 (ad 10 0) (4 * i + 2) = b) (c3 : nI k = 16 → xA X2 (ad 10 0) (4 * i + 3) = c) : LnR ad S i X (1, X2) (G_line_J166 (nI k) m a b c T) := by
  have k1 := nI_pos' (n := k) (by omega)
  have k2 : nI k ≤ 33 := by have := nI_le (a := k) (b := 33) (by omega) (by decide); exact this
  have i0 := (i4 hi).1
  have i1 := (i4 hi).2
  rw [J166_e, h6]
  unfold LnR
  obtain ⟨s1, s2, s3, s4, s5, s6, s7⟩ := hs
  generalize hse : 4 * i = s at *
  have t1 : 0 ≤ s + 1 := by grind
  have t2 : 0 ≤ s + 2 := by grind
  have t3 : 0 ≤ s + 3 := by grind
  have q1 : ¬ s = s + 3 := by clear s1 s4 s5 s6 c0 c1 c2 c3 f; grind
  have q2 : ¬ s = s + 2 := by clear s1 s4 s5 s6 c0 c1 c2 c3 f; grind
  have q3 : ¬ s = s + 1 := by clear s1 s4 s5 s6 c0 c1 c2 c3 f; grind
  have q4 : ¬ s + 1 = s + 3 := by clear s1 s4 s5 s6 c0 c1 c2 c3 f; grind
  have q5 : ¬ s + 1 = s + 2 := by clear s1 s4 s5 s6 c0 c1 c2 c3 f; grind
  have q6 : ¬ s + 2 = s + 3 := by clear s1 s4 s5 s6 c0 c1 c2 c3 f; grind
  refine Or.inl ⟨p, rfl, ⟨RT_S s1 (by simp [gI_sI, gI_sA]) (fun _ => by simp [gA_sI, gA_sA]) (fun _ => by simp [gL_sI, gL_sA]), s2, ?_, ?_, ?_, ?_, ?_⟩, by simp [gI_sI], ?_, f, ?_⟩
  · simpa [gI_sI, gI_sA] using s3
  · simpa [gI_sI, gI_sA, gA_sI, gA_sA] using s4
  · show isSk _ (gA T 1) _ _
    simpa [gI_sI, gI_sA] using s5
  · show tkE _ (gA T 1) _ _
    simpa [gI_sI, gI_sA] using s6
  · simpa [gI_sI, gI_sA] using s7
  · simp only [gA_sI, gA5, q1, q2, q3, q4, q5, q6, if_false, if_true, ite_true, ite_false, reduceIte]
    unfold cM
    rw [hse]
    exact ⟨k1, k2, c0, c1, c2, c3⟩
  · intro x x0 x1
    rw [gA_sI, gA5, gA5, gA5, gA5, if_neg (show ¬ x = s + 3 by clear s1 s4 s5 s6 c0 c1 c2 c3 f; grind), if_neg (show ¬ x = s + 2 by clear s1 s4 s5 s6 c0 c1 c2 c3 f; grind), if_neg (show ¬ x = s + 1 by clear s1 s4 s5 s6 c0 c1 c2 c3 f; grind), if_neg (show ¬ x = s by clear s1 s4 s5 s6 c0 c1 c2 c3 f; grind)]
    exact eA x

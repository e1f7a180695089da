/-! both side by side: a step -/
theorem gLt_y {α β : Type} {v : α} {F : α → β} : gLt v F = F v := Eq.trans rfl rfl
theorem syncAt_e {X : xS} {o : Nat} {i : Int32} : FC_X12_syncAt X o i = (if i < 0 then none else (if 24 ≤ i then none else xQ X ((xR X o 1).getD 0) i), X) := by
  rw [FC_X12_syncAt]; simp only [gLt_x]
  by_cases c : i < 0
  · rw [if_pos c, if_pos c]
  · rw [if_neg c, if_neg c]
    by_cases d : (24 : Int32) ≤ i
    · rw [if_pos d, if_pos d]
    · rw [if_neg d, if_neg d]
      cases xQ X ((xR X o 1).getD 0) i <;> rfl
theorem R_sync {ad : adT} {e : Int32} {S : mS} {X : xS} {i : Int32} (h : Rel ad e S X) : FC_X12_syncAt X (ad 8 0) i = (if 0 ≤ i ∧ i < 24 ∧ gA S 28 i ≠ 0 then some (ad 2 i) else none, X) := by
  rw [syncAt_e, h.2.1.2.1, Option.getD_some]
  by_cases c : i < 0
  · rw [if_pos c, if_neg (fun z => by have := z.1; clear h; grind)]
  · rw [if_neg c]
    by_cases d : (24 : Int32) ≤ i
    · rw [if_pos d, if_neg (fun z => by have := z.2.1; clear h; grind)]
    · rw [if_neg d]
      have z := h.2.2.2.2.2.2.2.2.1 i (by clear h; grind) (by clear h; grind)
      by_cases k : gA S 28 i = 0
      · rw [z.1 k, if_neg (fun y => y.2.2 k)]
      · rw [(z.2 k).1, if_pos ⟨by clear h z; grind, by clear h z; grind, k⟩]
/-- what is left of a turn when the word is u: of an OBJECT -/
def rsW (X : xS) (o a u : Nat) : xS := gC (FC_X8_operand X a 0) (fun r Y => gC (FC_X12_syncAt Y o r) (fun s Z => gO s (FC_X8_fail Z a 2) (fun y => if xI Z y 1 = wK.getD u 0 then pfm Z y a u else FC_X8_fail Z a 2)))
def rst (X : xS) (o a : Nat) : xS := gC (FC_X8_word X a) (fun u Y => if wK.getD u 0 = -1 then FC_X12_doAlone Y o a u else rsW Y o a u)
theorem turn_e {X : xS} {o a : Nat} : FC_X12_takeTurn X o (some a) = gO (xR (xwI (xwJ X o 4 (xJ X o 4 + 1)) o 5 (xI X a 0)) a 7) (rst (xwI (xwJ X o 4 (xJ X o 4 + 1)) o 5 (xI X a 0)) o a) (fun y => if xC (xwI (xwJ X o 4 (xJ X o 4 + 1)) o 5 (xI X a 0)) y = 3 then FC_X4_tryAgain (xwI (xwJ X o 4 (xJ X o 4 + 1)) o 5 (xI X a 0)) y a else rst (xwI (xwJ X o 4 (xJ X o 4 + 1)) o 5 (xI X a 0)) o a) := by
  rw [FC_X12_takeTurn, gO_1, gLt_x, gLt_x, gLt_x, gLt_x, gLt_x, xI_J]
  generalize xwI (xwJ X o 4 (xJ X o 4 + 1)) o 5 (xI X a 0) = X6
  have e : rst X6 o a = rst X6 o a := rfl
  conv at e => lhs; rw [rst]
  simp only [gLt_y]
  unfold rst rsW pfm
  exact Eq.refl _
section TW
variable {ad : adT} {B : Int32} {S : mS} {X : xS} {t : Int32}
theorem kOf {q : Int32} : G_kindOf S q = if 12 < q then (if 16 < q then (if 19 < q then (if 21 < q then (if q = 22 then 4 else (if 26 < q then (if 28 < q then 8 else 7) else 5)) else 3) else 2) else 6) else 1 := by rw [G_kindOf]
theorem with_f {q b : Int32} (h : ¬ (0 ≤ b ∧ b < 24 ∧ gA S 28 b = G_kindOf S q)) (hK : G_kindOf S q ≠ 0) : G_with S t q b = (0, sA (sA S 13 t 5) 17 t 2) := by
  rw [G_with]
  by_cases c : 0 ≤ b ∧ b < 24 ∧ gA S 28 b ≠ 0
  · rw [isT ⟨c.1, c.2.1⟩ c.2.2, gLt_x, if_neg (by decide), gLt_x, if_neg (fun z => h ⟨c.1, c.2.1, z⟩), G_with_J21, fails_e, gC_p]
  · rw [isT0 c, gLt_x, if_pos rfl, G_with_J21, fails_e, gC_p]
/-- a word of an OBJECT, where there is none of its KIND -/
theorem s_wf {q : Int32} {u : Nat} (h : Sim ad B S X) (hf : fre S t) (hq : opM S t = q) (q6 : q ≠ 6) (q7 : q ≠ 33) (hK : G_kindOf S q ≠ 0) (hu : wK.getD u 0 = G_kindOf S q - 1) (c : ¬ (0 ≤ G_part S t 1 ∧ G_part S t 1 < 24 ∧ gA S 28 (G_part S t 1) = G_kindOf S q)) : Sim ad B (fin t (gA S 15 t + 1) (G_with S t q (G_part S t 1))) (rsW X (ad 8 0) (ad 0 t) u) := by
  rw [with_f c hK, fin_0, rsW, R_op1 h.2.2 hf.1 (fre_at h.1 hf) (by rw [hq]; exact q6) (by rw [hq]; exact q7), gC_p, R_sync h.2.2, gC_p]
  by_cases d : 0 ≤ G_part S t 1 ∧ G_part S t 1 < 24 ∧ gA S 28 (G_part S t 1) ≠ 0
  · rw [if_pos d, gO_1, (xcl h.2.2 ⟨d.1, d.2.1⟩ d.2.2).2, hu, if_neg (fun z => c ⟨d.1, d.2.1, by clear h hu c; grind⟩)]
    exact s_fail h hf
  · rw [if_neg d, gO_0]
    exact s_fail h hf
theorem s_wt {q b : Int32} {u : Nat} (h : Sim ad B S X) (hf : fre S t) (hq : opM S t = q) (q6 : q ≠ 6) (q7 : q ≠ 33) (hK : G_kindOf S q ≠ 0) (hu : wK.getD u 0 = G_kindOf S q - 1) (c : 0 ≤ G_part S t 1 ∧ G_part S t 1 < 24 ∧ gA S 28 (G_part S t 1) = G_kindOf S q) : rsW X (ad 8 0) (ad 0 t) u = pfm X (ad 2 (G_part S t 1)) (ad 0 t) u := by
  have k0 : gA S 28 (G_part S t 1) ≠ 0 := by rw [c.2.2]; exact hK
  rw [rsW, R_op1 h.2.2 hf.1 (fre_at h.1 hf) (by rw [hq]; exact q6) (by rw [hq]; exact q7), gC_p, R_sync h.2.2, gC_p, if_pos ⟨c.1, c.2.1, k0⟩, gO_1, (xcl h.2.2 ⟨c.1, c.2.1⟩ k0).2, hu, c.2.2, if_pos rfl]
theorem s_wq7 (h : Sim ad B S X) (hB : 1 ≤ B ∧ B ≤ 1000000000) (hf : fre S t) (hq : opM S t = 7) : Sim ad (B + 8) (fin t (gA S 15 t + 1) (G_with S t 7 (G_part S t 1))) (rsW X (ad 8 0) (ad 0 t) 8) := by
  have hu : wK.getD 8 0 = G_kindOf S 7 - 1 := by rw [kOf]; decide
  have hK : G_kindOf S 7 ≠ 0 := by rw [kOf]; decide
  by_cases c : 0 ≤ G_part S t 1 ∧ G_part S t 1 < 24 ∧ gA S 28 (G_part S t 1) = G_kindOf S 7
  · rw [s_wt (b := 0) h hf hq (by decide) (by decide) hK hu c]
    have hk := c.2.2
    rw [kOf] at hk
    exact s_op7 h hB hf ⟨c.1, c.2.1⟩ (hk.trans (by decide)) hq
  · exact s_mono (s_wf h hf hq (by decide) (by decide) hK hu c) (b8 hB)
theorem s_wq8 (h : Sim ad B S X) (hB : 1 ≤ B ∧ B ≤ 1000000000) (hf : fre S t) (hq : opM S t = 8) : Sim ad (B + 8) (fin t (gA S 15 t + 1) (G_with S t 8 (G_part S t 1))) (rsW X (ad 8 0) (ad 0 t) 9) := by
  have hu : wK.getD 9 0 = G_kindOf S 8 - 1 := by rw [kOf]; decide
  have hK : G_kindOf S 8 ≠ 0 := by rw [kOf]; decide
  by_cases c : 0 ≤ G_part S t 1 ∧ G_part S t 1 < 24 ∧ gA S 28 (G_part S t 1) = G_kindOf S 8
  · rw [s_wt (b := 0) h hf hq (by decide) (by decide) hK hu c]
    have hk := c.2.2
    rw [kOf] at hk
    exact s_op8 h hB hf ⟨c.1, c.2.1⟩ (hk.trans (by decide)) hq
  · exact s_mono (s_wf h hf hq (by decide) (by decide) hK hu c) (b8 hB)
theorem s_wq9 (h : Sim ad B S X) (hB : 1 ≤ B ∧ B ≤ 1000000000) (hf : fre S t) (hq : opM S t = 9) : Sim ad (B + 8) (fin t (gA S 15 t + 1) (G_with S t 9 (G_part S t 1))) (rsW X (ad 8 0) (ad 0 t) 10) := by
  have hu : wK.getD 10 0 = G_kindOf S 9 - 1 := by rw [kOf]; decide
  have hK : G_kindOf S 9 ≠ 0 := by rw [kOf]; decide
  by_cases c : 0 ≤ G_part S t 1 ∧ G_part S t 1 < 24 ∧ gA S 28 (G_part S t 1) = G_kindOf S 9
  · rw [s_wt (b := 0) h hf hq (by decide) (by decide) hK hu c]
    have hk := c.2.2
    rw [kOf] at hk
    exact s_op9 h hB hf ⟨c.1, c.2.1⟩ (hk.trans (by decide)) hq
  · exact s_mono (s_wf h hf hq (by decide) (by decide) hK hu c) (b8 hB)
theorem s_wq10 (h : Sim ad B S X) (hB : 1 ≤ B ∧ B ≤ 1000000000) (hf : fre S t) (hq : opM S t = 10) : Sim ad (B + 8) (fin t (gA S 15 t + 1) (G_with S t 10 (G_part S t 1))) (rsW X (ad 8 0) (ad 0 t) 11) := by
  have hu : wK.getD 11 0 = G_kindOf S 10 - 1 := by rw [kOf]; decide
  have hK : G_kindOf S 10 ≠ 0 := by rw [kOf]; decide
  by_cases c : 0 ≤ G_part S t 1 ∧ G_part S t 1 < 24 ∧ gA S 28 (G_part S t 1) = G_kindOf S 10
  · rw [s_wt (b := 0) h hf hq (by decide) (by decide) hK hu c]
    have hk := c.2.2
    rw [kOf] at hk
    exact s_op10 h hB hf ⟨c.1, c.2.1⟩ (hk.trans (by decide)) hq
  · exact s_mono (s_wf h hf hq (by decide) (by decide) hK hu c) (b8 hB)
theorem s_wq11 (h : Sim ad B S X) (hB : 1 ≤ B ∧ B ≤ 1000000000) (hf : fre S t) (hq : opM S t = 11) : Sim ad (B + 8) (fin t (gA S 15 t + 1) (G_with S t 11 (G_part S t 1))) (rsW X (ad 8 0) (ad 0 t) 12) := by
  have hu : wK.getD 12 0 = G_kindOf S 11 - 1 := by rw [kOf]; decide
  have hK : G_kindOf S 11 ≠ 0 := by rw [kOf]; decide
  by_cases c : 0 ≤ G_part S t 1 ∧ G_part S t 1 < 24 ∧ gA S 28 (G_part S t 1) = G_kindOf S 11
  · rw [s_wt (b := 0) h hf hq (by decide) (by decide) hK hu c]
    have hk := c.2.2
    rw [kOf] at hk
    exact s_op11 h hB hf ⟨c.1, c.2.1⟩ (hk.trans (by decide)) hq
  · exact s_mono (s_wf h hf hq (by decide) (by decide) hK hu c) (b8 hB)
theorem s_wq12 (h : Sim ad B S X) (hB : 1 ≤ B ∧ B ≤ 1000000000) (hf : fre S t) (hq : opM S t = 12) : Sim ad (B + 8) (fin t (gA S 15 t + 1) (G_with S t 12 (G_part S t 1))) (rsW X (ad 8 0) (ad 0 t) 13) := by
  have hu : wK.getD 13 0 = G_kindOf S 12 - 1 := by rw [kOf]; decide
  have hK : G_kindOf S 12 ≠ 0 := by rw [kOf]; decide
  by_cases c : 0 ≤ G_part S t 1 ∧ G_part S t 1 < 24 ∧ gA S 28 (G_part S t 1) = G_kindOf S 12
  · rw [s_wt (b := 0) h hf hq (by decide) (by decide) hK hu c]
    have hk := c.2.2
    rw [kOf] at hk
    exact s_op12 h hB hf ⟨c.1, c.2.1⟩ (hk.trans (by decide)) hq
  · exact s_mono (s_wf h hf hq (by decide) (by decide) hK hu c) (b8 hB)
theorem s_wq13 (h : Sim ad B S X) (hB : 1 ≤ B ∧ B ≤ 1000000000) (hf : fre S t) (hq : opM S t = 13) : Sim ad (B + 8) (fin t (gA S 15 t + 1) (G_with S t 13 (G_part S t 1))) (rsW X (ad 8 0) (ad 0 t) 14) := by
  have hu : wK.getD 14 0 = G_kindOf S 13 - 1 := by rw [kOf]; decide
  have hK : G_kindOf S 13 ≠ 0 := by rw [kOf]; decide
  by_cases c : 0 ≤ G_part S t 1 ∧ G_part S t 1 < 24 ∧ gA S 28 (G_part S t 1) = G_kindOf S 13
  · rw [s_wt (b := 0) h hf hq (by decide) (by decide) hK hu c]
    have hk := c.2.2
    rw [kOf] at hk
    exact s_op13 h hB hf ⟨c.1, c.2.1⟩ (hk.trans (by decide)) hq
  · exact s_mono (s_wf h hf hq (by decide) (by decide) hK hu c) (b8 hB)
theorem s_wq14 (h : Sim ad B S X) (hB : 1 ≤ B ∧ B ≤ 1000000000) (hf : fre S t) (hq : opM S t = 14) : Sim ad (B + 8) (fin t (gA S 15 t + 1) (G_with S t 14 (G_part S t 1))) (rsW X (ad 8 0) (ad 0 t) 15) := by
  have hu : wK.getD 15 0 = G_kindOf S 14 - 1 := by rw [kOf]; decide
  have hK : G_kindOf S 14 ≠ 0 := by rw [kOf]; decide
  by_cases c : 0 ≤ G_part S t 1 ∧ G_part S t 1 < 24 ∧ gA S 28 (G_part S t 1) = G_kindOf S 14
  · rw [s_wt (b := 0) h hf hq (by decide) (by decide) hK hu c]
    have hk := c.2.2
    rw [kOf] at hk
    exact s_op14 h hB hf ⟨c.1, c.2.1⟩ (hk.trans (by decide)) hq
  · exact s_mono (s_wf h hf hq (by decide) (by decide) hK hu c) (b8 hB)
theorem s_wq15 (h : Sim ad B S X) (hB : 1 ≤ B ∧ B ≤ 1000000000) (hf : fre S t) (hq : opM S t = 15) : Sim ad (B + 8) (fin t (gA S 15 t + 1) (G_with S t 15 (G_part S t 1))) (rsW X (ad 8 0) (ad 0 t) 16) := by
  have hu : wK.getD 16 0 = G_kindOf S 15 - 1 := by rw [kOf]; decide
  have hK : G_kindOf S 15 ≠ 0 := by rw [kOf]; decide
  by_cases c : 0 ≤ G_part S t 1 ∧ G_part S t 1 < 24 ∧ gA S 28 (G_part S t 1) = G_kindOf S 15
  · rw [s_wt (b := 0) h hf hq (by decide) (by decide) hK hu c]
    have hk := c.2.2
    rw [kOf] at hk
    exact s_op15 h hB hf ⟨c.1, c.2.1⟩ (hk.trans (by decide)) hq
  · exact s_mono (s_wf h hf hq (by decide) (by decide) hK hu c) (b8 hB)
theorem s_wq16 (h : Sim ad B S X) (hB : 1 ≤ B ∧ B ≤ 1000000000) (hf : fre S t) (hq : opM S t = 16) : Sim ad (B + 8) (fin t (gA S 15 t + 1) (G_with S t 16 (G_part S t 1))) (rsW X (ad 8 0) (ad 0 t) 17) := by
  have hu : wK.getD 17 0 = G_kindOf S 16 - 1 := by rw [kOf]; decide
  have hK : G_kindOf S 16 ≠ 0 := by rw [kOf]; decide
  by_cases c : 0 ≤ G_part S t 1 ∧ G_part S t 1 < 24 ∧ gA S 28 (G_part S t 1) = G_kindOf S 16
  · rw [s_wt (b := 0) h hf hq (by decide) (by decide) hK hu c]
    have hk := c.2.2
    rw [kOf] at hk
    exact s_op16 h hB hf ⟨c.1, c.2.1⟩ (hk.trans (by decide)) hq
  · exact s_mono (s_wf h hf hq (by decide) (by decide) hK hu c) (b8 hB)
theorem s_wq17 (h : Sim ad B S X) (hB : 1 ≤ B ∧ B ≤ 1000000000) (hf : fre S t) (hq : opM S t = 17) : Sim ad (B + 8) (fin t (gA S 15 t + 1) (G_with S t 17 (G_part S t 1))) (rsW X (ad 8 0) (ad 0 t) 18) := by
  have hu : wK.getD 18 0 = G_kindOf S 17 - 1 := by rw [kOf]; decide
  have hK : G_kindOf S 17 ≠ 0 := by rw [kOf]; decide
  by_cases c : 0 ≤ G_part S t 1 ∧ G_part S t 1 < 24 ∧ gA S 28 (G_part S t 1) = G_kindOf S 17
  · rw [s_wt (b := 0) h hf hq (by decide) (by decide) hK hu c]
    have hk := c.2.2
    rw [kOf] at hk
    exact s_op17 h hB hf ⟨c.1, c.2.1⟩ (hk.trans (by decide)) hq
  · exact s_mono (s_wf h hf hq (by decide) (by decide) hK hu c) (b8 hB)
theorem s_wq18 (h : Sim ad B S X) (hB : 1 ≤ B ∧ B ≤ 1000000000) (hf : fre S t) (hq : opM S t = 18) : Sim ad (B + 8) (fin t (gA S 15 t + 1) (G_with S t 18 (G_part S t 1))) (rsW X (ad 8 0) (ad 0 t) 19) := by
  have hu : wK.getD 19 0 = G_kindOf S 18 - 1 := by rw [kOf]; decide
  have hK : G_kindOf S 18 ≠ 0 := by rw [kOf]; decide
  by_cases c : 0 ≤ G_part S t 1 ∧ G_part S t 1 < 24 ∧ gA S 28 (G_part S t 1) = G_kindOf S 18
  · rw [s_wt (b := 0) h hf hq (by decide) (by decide) hK hu c]
    have hk := c.2.2
    rw [kOf] at hk
    exact s_op18 h hB hf ⟨c.1, c.2.1⟩ (hk.trans (by decide)) hq
  · exact s_mono (s_wf h hf hq (by decide) (by decide) hK hu c) (b8 hB)
theorem s_wq19 (h : Sim ad B S X) (hB : 1 ≤ B ∧ B ≤ 1000000000) (hf : fre S t) (hq : opM S t = 19) : Sim ad (B + 8) (fin t (gA S 15 t + 1) (G_with S t 19 (G_part S t 1))) (rsW X (ad 8 0) (ad 0 t) 20) := by
  have hu : wK.getD 20 0 = G_kindOf S 19 - 1 := by rw [kOf]; decide
  have hK : G_kindOf S 19 ≠ 0 := by rw [kOf]; decide
  by_cases c : 0 ≤ G_part S t 1 ∧ G_part S t 1 < 24 ∧ gA S 28 (G_part S t 1) = G_kindOf S 19
  · rw [s_wt (b := 0) h hf hq (by decide) (by decide) hK hu c]
    have hk := c.2.2
    rw [kOf] at hk
    exact s_op19 h hB hf ⟨c.1, c.2.1⟩ (hk.trans (by decide)) hq
  · exact s_mono (s_wf h hf hq (by decide) (by decide) hK hu c) (b8 hB)
theorem s_wq20 (h : Sim ad B S X) (hB : 1 ≤ B ∧ B ≤ 1000000000) (hf : fre S t) (hq : opM S t = 20) : Sim ad (B + 8) (fin t (gA S 15 t + 1) (G_with S t 20 (G_part S t 1))) (rsW X (ad 8 0) (ad 0 t) 21) := by
  have hu : wK.getD 21 0 = G_kindOf S 20 - 1 := by rw [kOf]; decide
  have hK : G_kindOf S 20 ≠ 0 := by rw [kOf]; decide
  by_cases c : 0 ≤ G_part S t 1 ∧ G_part S t 1 < 24 ∧ gA S 28 (G_part S t 1) = G_kindOf S 20
  · rw [s_wt (b := 0) h hf hq (by decide) (by decide) hK hu c]
    have hk := c.2.2
    rw [kOf] at hk
    exact s_op20 h hB hf ⟨c.1, c.2.1⟩ (hk.trans (by decide)) hq
  · exact s_mono (s_wf h hf hq (by decide) (by decide) hK hu c) (b8 hB)
theorem s_wq21 (h : Sim ad B S X) (hB : 1 ≤ B ∧ B ≤ 1000000000) (hf : fre S t) (hq : opM S t = 21) : Sim ad (B + 8) (fin t (gA S 15 t + 1) (G_with S t 21 (G_part S t 1))) (rsW X (ad 8 0) (ad 0 t) 22) := by
  have hu : wK.getD 22 0 = G_kindOf S 21 - 1 := by rw [kOf]; decide
  have hK : G_kindOf S 21 ≠ 0 := by rw [kOf]; decide
  by_cases c : 0 ≤ G_part S t 1 ∧ G_part S t 1 < 24 ∧ gA S 28 (G_part S t 1) = G_kindOf S 21
  · rw [s_wt (b := 0) h hf hq (by decide) (by decide) hK hu c]
    have hk := c.2.2
    rw [kOf] at hk
    exact s_op21 h hB hf ⟨c.1, c.2.1⟩ (hk.trans (by decide)) hq
  · exact s_mono (s_wf h hf hq (by decide) (by decide) hK hu c) (b8 hB)
theorem s_wq22 (h : Sim ad B S X) (hB : 1 ≤ B ∧ B ≤ 1000000000) (hf : fre S t) (hq : opM S t = 22) : Sim ad (B + 8) (fin t (gA S 15 t + 1) (G_with S t 22 (G_part S t 1))) (rsW X (ad 8 0) (ad 0 t) 23) := by
  have hu : wK.getD 23 0 = G_kindOf S 22 - 1 := by rw [kOf]; decide
  have hK : G_kindOf S 22 ≠ 0 := by rw [kOf]; decide
  by_cases c : 0 ≤ G_part S t 1 ∧ G_part S t 1 < 24 ∧ gA S 28 (G_part S t 1) = G_kindOf S 22
  · rw [s_wt (b := 0) h hf hq (by decide) (by decide) hK hu c]
    have hk := c.2.2
    rw [kOf] at hk
    exact s_op22 h hB hf ⟨c.1, c.2.1⟩ (hk.trans (by decide)) hq
  · exact s_mono (s_wf h hf hq (by decide) (by decide) hK hu c) (b8 hB)
theorem s_wq23 (h : Sim ad B S X) (hB : 1 ≤ B ∧ B ≤ 1000000000) (hf : fre S t) (hq : opM S t = 23) : Sim ad (B + 8) (fin t (gA S 15 t + 1) (G_with S t 23 (G_part S t 1))) (rsW X (ad 8 0) (ad 0 t) 24) := by
  have hu : wK.getD 24 0 = G_kindOf S 23 - 1 := by rw [kOf]; decide
  have hK : G_kindOf S 23 ≠ 0 := by rw [kOf]; decide
  by_cases c : 0 ≤ G_part S t 1 ∧ G_part S t 1 < 24 ∧ gA S 28 (G_part S t 1) = G_kindOf S 23
  · rw [s_wt (b := 0) h hf hq (by decide) (by decide) hK hu c]
    have hk := c.2.2
    rw [kOf] at hk
    exact s_op23 h hB hf ⟨c.1, c.2.1⟩ (hk.trans (by decide)) hq
  · exact s_mono (s_wf h hf hq (by decide) (by decide) hK hu c) (b8 hB)
theorem s_wq24 (h : Sim ad B S X) (hB : 1 ≤ B ∧ B ≤ 1000000000) (hf : fre S t) (hq : opM S t = 24) : Sim ad (B + 8) (fin t (gA S 15 t + 1) (G_with S t 24 (G_part S t 1))) (rsW X (ad 8 0) (ad 0 t) 25) := by
  have hu : wK.getD 25 0 = G_kindOf S 24 - 1 := by rw [kOf]; decide
  have hK : G_kindOf S 24 ≠ 0 := by rw [kOf]; decide
  by_cases c : 0 ≤ G_part S t 1 ∧ G_part S t 1 < 24 ∧ gA S 28 (G_part S t 1) = G_kindOf S 24
  · rw [s_wt (b := 0) h hf hq (by decide) (by decide) hK hu c]
    have hk := c.2.2
    rw [kOf] at hk
    exact s_op24 h hB hf ⟨c.1, c.2.1⟩ (hk.trans (by decide)) hq
  · exact s_mono (s_wf h hf hq (by decide) (by decide) hK hu c) (b8 hB)
theorem s_wq25 (h : Sim ad B S X) (hB : 1 ≤ B ∧ B ≤ 1000000000) (hf : fre S t) (hq : opM S t = 25) : Sim ad (B + 8) (fin t (gA S 15 t + 1) (G_with S t 25 (G_part S t 1))) (rsW X (ad 8 0) (ad 0 t) 26) := by
  have hu : wK.getD 26 0 = G_kindOf S 25 - 1 := by rw [kOf]; decide
  have hK : G_kindOf S 25 ≠ 0 := by rw [kOf]; decide
  by_cases c : 0 ≤ G_part S t 1 ∧ G_part S t 1 < 24 ∧ gA S 28 (G_part S t 1) = G_kindOf S 25
  · rw [s_wt (b := 0) h hf hq (by decide) (by decide) hK hu c]
    have hk := c.2.2
    rw [kOf] at hk
    exact s_op25 h hB hf ⟨c.1, c.2.1⟩ (hk.trans (by decide)) hq
  · exact s_mono (s_wf h hf hq (by decide) (by decide) hK hu c) (b8 hB)
theorem s_wq26 (h : Sim ad B S X) (hB : 1 ≤ B ∧ B ≤ 1000000000) (hf : fre S t) (hq : opM S t = 26) : Sim ad (B + 8) (fin t (gA S 15 t + 1) (G_with S t 26 (G_part S t 1))) (rsW X (ad 8 0) (ad 0 t) 27) := by
  have hu : wK.getD 27 0 = G_kindOf S 26 - 1 := by rw [kOf]; decide
  have hK : G_kindOf S 26 ≠ 0 := by rw [kOf]; decide
  by_cases c : 0 ≤ G_part S t 1 ∧ G_part S t 1 < 24 ∧ gA S 28 (G_part S t 1) = G_kindOf S 26
  · rw [s_wt (b := 0) h hf hq (by decide) (by decide) hK hu c]
    have hk := c.2.2
    rw [kOf] at hk
    exact s_op26 h hB hf ⟨c.1, c.2.1⟩ (hk.trans (by decide)) hq
  · exact s_mono (s_wf h hf hq (by decide) (by decide) hK hu c) (b8 hB)
theorem s_wq27 (h : Sim ad B S X) (hB : 1 ≤ B ∧ B ≤ 1000000000) (hf : fre S t) (hq : opM S t = 27) : Sim ad (B + 8) (fin t (gA S 15 t + 1) (G_with S t 27 (G_part S t 1))) (rsW X (ad 8 0) (ad 0 t) 28) := by
  have hu : wK.getD 28 0 = G_kindOf S 27 - 1 := by rw [kOf]; decide
  have hK : G_kindOf S 27 ≠ 0 := by rw [kOf]; decide
  by_cases c : 0 ≤ G_part S t 1 ∧ G_part S t 1 < 24 ∧ gA S 28 (G_part S t 1) = G_kindOf S 27
  · rw [s_wt (b := 0) h hf hq (by decide) (by decide) hK hu c]
    have hk := c.2.2
    rw [kOf] at hk
    exact s_op27 h hB hf ⟨c.1, c.2.1⟩ (hk.trans (by decide)) hq
  · exact s_mono (s_wf h hf hq (by decide) (by decide) hK hu c) (b8 hB)
theorem s_wq28 (h : Sim ad B S X) (hB : 1 ≤ B ∧ B ≤ 1000000000) (hf : fre S t) (hq : opM S t = 28) : Sim ad (B + 8) (fin t (gA S 15 t + 1) (G_with S t 28 (G_part S t 1))) (rsW X (ad 8 0) (ad 0 t) 29) := by
  have hu : wK.getD 29 0 = G_kindOf S 28 - 1 := by rw [kOf]; decide
  have hK : G_kindOf S 28 ≠ 0 := by rw [kOf]; decide
  by_cases c : 0 ≤ G_part S t 1 ∧ G_part S t 1 < 24 ∧ gA S 28 (G_part S t 1) = G_kindOf S 28
  · rw [s_wt (b := 0) h hf hq (by decide) (by decide) hK hu c]
    have hk := c.2.2
    rw [kOf] at hk
    exact s_op28 h hB hf ⟨c.1, c.2.1⟩ (hk.trans (by decide)) hq
  · exact s_mono (s_wf h hf hq (by decide) (by decide) hK hu c) (b8 hB)
theorem s_wq29 (h : Sim ad B S X) (hB : 1 ≤ B ∧ B ≤ 1000000000) (hf : fre S t) (hq : opM S t = 29) : Sim ad (B + 8) (fin t (gA S 15 t + 1) (G_with S t 29 (G_part S t 1))) (rsW X (ad 8 0) (ad 0 t) 30) := by
  have hu : wK.getD 30 0 = G_kindOf S 29 - 1 := by rw [kOf]; decide
  have hK : G_kindOf S 29 ≠ 0 := by rw [kOf]; decide
  by_cases c : 0 ≤ G_part S t 1 ∧ G_part S t 1 < 24 ∧ gA S 28 (G_part S t 1) = G_kindOf S 29
  · rw [s_wt (b := 0) h hf hq (by decide) (by decide) hK hu c]
    have hk := c.2.2
    rw [kOf] at hk
    exact s_op29 h hB hf ⟨c.1, c.2.1⟩ (hk.trans (by decide)) hq
  · exact s_mono (s_wf h hf hq (by decide) (by decide) hK hu c) (b8 hB)
theorem s_wq30 (h : Sim ad B S X) (hB : 1 ≤ B ∧ B ≤ 1000000000) (hf : fre S t) (hq : opM S t = 30) : Sim ad (B + 8) (fin t (gA S 15 t + 1) (G_with S t 30 (G_part S t 1))) (rsW X (ad 8 0) (ad 0 t) 31) := by
  have hu : wK.getD 31 0 = G_kindOf S 30 - 1 := by rw [kOf]; decide
  have hK : G_kindOf S 30 ≠ 0 := by rw [kOf]; decide
  by_cases c : 0 ≤ G_part S t 1 ∧ G_part S t 1 < 24 ∧ gA S 28 (G_part S t 1) = G_kindOf S 30
  · rw [s_wt (b := 0) h hf hq (by decide) (by decide) hK hu c]
    have hk := c.2.2
    rw [kOf] at hk
    exact s_op30 h hB hf ⟨c.1, c.2.1⟩ (hk.trans (by decide)) hq
  · exact s_mono (s_wf h hf hq (by decide) (by decide) hK hu c) (b8 hB)
theorem s_wq31 (h : Sim ad B S X) (hB : 1 ≤ B ∧ B ≤ 1000000000) (hf : fre S t) (hq : opM S t = 31) : Sim ad (B + 8) (fin t (gA S 15 t + 1) (G_with S t 31 (G_part S t 1))) (rsW X (ad 8 0) (ad 0 t) 32) := by
  have hu : wK.getD 32 0 = G_kindOf S 31 - 1 := by rw [kOf]; decide
  have hK : G_kindOf S 31 ≠ 0 := by rw [kOf]; decide
  by_cases c : 0 ≤ G_part S t 1 ∧ G_part S t 1 < 24 ∧ gA S 28 (G_part S t 1) = G_kindOf S 31
  · rw [s_wt (b := 0) h hf hq (by decide) (by decide) hK hu c]
    have hk := c.2.2
    rw [kOf] at hk
    exact s_op31 h hB hf ⟨c.1, c.2.1⟩ (hk.trans (by decide)) hq
  · exact s_mono (s_wf h hf hq (by decide) (by decide) hK hu c) (b8 hB)
theorem s_wq32 (h : Sim ad B S X) (hB : 1 ≤ B ∧ B ≤ 1000000000) (hf : fre S t) (hq : opM S t = 32) : Sim ad (B + 8) (fin t (gA S 15 t + 1) (G_with S t 32 (G_part S t 1))) (rsW X (ad 8 0) (ad 0 t) 33) := by
  have hu : wK.getD 33 0 = G_kindOf S 32 - 1 := by rw [kOf]; decide
  have hK : G_kindOf S 32 ≠ 0 := by rw [kOf]; decide
  by_cases c : 0 ≤ G_part S t 1 ∧ G_part S t 1 < 24 ∧ gA S 28 (G_part S t 1) = G_kindOf S 32
  · rw [s_wt (b := 0) h hf hq (by decide) (by decide) hK hu c]
    have hk := c.2.2
    rw [kOf] at hk
    exact s_op32 h hB hf ⟨c.1, c.2.1⟩ (hk.trans (by decide)) hq
  · exact s_mono (s_wf h hf hq (by decide) (by decide) hK hu c) (b8 hB)
end TW

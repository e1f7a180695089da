theorem a_ne {x : Int32} (h0 : 0 ≤ x) (h1 : x ≤ 236) : x ≠ x + 1 ∧ x ≠ x + 2 ∧ x ≠ x + 3 ∧ x + 1 ≠ x + 2 ∧ x + 1 ≠ x + 3 := by
  refine ⟨?_, ?_, ?_, ?_, ?_⟩ <;> grind
theorem po_step {S S1 S2 S3 S4 S5 : mS} {x op a b c : Int32} (hl : 0 ≤ gI S 6 ∧ gI S 6 < 60) (h : (∀ k, 0 ≤ k → k < gI S 6 → 2 ≤ gA S 5 (4 * k) → gA S 5 (4 * k) ≤ 4 → 0 ≤ gA S 5 (4 * k + 1))) (hx : x = 4 * gI S 6) (e1 : S1 = sA S 5 x op) (e2 : S2 = sA S1 5 (x + 1) a) (e3 : S3 = sA S2 5 (x + 2) b) (e4 : S4 = sA S3 5 (x + 3) c) (e5 : S5 = sI S4 6 (gI S4 6 + 1)) (ho : 2 ≤ op → op ≤ 4 → 0 ≤ a) : (∀ k, 0 ≤ k → k < gI S5 6 → 2 ≤ gA S5 5 (4 * k) → gA S5 5 (4 * k) ≤ 4 → 0 ≤ gA S5 5 (4 * k + 1)) := by
  have g6 : gI S5 6 = gI S 6 + 1 := by subst e5 e4 e3 e2 e1; rfl
  have hn : ∀ q, q ≠ x → q ≠ x + 1 → q ≠ x + 2 → q ≠ x + 3 → gA S5 5 q = gA S 5 q := by
    intro q q0 q1 q2 q3
    subst e5 e4 e3 e2 e1
    simp only [gA_sI, gA_sA, if_true, if_neg q0, if_neg q1, if_neg q2, if_neg q3]
  have n1 : x ≠ x + 1 ∧ x ≠ x + 2 ∧ x ≠ x + 3 ∧ x + 1 ≠ x + 2 ∧ x + 1 ≠ x + 3 := a_ne (by clear e1 e2 e3 e4 e5 h ho hn g6; grind) (by clear e1 e2 e3 e4 e5 h ho hn g6; grind)
  have g0 : gA S5 5 x = op := by
    subst e5 e4 e3 e2 e1
    simp only [gA_sI, gA_sA, if_true, if_neg n1.1, if_neg n1.2.1, if_neg n1.2.2.1]
  have g1 : gA S5 5 (x + 1) = a := by
    subst e5 e4 e3 e2 e1
    simp only [gA_sI, gA_sA, if_true, if_neg n1.2.2.2.1, if_neg n1.2.2.2.2]
  clear e1 e2 e3 e4 e5
  intro k k0 k1 k2 k3
  rcases (show k < gI S 6 ∨ k = gI S 6 by grind) with g | g
  · rw [hn (4 * k) (by grind) (by grind) (by grind) (by grind)] at k2 k3
    rw [hn (4 * k + 1) (by grind) (by grind) (by grind) (by grind)]
    exact h k k0 g k2 k3
  · subst g
    rw [← hx, g0] at k2 k3
    rw [← hx, g1]
    exact ho k2 k3

def G_line_J166 (j166_1 : Int32) (j166_2 : Int32) (j166_3 : Int32) (j166_4 : Int32) (j166_5 : Int32) (SJ166 : mS) : mS := gLt ((4 * (gI SJ166 6)) : Int32) (fun x1 => gLt (sA SJ166 5 x1 (j166_1) : mS) (fun S2 => gLt (sA S2 5 (x1 + 1) (j166_3) : mS) (fun S3 => gLt (sA S3 5 (x1 + 2) (j166_4) : mS) (fun S4 => gLt (sA S4 5 (x1 + 3) (j166_5) : mS) (fun S5 => gLt (sI S5 6 ((gI S5 6) + 1) : mS) (fun S6 => S6))))))
def G_line_J158 (j158_1 : Int32) (j158_2 : Int32) (j158_3 : Int32) (j158_4 : Int32) (j158_5 : Int32) (SJ158 : mS) : mS := gC (G_number SJ158 1 j158_2) (fun r8 S7 => G_line_J166  j158_1 j158_2 j158_3 r8 j158_5 S7)
def G_line_J146 (j146_1 : Int32) (j146_2 : Int32) (j146_3 : Int32) (j146_4 : Int32) (j146_5 : Int32) (SJ146 : mS) : mS := if (j146_1 : Int32) = 17 then (G_line_J158  j146_1 j146_2 j146_3 j146_4 j146_5 SJ146) else (if (j146_1 : Int32) = 18 then (G_line_J158  j146_1 j146_2 j146_3 j146_4 j146_5 SJ146) else (G_line_J166  j146_1 j146_2 j146_3 j146_4 j146_5 SJ146))
def G_line_J131 (j131_1 : Int32) (j131_2 : Int32) (j131_3 : Int32) (j131_4 : Int32) (j131_5 : Int32) (SJ131 : mS) : mS := if (j131_1 : Int32) = 16 then (gC (G_number SJ131 (-j131_2) j131_2) (fun r14 S13 => G_line_J146  j131_1 j131_2 j131_3 j131_4 r14 S13)) else (G_line_J146  j131_1 j131_2 j131_3 j131_4 j131_5 SJ131)
def G_line_J122 (j122_1 : Int32) (j122_2 : Int32) (j122_3 : Int32) (j122_4 : Int32) (j122_5 : Int32) (SJ122 : mS) : mS := gC (G_number SJ122 (-j122_2) j122_2) (fun r17 S16 => G_line_J131  j122_1 j122_2 j122_3 r17 j122_5 S16)
def G_line_J110 (j110_1 : Int32) (j110_2 : Int32) (j110_3 : Int32) (j110_4 : Int32) (j110_5 : Int32) (SJ110 : mS) : mS := if (j110_1 : Int32) = 15 then (G_line_J122  j110_1 j110_2 j110_3 j110_4 j110_5 SJ110) else (if (j110_1 : Int32) = 16 then (G_line_J122  j110_1 j110_2 j110_3 j110_4 j110_5 SJ110) else (G_line_J131  j110_1 j110_2 j110_3 j110_4 j110_5 SJ110))
def G_line_J79 (j79_1 : Int32) (j79_2 : Int32) (j79_3 : Int32) (j79_4 : Int32) (j79_5 : Int32) (SJ79 : mS) : mS := gC (G_number SJ79 0 59) (fun r22 S21 => G_line_J110  j79_1 j79_2 r22 j79_4 j79_5 S21)
def G_line_J53 (j53_1 : Int32) (j53_2 : Int32) (j53_3 : Int32) (j53_4 : Int32) (j53_5 : Int32) (SJ53 : mS) : mS := gC (G_number SJ53 (-j53_2) j53_2) (fun r25 S24 => G_line_J110  j53_1 j53_2 r25 j53_4 j53_5 S24)
def G_line_J18 (S : mS) : mS := gC (G_wrong S ) (fun r28 S27 => S27)
def G_line (S : mS)  : mS := gLt (G_word S  : Int32) (fun r31 => if ((gI S 6) : Int32) = 60 then (G_line_J18 S  ) else (if 0 ≤ (r31 : Int32) then (gLt (G_next S  : mS) (fun S35 => gLt (1000000000 : Int32) (fun x38 => gLt (0 : Int32) (fun x39 => gLt (0 : Int32) (fun x40 => gLt (0 : Int32) (fun x41 => if (r31 : Int32) = 0 then (G_line_J53  r31 x38 x39 x40 x41 S35) else (if (r31 : Int32) = 1 then (G_line_J53  r31 x38 x39 x40 x41 S35) else (if (r31 : Int32) = 5 then (G_line_J53  r31 x38 x39 x40 x41 S35) else (if (r31 : Int32) = 2 then (G_line_J79  r31 x38 x39 x40 x41 S35) else (if (r31 : Int32) = 3 then (G_line_J79  r31 x38 x39 x40 x41 S35) else (if (r31 : Int32) = 4 then (G_line_J79  r31 x38 x39 x40 x41 S35) else (if (r31 : Int32) = 6 then (G_line_J110  r31 x38 x39 x40 x41 S35) else (if (r31 : Int32) = 33 then (G_line_J110  r31 x38 x39 x40 x41 S35) else (gC (G_number S35 0 23) (fun r51 S50 => G_line_J110  r31 x38 r51 x40 x41 S50))))))))))))))) else (G_line_J18 S  )))
set_option maxHeartbeats 400000 in
set_option maxRecDepth 100000 in
theorem j_line_166 {p : Program} {e : Env} {s : State} {m : MethodId} {below : List Frame} {meth : Method} {c : Code} (l : Launch) (D : va_G) (cs : ClassId × ClassId × ClassId) (o : Nat) (ad : Nat → Nat) (A : Nat → Prop) (S : mS)   (h1 : 0 ≤ gI S 8 ∧ gI S 8 ≤ gI S 9 ∧ gI S 9 ≤ gI S 7 ∧ gI S 7 ≤ 1600 ∧ (gI S 8 < gI S 7 → gI S 8 < gI S 9)) (h2 : 0 ≤ gI S 6 ∧ gI S 6 ≤ 60) (h3 : (∀ k, 0 ≤ k → k < gI S 6 → 2 ≤ gA S 5 (4 * k) → gA S 5 (4 * k) ≤ 4 → 0 ≤ gA S 5 (4 * k + 1))) (C : mC p s m ([.ref o] : List Value).toArray c cX13_line D cs) (hml : c.maxLocals = 7) (hr : meth.sig.returnType = none) (hlk : meth.locks = false) (j166_1 : Int32) (j166_2 : Int32) (j166_3 : Int32) (j166_4 : Int32) (j166_5 : Int32) (SJ166 : mS) (H : Heap) (locs : List Loc) (ls : Array Slot) (hj166 : 0 ≤ j166_1 ∧ j166_1 < 34 ∧ gI S 6 < 60 ∧ (2 ≤ j166_1 → j166_1 ≤ 4 → 0 ≤ j166_3) ∧ 0 ≤ gI SJ166 8 ∧ gI SJ166 8 ≤ gI SJ166 9 ∧ gI SJ166 9 ≤ gI SJ166 7 ∧ gI SJ166 7 ≤ 1600 ∧ (gI SJ166 8 < gI SJ166 7 → gI SJ166 8 < gI SJ166 9) ∧ gI S 8 ≤ gI SJ166 8 ∧ (∀ k, k ≠ 8 → k ≠ 9 → k ≠ 10 → gI SJ166 k = gI S k) ∧ (∀ k, gJ SJ166 k = gJ S k) ∧ (∀ k i, gA SJ166 k i = gA S k i) ∧ (∀ k i, gL SJ166 k i = gL S k i)) (hG : G_line S  = G_line_J166  j166_1 j166_2 j166_3 j166_4 j166_5 SJ166) (V : mV D cs o ad A SJ166 H) (hS : va_S A s.heap H locs) (hl : lv_has ls 7 [(0, .ref o), (1, .int j166_1), (2, .int j166_2), (3, .int j166_3), (4, .int j166_4), (5, .int j166_5)]) : W p l e ({ frames := 3, cells := 0, slots := 0, locals := 66 } : Room) s m ([.ref o] : List Value).toArray below meth c H locs 0 0 (MQ below (va_Qv (fun S9 => (0 ≤ gI S9 8 ∧ gI S9 8 ≤ gI S9 9 ∧ gI S9 9 ≤ gI S9 7 ∧ gI S9 7 ≤ 1600 ∧ (gI S9 8 < gI S9 7 → gI S9 8 < gI S9 9) ∧ gI S 8 ≤ gI S9 8 ∧ 0 ≤ gI S9 6 ∧ gI S9 6 ≤ 60 ∧ (gI S9 10 < 0 → 1 ≤ gI S9 6) ∧ (∀ k, 0 ≤ k → k < gI S9 6 → 2 ≤ gA S9 5 (4 * k) → gA S9 5 (4 * k) ≤ 4 → 0 ≤ gA S9 5 (4 * k + 1)) ∧ (∀ k, k ≠ 6 → k ≠ 8 → k ≠ 9 → k ≠ 10 → gI S9 k = gI S k) ∧ (∀ k, gJ S9 k = gJ S k) ∧ (∀ k i, k ≠ 5 → gA S9 k i = gA S k i) ∧ (∀ k i, gL S9 k i = gL S k i)) ∧ S9 = G_line S ) (mB D cs o ad A) A) ([.ref o] : List Value).toArray s 0 0 A) (F0 m 166 ls []) := by
  have hx := C.1
  have hb := C.2.1
  have hown := C.2.2.1
  have hts := C.2.2.2.1
  rw [G_line_J166] at hG
  refine lv_iconst (v := 4) hx hb dX13_line_166 (by decide) ?_
  refine lv_aload_n hx hb dX13_line_167 rfl (lv_at hl 0 rfl) ?_
  refine mG6 C V dX13_line_168 ?_
  refine lv_imul hx hb dX13_line_171 ?_
  refine lv_topi (fun x1 ex1 => ?_)
  have hG := gLt_e hG ex1
  refine lv_istore (lv' := [(6, .int x1), (0, .ref o), (1, .int j166_1), (2, .int j166_2), (3, .int j166_3), (4, .int j166_4), (5, .int j166_5)]) hx hb dX13_line_172 hl (by decide) rfl (fun ls hl => ?_)
  refine lv_aload_n hx hb dX13_line_174 rfl (lv_at hl 1 rfl) ?_
  refine mG5 C V dX13_line_175 ?_
  refine lv_iload hx hb dX13_line_178 (lv_at hl 0 rfl) ?_
  refine lv_iload_n hx hb dX13_line_180 rfl (lv_at hl 2 rfl) ?_
  refine mSt5 C V hS (vin (N := 240) rfl (by clear hG V hS hl C hts hown hx hb hml hr hlk; grind [gI_sI, gI_sJ, gI_sA, gI_sL, gJ_sI, gJ_sJ, gJ_sA, gJ_sL, gA_sI, gA_sJ, gA_sA, gA_sL, gL_sI, gL_sJ, gL_sA, gL_sL]) (by clear hG V hS hl C hts hown hx hb hml hr hlk; grind [gI_sI, gI_sJ, gI_sA, gI_sL, gJ_sI, gJ_sJ, gJ_sA, gJ_sL, gA_sI, gA_sJ, gA_sA, gA_sL, gL_sI, gL_sJ, gL_sA, gL_sL])) dX13_line_181 (fun S2 H locs eS2 V hS => ?_)
  have hG := gLt_e hG eS2
  refine lv_aload_n hx hb dX13_line_182 rfl (lv_at hl 1 rfl) ?_
  refine mG5 C V dX13_line_183 ?_
  refine lv_iload hx hb dX13_line_186 (lv_at hl 0 rfl) ?_
  refine lv_iconst (v := 1) hx hb dX13_line_188 (by decide) ?_
  refine lv_iadd hx hb dX13_line_189 ?_
  refine lv_iload_n hx hb dX13_line_190 rfl (lv_at hl 4 rfl) ?_
  refine mSt5 C V hS (vin (N := 240) rfl (by clear hG V hS hl C hts hown hx hb hml hr hlk; grind [gI_sI, gI_sJ, gI_sA, gI_sL, gJ_sI, gJ_sJ, gJ_sA, gJ_sL, gA_sI, gA_sJ, gA_sA, gA_sL, gL_sI, gL_sJ, gL_sA, gL_sL]) (by clear hG V hS hl C hts hown hx hb hml hr hlk; grind [gI_sI, gI_sJ, gI_sA, gI_sL, gJ_sI, gJ_sJ, gJ_sA, gJ_sL, gA_sI, gA_sJ, gA_sA, gA_sL, gL_sI, gL_sJ, gL_sA, gL_sL])) dX13_line_191 (fun S3 H locs eS3 V hS => ?_)
  have hG := gLt_e hG eS3
  refine lv_aload_n hx hb dX13_line_192 rfl (lv_at hl 1 rfl) ?_
  refine mG5 C V dX13_line_193 ?_
  refine lv_iload hx hb dX13_line_196 (lv_at hl 0 rfl) ?_
  refine lv_iconst (v := 2) hx hb dX13_line_198 (by decide) ?_
  refine lv_iadd hx hb dX13_line_199 ?_
  refine lv_iload hx hb dX13_line_200 (lv_at hl 5 rfl) ?_
  refine mSt5 C V hS (vin (N := 240) rfl (by clear hG V hS hl C hts hown hx hb hml hr hlk; grind [gI_sI, gI_sJ, gI_sA, gI_sL, gJ_sI, gJ_sJ, gJ_sA, gJ_sL, gA_sI, gA_sJ, gA_sA, gA_sL, gL_sI, gL_sJ, gL_sA, gL_sL]) (by clear hG V hS hl C hts hown hx hb hml hr hlk; grind [gI_sI, gI_sJ, gI_sA, gI_sL, gJ_sI, gJ_sJ, gJ_sA, gJ_sL, gA_sI, gA_sJ, gA_sA, gA_sL, gL_sI, gL_sJ, gL_sA, gL_sL])) dX13_line_202 (fun S4 H locs eS4 V hS => ?_)
  have hG := gLt_e hG eS4
  refine lv_aload_n hx hb dX13_line_203 rfl (lv_at hl 1 rfl) ?_
  refine mG5 C V dX13_line_204 ?_
  refine lv_iload hx hb dX13_line_207 (lv_at hl 0 rfl) ?_
  refine lv_iconst (v := 3) hx hb dX13_line_209 (by decide) ?_
  refine lv_iadd hx hb dX13_line_210 ?_
  refine lv_iload hx hb dX13_line_211 (lv_at hl 6 rfl) ?_
  refine mSt5 C V hS (vin (N := 240) rfl (by clear hG V hS hl C hts hown hx hb hml hr hlk; grind [gI_sI, gI_sJ, gI_sA, gI_sL, gJ_sI, gJ_sJ, gJ_sA, gJ_sL, gA_sI, gA_sJ, gA_sA, gA_sL, gL_sI, gL_sJ, gL_sA, gL_sL]) (by clear hG V hS hl C hts hown hx hb hml hr hlk; grind [gI_sI, gI_sJ, gI_sA, gI_sL, gJ_sI, gJ_sJ, gJ_sA, gJ_sL, gA_sI, gA_sJ, gA_sA, gA_sL, gL_sI, gL_sJ, gL_sA, gL_sL])) dX13_line_213 (fun S5 H locs eS5 V hS => ?_)
  have hG := gLt_e hG eS5
  refine lv_aload_n hx hb dX13_line_214 rfl (lv_at hl 1 rfl) ?_
  refine lv_dup hx hb dX13_line_215 rfl ?_
  refine mG6 C V dX13_line_216 ?_
  refine lv_iconst (v := 1) hx hb dX13_line_219 (by decide) ?_
  refine lv_iadd hx hb dX13_line_220 ?_
  refine mP6 C V hS dX13_line_221 (fun S6 H locs eS6 V hS => ?_)
  have hG := gLt_e hG eS6
  exact mRetV C hr hlk V hS (⟨by clear hG V hS hl C hts hown hx hb hml hr hlk; have hpo := po_step (S := SJ166) (by grind) (by grind) ex1 eS2 eS3 eS4 eS5 eS6 (by grind); refine ⟨?_, ?_, ?_, ?_, ?_, ?_, ?_, ?_, ?_, hpo, ?_, ?_, ?_, ?_⟩ <;> (clear hpo h3; subst_vars; grind [gI_sI, gI_sJ, gI_sA, gI_sL, gJ_sI, gJ_sJ, gJ_sA, gJ_sL, gA_sI, gA_sJ, gA_sA, gA_sL, gL_sI, gL_sJ, gL_sA, gL_sL]), hG.symm⟩) dX13_line_224
set_option maxHeartbeats 400000 in
set_option maxRecDepth 100000 in
theorem j_line_158 {p : Program} {e : Env} {s : State} {m : MethodId} {below : List Frame} {meth : Method} {c : Code} (l : Launch) (D : va_G) (cs : ClassId × ClassId × ClassId) (o : Nat) (ad : Nat → Nat) (A : Nat → Prop) (S : mS)   (h1 : 0 ≤ gI S 8 ∧ gI S 8 ≤ gI S 9 ∧ gI S 9 ≤ gI S 7 ∧ gI S 7 ≤ 1600 ∧ (gI S 8 < gI S 7 → gI S 8 < gI S 9)) (h2 : 0 ≤ gI S 6 ∧ gI S 6 ≤ 60) (h3 : (∀ k, 0 ≤ k → k < gI S 6 → 2 ≤ gA S 5 (4 * k) → gA S 5 (4 * k) ≤ 4 → 0 ≤ gA S 5 (4 * k + 1))) (C : mC p s m ([.ref o] : List Value).toArray c cX13_line D cs) (hml : c.maxLocals = 7) (hr : meth.sig.returnType = none) (hlk : meth.locks = false) (j158_1 : Int32) (j158_2 : Int32) (j158_3 : Int32) (j158_4 : Int32) (j158_5 : Int32) (SJ158 : mS) (H : Heap) (locs : List Loc) (ls : Array Slot) (hj158 : 0 ≤ j158_1 ∧ j158_1 < 34 ∧ gI S 6 < 60 ∧ (2 ≤ j158_1 → j158_1 ≤ 4 → 0 ≤ j158_3) ∧ 0 ≤ gI SJ158 8 ∧ gI SJ158 8 ≤ gI SJ158 9 ∧ gI SJ158 9 ≤ gI SJ158 7 ∧ gI SJ158 7 ≤ 1600 ∧ (gI SJ158 8 < gI SJ158 7 → gI SJ158 8 < gI SJ158 9) ∧ gI S 8 ≤ gI SJ158 8 ∧ (∀ k, k ≠ 8 → k ≠ 9 → k ≠ 10 → gI SJ158 k = gI S k) ∧ (∀ k, gJ SJ158 k = gJ S k) ∧ (∀ k i, gA SJ158 k i = gA S k i) ∧ (∀ k i, gL SJ158 k i = gL S k i)) (hG : G_line S  = G_line_J158  j158_1 j158_2 j158_3 j158_4 j158_5 SJ158) (V : mV D cs o ad A SJ158 H) (hS : va_S A s.heap H locs) (hl : lv_has ls 7 [(0, .ref o), (1, .int j158_1), (2, .int j158_2), (3, .int j158_3), (4, .int j158_4), (5, .int j158_5)]) : W p l e ({ frames := 3, cells := 0, slots := 0, locals := 66 } : Room) s m ([.ref o] : List Value).toArray below meth c H locs 0 0 (MQ below (va_Qv (fun S9 => (0 ≤ gI S9 8 ∧ gI S9 8 ≤ gI S9 9 ∧ gI S9 9 ≤ gI S9 7 ∧ gI S9 7 ≤ 1600 ∧ (gI S9 8 < gI S9 7 → gI S9 8 < gI S9 9) ∧ gI S 8 ≤ gI S9 8 ∧ 0 ≤ gI S9 6 ∧ gI S9 6 ≤ 60 ∧ (gI S9 10 < 0 → 1 ≤ gI S9 6) ∧ (∀ k, 0 ≤ k → k < gI S9 6 → 2 ≤ gA S9 5 (4 * k) → gA S9 5 (4 * k) ≤ 4 → 0 ≤ gA S9 5 (4 * k + 1)) ∧ (∀ k, k ≠ 6 → k ≠ 8 → k ≠ 9 → k ≠ 10 → gI S9 k = gI S k) ∧ (∀ k, gJ S9 k = gJ S k) ∧ (∀ k i, k ≠ 5 → gA S9 k i = gA S k i) ∧ (∀ k i, gL S9 k i = gL S k i)) ∧ S9 = G_line S ) (mB D cs o ad A) A) ([.ref o] : List Value).toArray s 0 0 A) (F0 m 158 ls []) := by
  have hx := C.1
  have hb := C.2.1
  have hown := C.2.2.1
  have hts := C.2.2.2.1
  rw [G_line_J158] at hG
  refine lv_aload_n hx hb dX13_line_158 rfl (lv_at hl 0 rfl) ?_
  refine lv_iconst (v := 1) hx hb dX13_line_159 (by decide) ?_
  refine lv_iload_n hx hb dX13_line_160 rfl (lv_at hl 2 rfl) ?_
  refine mGoI (mRunV (As := [.int 1, .int j158_2]) (rest := []) C hml V (c_number l D cs o ad A SJ158 1 j158_2  (by clear hG V hS hl C hts hown hx hb hml hr hlk; grind [gI_sI, gI_sJ, gI_sA, gI_sL, gJ_sI, gJ_sJ, gJ_sA, gJ_sL, gA_sI, gA_sJ, gA_sA, gA_sL, gL_sI, gL_sJ, gL_sA, gL_sL])) gM_number okM_number ⟨rfl, rfl, Nat.le_of_ble_eq_true rfl, Nat.le_of_ble_eq_true rfl⟩ hl.1 rfl (Nat.le_of_ble_eq_true rfl) dX13_line_161 ⟨Nat.zero_le _, Nat.zero_le _⟩) hS (fun r8 S7 H locs hq9 V hS => ?_)
  obtain ⟨hq9, ghq9⟩ := hq9
  have hG := gC_e hG ghq9
  refine lv_istore (lv' := [(4, .int r8), (0, .ref o), (1, .int j158_1), (2, .int j158_2), (3, .int j158_3), (5, .int j158_5)]) hx hb dX13_line_164 hl (by decide) rfl (fun ls hl => ?_)
  exact j_line_166 l D cs o ad A S  h1 h2 h3 C hml hr hlk j158_1 j158_2 j158_3 r8 j158_5 S7 _ _ _ (by clear hG V hS hl C hts hown hx hb hml hr hlk; subst_vars; grind [gI_sI, gI_sJ, gI_sA, gI_sL, gJ_sI, gJ_sJ, gJ_sA, gJ_sL, gA_sI, gA_sJ, gA_sA, gA_sL, gL_sI, gL_sJ, gL_sA, gL_sL]) hG V hS (lv_sub hl [1, 2, 3, 4, 0, 5] rfl)
set_option maxHeartbeats 400000 in
set_option maxRecDepth 100000 in
theorem j_line_146 {p : Program} {e : Env} {s : State} {m : MethodId} {below : List Frame} {meth : Method} {c : Code} (l : Launch) (D : va_G) (cs : ClassId × ClassId × ClassId) (o : Nat) (ad : Nat → Nat) (A : Nat → Prop) (S : mS)   (h1 : 0 ≤ gI S 8 ∧ gI S 8 ≤ gI S 9 ∧ gI S 9 ≤ gI S 7 ∧ gI S 7 ≤ 1600 ∧ (gI S 8 < gI S 7 → gI S 8 < gI S 9)) (h2 : 0 ≤ gI S 6 ∧ gI S 6 ≤ 60) (h3 : (∀ k, 0 ≤ k → k < gI S 6 → 2 ≤ gA S 5 (4 * k) → gA S 5 (4 * k) ≤ 4 → 0 ≤ gA S 5 (4 * k + 1))) (C : mC p s m ([.ref o] : List Value).toArray c cX13_line D cs) (hml : c.maxLocals = 7) (hr : meth.sig.returnType = none) (hlk : meth.locks = false) (j146_1 : Int32) (j146_2 : Int32) (j146_3 : Int32) (j146_4 : Int32) (j146_5 : Int32) (SJ146 : mS) (H : Heap) (locs : List Loc) (ls : Array Slot) (hj146 : 0 ≤ j146_1 ∧ j146_1 < 34 ∧ gI S 6 < 60 ∧ (2 ≤ j146_1 → j146_1 ≤ 4 → 0 ≤ j146_3) ∧ 0 ≤ gI SJ146 8 ∧ gI SJ146 8 ≤ gI SJ146 9 ∧ gI SJ146 9 ≤ gI SJ146 7 ∧ gI SJ146 7 ≤ 1600 ∧ (gI SJ146 8 < gI SJ146 7 → gI SJ146 8 < gI SJ146 9) ∧ gI S 8 ≤ gI SJ146 8 ∧ (∀ k, k ≠ 8 → k ≠ 9 → k ≠ 10 → gI SJ146 k = gI S k) ∧ (∀ k, gJ SJ146 k = gJ S k) ∧ (∀ k i, gA SJ146 k i = gA S k i) ∧ (∀ k i, gL SJ146 k i = gL S k i)) (hG : G_line S  = G_line_J146  j146_1 j146_2 j146_3 j146_4 j146_5 SJ146) (V : mV D cs o ad A SJ146 H) (hS : va_S A s.heap H locs) (hl : lv_has ls 7 [(0, .ref o), (1, .int j146_1), (2, .int j146_2), (3, .int j146_3), (4, .int j146_4), (5, .int j146_5)]) : W p l e ({ frames := 3, cells := 0, slots := 0, locals := 66 } : Room) s m ([.ref o] : List Value).toArray below meth c H locs 0 0 (MQ below (va_Qv (fun S9 => (0 ≤ gI S9 8 ∧ gI S9 8 ≤ gI S9 9 ∧ gI S9 9 ≤ gI S9 7 ∧ gI S9 7 ≤ 1600 ∧ (gI S9 8 < gI S9 7 → gI S9 8 < gI S9 9) ∧ gI S 8 ≤ gI S9 8 ∧ 0 ≤ gI S9 6 ∧ gI S9 6 ≤ 60 ∧ (gI S9 10 < 0 → 1 ≤ gI S9 6) ∧ (∀ k, 0 ≤ k → k < gI S9 6 → 2 ≤ gA S9 5 (4 * k) → gA S9 5 (4 * k) ≤ 4 → 0 ≤ gA S9 5 (4 * k + 1)) ∧ (∀ k, k ≠ 6 → k ≠ 8 → k ≠ 9 → k ≠ 10 → gI S9 k = gI S k) ∧ (∀ k, gJ S9 k = gJ S k) ∧ (∀ k i, k ≠ 5 → gA S9 k i = gA S k i) ∧ (∀ k i, gL S9 k i = gL S k i)) ∧ S9 = G_line S ) (mB D cs o ad A) A) ([.ref o] : List Value).toArray s 0 0 A) (F0 m 146 ls []) := by
  have hx := C.1
  have hb := C.2.1
  have hown := C.2.2.1
  have hts := C.2.2.2.1
  rw [G_line_J146] at hG
  refine lv_iload_n hx hb dX13_line_146 rfl (lv_at hl 1 rfl) ?_
  refine lv_bipush (v := 17) hx hb dX13_line_147 (by decide) ?_
  refine lv_icmp_eq (tgt := 158) hx hb dX13_line_149 (by decide) (fun c10 => ?_) (fun c10 => ?_)
  · have hG := gIf_p hG c10
    exact j_line_158 l D cs o ad A S  h1 h2 h3 C hml hr hlk j146_1 j146_2 j146_3 j146_4 j146_5 SJ146 _ _ _ (by clear hG V hS hl C hts hown hx hb hml hr hlk; subst_vars; grind [gI_sI, gI_sJ, gI_sA, gI_sL, gJ_sI, gJ_sJ, gJ_sA, gJ_sL, gA_sI, gA_sJ, gA_sA, gA_sL, gL_sI, gL_sJ, gL_sA, gL_sL]) hG V hS (lv_sub hl [0, 1, 2, 3, 4, 5] rfl)
  · have hG := gIf_n hG c10
    refine lv_iload_n hx hb dX13_line_152 rfl (lv_at hl 1 rfl) ?_
    refine lv_bipush (v := 18) hx hb dX13_line_153 (by decide) ?_
    refine lv_icmp_ne (tgt := 166) hx hb dX13_line_155 (by decide) (fun c11 => ?_) (fun c11 => ?_)
    · have hG := gIf_n hG c11
      exact j_line_166 l D cs o ad A S  h1 h2 h3 C hml hr hlk j146_1 j146_2 j146_3 j146_4 j146_5 SJ146 _ _ _ (by clear hG V hS hl C hts hown hx hb hml hr hlk; subst_vars; grind [gI_sI, gI_sJ, gI_sA, gI_sL, gJ_sI, gJ_sJ, gJ_sA, gJ_sL, gA_sI, gA_sJ, gA_sA, gA_sL, gL_sI, gL_sJ, gL_sA, gL_sL]) hG V hS (lv_sub hl [0, 1, 2, 3, 4, 5] rfl)
    · have hG := gIf_p hG c11
      exact j_line_158 l D cs o ad A S  h1 h2 h3 C hml hr hlk j146_1 j146_2 j146_3 j146_4 j146_5 SJ146 _ _ _ (by clear hG V hS hl C hts hown hx hb hml hr hlk; subst_vars; grind [gI_sI, gI_sJ, gI_sA, gI_sL, gJ_sI, gJ_sJ, gJ_sA, gJ_sL, gA_sI, gA_sJ, gA_sA, gA_sL, gL_sI, gL_sJ, gL_sA, gL_sL]) hG V hS (lv_sub hl [0, 1, 2, 3, 4, 5] rfl)
set_option maxHeartbeats 400000 in
set_option maxRecDepth 100000 in
theorem j_line_131 {p : Program} {e : Env} {s : State} {m : MethodId} {below : List Frame} {meth : Method} {c : Code} (l : Launch) (D : va_G) (cs : ClassId × ClassId × ClassId) (o : Nat) (ad : Nat → Nat) (A : Nat → Prop) (S : mS)   (h1 : 0 ≤ gI S 8 ∧ gI S 8 ≤ gI S 9 ∧ gI S 9 ≤ gI S 7 ∧ gI S 7 ≤ 1600 ∧ (gI S 8 < gI S 7 → gI S 8 < gI S 9)) (h2 : 0 ≤ gI S 6 ∧ gI S 6 ≤ 60) (h3 : (∀ k, 0 ≤ k → k < gI S 6 → 2 ≤ gA S 5 (4 * k) → gA S 5 (4 * k) ≤ 4 → 0 ≤ gA S 5 (4 * k + 1))) (C : mC p s m ([.ref o] : List Value).toArray c cX13_line D cs) (hml : c.maxLocals = 7) (hr : meth.sig.returnType = none) (hlk : meth.locks = false) (j131_1 : Int32) (j131_2 : Int32) (j131_3 : Int32) (j131_4 : Int32) (j131_5 : Int32) (SJ131 : mS) (H : Heap) (locs : List Loc) (ls : Array Slot) (hj131 : 0 ≤ j131_1 ∧ j131_1 < 34 ∧ gI S 6 < 60 ∧ (2 ≤ j131_1 → j131_1 ≤ 4 → 0 ≤ j131_3) ∧ 0 ≤ gI SJ131 8 ∧ gI SJ131 8 ≤ gI SJ131 9 ∧ gI SJ131 9 ≤ gI SJ131 7 ∧ gI SJ131 7 ≤ 1600 ∧ (gI SJ131 8 < gI SJ131 7 → gI SJ131 8 < gI SJ131 9) ∧ gI S 8 ≤ gI SJ131 8 ∧ (∀ k, k ≠ 8 → k ≠ 9 → k ≠ 10 → gI SJ131 k = gI S k) ∧ (∀ k, gJ SJ131 k = gJ S k) ∧ (∀ k i, gA SJ131 k i = gA S k i) ∧ (∀ k i, gL SJ131 k i = gL S k i)) (hG : G_line S  = G_line_J131  j131_1 j131_2 j131_3 j131_4 j131_5 SJ131) (V : mV D cs o ad A SJ131 H) (hS : va_S A s.heap H locs) (hl : lv_has ls 7 [(0, .ref o), (1, .int j131_1), (2, .int j131_2), (3, .int j131_3), (4, .int j131_4), (5, .int j131_5)]) : W p l e ({ frames := 3, cells := 0, slots := 0, locals := 66 } : Room) s m ([.ref o] : List Value).toArray below meth c H locs 0 0 (MQ below (va_Qv (fun S9 => (0 ≤ gI S9 8 ∧ gI S9 8 ≤ gI S9 9 ∧ gI S9 9 ≤ gI S9 7 ∧ gI S9 7 ≤ 1600 ∧ (gI S9 8 < gI S9 7 → gI S9 8 < gI S9 9) ∧ gI S 8 ≤ gI S9 8 ∧ 0 ≤ gI S9 6 ∧ gI S9 6 ≤ 60 ∧ (gI S9 10 < 0 → 1 ≤ gI S9 6) ∧ (∀ k, 0 ≤ k → k < gI S9 6 → 2 ≤ gA S9 5 (4 * k) → gA S9 5 (4 * k) ≤ 4 → 0 ≤ gA S9 5 (4 * k + 1)) ∧ (∀ k, k ≠ 6 → k ≠ 8 → k ≠ 9 → k ≠ 10 → gI S9 k = gI S k) ∧ (∀ k, gJ S9 k = gJ S k) ∧ (∀ k i, k ≠ 5 → gA S9 k i = gA S k i) ∧ (∀ k i, gL S9 k i = gL S k i)) ∧ S9 = G_line S ) (mB D cs o ad A) A) ([.ref o] : List Value).toArray s 0 0 A) (F0 m 131 ls []) := by
  have hx := C.1
  have hb := C.2.1
  have hown := C.2.2.1
  have hts := C.2.2.2.1
  rw [G_line_J131] at hG
  refine lv_iload_n hx hb dX13_line_131 rfl (lv_at hl 1 rfl) ?_
  refine lv_bipush (v := 16) hx hb dX13_line_132 (by decide) ?_
  refine lv_icmp_ne (tgt := 146) hx hb dX13_line_134 (by decide) (fun c12 => ?_) (fun c12 => ?_)
  · have hG := gIf_n hG c12
    exact j_line_146 l D cs o ad A S  h1 h2 h3 C hml hr hlk j131_1 j131_2 j131_3 j131_4 j131_5 SJ131 _ _ _ (by clear hG V hS hl C hts hown hx hb hml hr hlk; subst_vars; grind [gI_sI, gI_sJ, gI_sA, gI_sL, gJ_sI, gJ_sJ, gJ_sA, gJ_sL, gA_sI, gA_sJ, gA_sA, gA_sL, gL_sI, gL_sJ, gL_sA, gL_sL]) hG V hS (lv_sub hl [0, 1, 2, 3, 4, 5] rfl)
  · have hG := gIf_p hG c12
    refine lv_aload_n hx hb dX13_line_137 rfl (lv_at hl 0 rfl) ?_
    refine lv_iload_n hx hb dX13_line_138 rfl (lv_at hl 2 rfl) ?_
    refine lv_ineg hx hb dX13_line_139 ?_
    refine lv_iload_n hx hb dX13_line_140 rfl (lv_at hl 2 rfl) ?_
    refine mGoI (mRunV (As := [.int (-j131_2), .int j131_2]) (rest := []) C hml V (c_number l D cs o ad A SJ131 (-j131_2) j131_2  (by clear hG V hS hl C hts hown hx hb hml hr hlk; grind [gI_sI, gI_sJ, gI_sA, gI_sL, gJ_sI, gJ_sJ, gJ_sA, gJ_sL, gA_sI, gA_sJ, gA_sA, gA_sL, gL_sI, gL_sJ, gL_sA, gL_sL])) gM_number okM_number ⟨rfl, rfl, Nat.le_of_ble_eq_true rfl, Nat.le_of_ble_eq_true rfl⟩ hl.1 rfl (Nat.le_of_ble_eq_true rfl) dX13_line_141 ⟨Nat.zero_le _, Nat.zero_le _⟩) hS (fun r14 S13 H locs hq15 V hS => ?_)
    obtain ⟨hq15, ghq15⟩ := hq15
    have hG := gC_e hG ghq15
    refine lv_istore (lv' := [(5, .int r14), (0, .ref o), (1, .int j131_1), (2, .int j131_2), (3, .int j131_3), (4, .int j131_4)]) hx hb dX13_line_144 hl (by decide) rfl (fun ls hl => ?_)
    exact j_line_146 l D cs o ad A S  h1 h2 h3 C hml hr hlk j131_1 j131_2 j131_3 j131_4 r14 S13 _ _ _ (by clear hG V hS hl C hts hown hx hb hml hr hlk; subst_vars; grind [gI_sI, gI_sJ, gI_sA, gI_sL, gJ_sI, gJ_sJ, gJ_sA, gJ_sL, gA_sI, gA_sJ, gA_sA, gA_sL, gL_sI, gL_sJ, gL_sA, gL_sL]) hG V hS (lv_sub hl [1, 2, 3, 4, 5, 0] rfl)
set_option maxHeartbeats 400000 in
set_option maxRecDepth 100000 in
theorem j_line_122 {p : Program} {e : Env} {s : State} {m : MethodId} {below : List Frame} {meth : Method} {c : Code} (l : Launch) (D : va_G) (cs : ClassId × ClassId × ClassId) (o : Nat) (ad : Nat → Nat) (A : Nat → Prop) (S : mS)   (h1 : 0 ≤ gI S 8 ∧ gI S 8 ≤ gI S 9 ∧ gI S 9 ≤ gI S 7 ∧ gI S 7 ≤ 1600 ∧ (gI S 8 < gI S 7 → gI S 8 < gI S 9)) (h2 : 0 ≤ gI S 6 ∧ gI S 6 ≤ 60) (h3 : (∀ k, 0 ≤ k → k < gI S 6 → 2 ≤ gA S 5 (4 * k) → gA S 5 (4 * k) ≤ 4 → 0 ≤ gA S 5 (4 * k + 1))) (C : mC p s m ([.ref o] : List Value).toArray c cX13_line D cs) (hml : c.maxLocals = 7) (hr : meth.sig.returnType = none) (hlk : meth.locks = false) (j122_1 : Int32) (j122_2 : Int32) (j122_3 : Int32) (j122_4 : Int32) (j122_5 : Int32) (SJ122 : mS) (H : Heap) (locs : List Loc) (ls : Array Slot) (hj122 : 0 ≤ j122_1 ∧ j122_1 < 34 ∧ gI S 6 < 60 ∧ (2 ≤ j122_1 → j122_1 ≤ 4 → 0 ≤ j122_3) ∧ 0 ≤ gI SJ122 8 ∧ gI SJ122 8 ≤ gI SJ122 9 ∧ gI SJ122 9 ≤ gI SJ122 7 ∧ gI SJ122 7 ≤ 1600 ∧ (gI SJ122 8 < gI SJ122 7 → gI SJ122 8 < gI SJ122 9) ∧ gI S 8 ≤ gI SJ122 8 ∧ (∀ k, k ≠ 8 → k ≠ 9 → k ≠ 10 → gI SJ122 k = gI S k) ∧ (∀ k, gJ SJ122 k = gJ S k) ∧ (∀ k i, gA SJ122 k i = gA S k i) ∧ (∀ k i, gL SJ122 k i = gL S k i)) (hG : G_line S  = G_line_J122  j122_1 j122_2 j122_3 j122_4 j122_5 SJ122) (V : mV D cs o ad A SJ122 H) (hS : va_S A s.heap H locs) (hl : lv_has ls 7 [(0, .ref o), (1, .int j122_1), (2, .int j122_2), (3, .int j122_3), (4, .int j122_4), (5, .int j122_5)]) : W p l e ({ frames := 3, cells := 0, slots := 0, locals := 66 } : Room) s m ([.ref o] : List Value).toArray below meth c H locs 0 0 (MQ below (va_Qv (fun S9 => (0 ≤ gI S9 8 ∧ gI S9 8 ≤ gI S9 9 ∧ gI S9 9 ≤ gI S9 7 ∧ gI S9 7 ≤ 1600 ∧ (gI S9 8 < gI S9 7 → gI S9 8 < gI S9 9) ∧ gI S 8 ≤ gI S9 8 ∧ 0 ≤ gI S9 6 ∧ gI S9 6 ≤ 60 ∧ (gI S9 10 < 0 → 1 ≤ gI S9 6) ∧ (∀ k, 0 ≤ k → k < gI S9 6 → 2 ≤ gA S9 5 (4 * k) → gA S9 5 (4 * k) ≤ 4 → 0 ≤ gA S9 5 (4 * k + 1)) ∧ (∀ k, k ≠ 6 → k ≠ 8 → k ≠ 9 → k ≠ 10 → gI S9 k = gI S k) ∧ (∀ k, gJ S9 k = gJ S k) ∧ (∀ k i, k ≠ 5 → gA S9 k i = gA S k i) ∧ (∀ k i, gL S9 k i = gL S k i)) ∧ S9 = G_line S ) (mB D cs o ad A) A) ([.ref o] : List Value).toArray s 0 0 A) (F0 m 122 ls []) := by
  have hx := C.1
  have hb := C.2.1
  have hown := C.2.2.1
  have hts := C.2.2.2.1
  rw [G_line_J122] at hG
  refine lv_aload_n hx hb dX13_line_122 rfl (lv_at hl 0 rfl) ?_
  refine lv_iload_n hx hb dX13_line_123 rfl (lv_at hl 2 rfl) ?_
  refine lv_ineg hx hb dX13_line_124 ?_
  refine lv_iload_n hx hb dX13_line_125 rfl (lv_at hl 2 rfl) ?_
  refine mGoI (mRunV (As := [.int (-j122_2), .int j122_2]) (rest := []) C hml V (c_number l D cs o ad A SJ122 (-j122_2) j122_2  (by clear hG V hS hl C hts hown hx hb hml hr hlk; grind [gI_sI, gI_sJ, gI_sA, gI_sL, gJ_sI, gJ_sJ, gJ_sA, gJ_sL, gA_sI, gA_sJ, gA_sA, gA_sL, gL_sI, gL_sJ, gL_sA, gL_sL])) gM_number okM_number ⟨rfl, rfl, Nat.le_of_ble_eq_true rfl, Nat.le_of_ble_eq_true rfl⟩ hl.1 rfl (Nat.le_of_ble_eq_true rfl) dX13_line_126 ⟨Nat.zero_le _, Nat.zero_le _⟩) hS (fun r17 S16 H locs hq18 V hS => ?_)
  obtain ⟨hq18, ghq18⟩ := hq18
  have hG := gC_e hG ghq18
  refine lv_istore (lv' := [(4, .int r17), (0, .ref o), (1, .int j122_1), (2, .int j122_2), (3, .int j122_3), (5, .int j122_5)]) hx hb dX13_line_129 hl (by decide) rfl (fun ls hl => ?_)
  exact j_line_131 l D cs o ad A S  h1 h2 h3 C hml hr hlk j122_1 j122_2 j122_3 r17 j122_5 S16 _ _ _ (by clear hG V hS hl C hts hown hx hb hml hr hlk; subst_vars; grind [gI_sI, gI_sJ, gI_sA, gI_sL, gJ_sI, gJ_sJ, gJ_sA, gJ_sL, gA_sI, gA_sJ, gA_sA, gA_sL, gL_sI, gL_sJ, gL_sA, gL_sL]) hG V hS (lv_sub hl [1, 2, 3, 4, 0, 5] rfl)
set_option maxHeartbeats 400000 in
set_option maxRecDepth 100000 in
theorem j_line_110 {p : Program} {e : Env} {s : State} {m : MethodId} {below : List Frame} {meth : Method} {c : Code} (l : Launch) (D : va_G) (cs : ClassId × ClassId × ClassId) (o : Nat) (ad : Nat → Nat) (A : Nat → Prop) (S : mS)   (h1 : 0 ≤ gI S 8 ∧ gI S 8 ≤ gI S 9 ∧ gI S 9 ≤ gI S 7 ∧ gI S 7 ≤ 1600 ∧ (gI S 8 < gI S 7 → gI S 8 < gI S 9)) (h2 : 0 ≤ gI S 6 ∧ gI S 6 ≤ 60) (h3 : (∀ k, 0 ≤ k → k < gI S 6 → 2 ≤ gA S 5 (4 * k) → gA S 5 (4 * k) ≤ 4 → 0 ≤ gA S 5 (4 * k + 1))) (C : mC p s m ([.ref o] : List Value).toArray c cX13_line D cs) (hml : c.maxLocals = 7) (hr : meth.sig.returnType = none) (hlk : meth.locks = false) (j110_1 : Int32) (j110_2 : Int32) (j110_3 : Int32) (j110_4 : Int32) (j110_5 : Int32) (SJ110 : mS) (H : Heap) (locs : List Loc) (ls : Array Slot) (hj110 : 0 ≤ j110_1 ∧ j110_1 < 34 ∧ gI S 6 < 60 ∧ (2 ≤ j110_1 → j110_1 ≤ 4 → 0 ≤ j110_3) ∧ 0 ≤ gI SJ110 8 ∧ gI SJ110 8 ≤ gI SJ110 9 ∧ gI SJ110 9 ≤ gI SJ110 7 ∧ gI SJ110 7 ≤ 1600 ∧ (gI SJ110 8 < gI SJ110 7 → gI SJ110 8 < gI SJ110 9) ∧ gI S 8 ≤ gI SJ110 8 ∧ (∀ k, k ≠ 8 → k ≠ 9 → k ≠ 10 → gI SJ110 k = gI S k) ∧ (∀ k, gJ SJ110 k = gJ S k) ∧ (∀ k i, gA SJ110 k i = gA S k i) ∧ (∀ k i, gL SJ110 k i = gL S k i)) (hG : G_line S  = G_line_J110  j110_1 j110_2 j110_3 j110_4 j110_5 SJ110) (V : mV D cs o ad A SJ110 H) (hS : va_S A s.heap H locs) (hl : lv_has ls 7 [(0, .ref o), (1, .int j110_1), (2, .int j110_2), (3, .int j110_3), (4, .int j110_4), (5, .int j110_5)]) : W p l e ({ frames := 3, cells := 0, slots := 0, locals := 66 } : Room) s m ([.ref o] : List Value).toArray below meth c H locs 0 0 (MQ below (va_Qv (fun S9 => (0 ≤ gI S9 8 ∧ gI S9 8 ≤ gI S9 9 ∧ gI S9 9 ≤ gI S9 7 ∧ gI S9 7 ≤ 1600 ∧ (gI S9 8 < gI S9 7 → gI S9 8 < gI S9 9) ∧ gI S 8 ≤ gI S9 8 ∧ 0 ≤ gI S9 6 ∧ gI S9 6 ≤ 60 ∧ (gI S9 10 < 0 → 1 ≤ gI S9 6) ∧ (∀ k, 0 ≤ k → k < gI S9 6 → 2 ≤ gA S9 5 (4 * k) → gA S9 5 (4 * k) ≤ 4 → 0 ≤ gA S9 5 (4 * k + 1)) ∧ (∀ k, k ≠ 6 → k ≠ 8 → k ≠ 9 → k ≠ 10 → gI S9 k = gI S k) ∧ (∀ k, gJ S9 k = gJ S k) ∧ (∀ k i, k ≠ 5 → gA S9 k i = gA S k i) ∧ (∀ k i, gL S9 k i = gL S k i)) ∧ S9 = G_line S ) (mB D cs o ad A) A) ([.ref o] : List Value).toArray s 0 0 A) (F0 m 110 ls []) := by
  have hx := C.1
  have hb := C.2.1
  have hown := C.2.2.1
  have hts := C.2.2.2.1
  rw [G_line_J110] at hG
  refine lv_iload_n hx hb dX13_line_110 rfl (lv_at hl 1 rfl) ?_
  refine lv_bipush (v := 15) hx hb dX13_line_111 (by decide) ?_
  refine lv_icmp_eq (tgt := 122) hx hb dX13_line_113 (by decide) (fun c19 => ?_) (fun c19 => ?_)
  · have hG := gIf_p hG c19
    exact j_line_122 l D cs o ad A S  h1 h2 h3 C hml hr hlk j110_1 j110_2 j110_3 j110_4 j110_5 SJ110 _ _ _ (by clear hG V hS hl C hts hown hx hb hml hr hlk; subst_vars; grind [gI_sI, gI_sJ, gI_sA, gI_sL, gJ_sI, gJ_sJ, gJ_sA, gJ_sL, gA_sI, gA_sJ, gA_sA, gA_sL, gL_sI, gL_sJ, gL_sA, gL_sL]) hG V hS (lv_sub hl [0, 1, 2, 3, 4, 5] rfl)
  · have hG := gIf_n hG c19
    refine lv_iload_n hx hb dX13_line_116 rfl (lv_at hl 1 rfl) ?_
    refine lv_bipush (v := 16) hx hb dX13_line_117 (by decide) ?_
    refine lv_icmp_ne (tgt := 131) hx hb dX13_line_119 (by decide) (fun c20 => ?_) (fun c20 => ?_)
    · have hG := gIf_n hG c20
      exact j_line_131 l D cs o ad A S  h1 h2 h3 C hml hr hlk j110_1 j110_2 j110_3 j110_4 j110_5 SJ110 _ _ _ (by clear hG V hS hl C hts hown hx hb hml hr hlk; subst_vars; grind [gI_sI, gI_sJ, gI_sA, gI_sL, gJ_sI, gJ_sJ, gJ_sA, gJ_sL, gA_sI, gA_sJ, gA_sA, gA_sL, gL_sI, gL_sJ, gL_sA, gL_sL]) hG V hS (lv_sub hl [0, 1, 2, 3, 4, 5] rfl)
    · have hG := gIf_p hG c20
      exact j_line_122 l D cs o ad A S  h1 h2 h3 C hml hr hlk j110_1 j110_2 j110_3 j110_4 j110_5 SJ110 _ _ _ (by clear hG V hS hl C hts hown hx hb hml hr hlk; subst_vars; grind [gI_sI, gI_sJ, gI_sA, gI_sL, gJ_sI, gJ_sJ, gJ_sA, gJ_sL, gA_sI, gA_sJ, gA_sA, gA_sL, gL_sI, gL_sJ, gL_sA, gL_sL]) hG V hS (lv_sub hl [0, 1, 2, 3, 4, 5] rfl)
set_option maxHeartbeats 400000 in
set_option maxRecDepth 100000 in
theorem j_line_79 {p : Program} {e : Env} {s : State} {m : MethodId} {below : List Frame} {meth : Method} {c : Code} (l : Launch) (D : va_G) (cs : ClassId × ClassId × ClassId) (o : Nat) (ad : Nat → Nat) (A : Nat → Prop) (S : mS)   (h1 : 0 ≤ gI S 8 ∧ gI S 8 ≤ gI S 9 ∧ gI S 9 ≤ gI S 7 ∧ gI S 7 ≤ 1600 ∧ (gI S 8 < gI S 7 → gI S 8 < gI S 9)) (h2 : 0 ≤ gI S 6 ∧ gI S 6 ≤ 60) (h3 : (∀ k, 0 ≤ k → k < gI S 6 → 2 ≤ gA S 5 (4 * k) → gA S 5 (4 * k) ≤ 4 → 0 ≤ gA S 5 (4 * k + 1))) (C : mC p s m ([.ref o] : List Value).toArray c cX13_line D cs) (hml : c.maxLocals = 7) (hr : meth.sig.returnType = none) (hlk : meth.locks = false) (j79_1 : Int32) (j79_2 : Int32) (j79_3 : Int32) (j79_4 : Int32) (j79_5 : Int32) (SJ79 : mS) (H : Heap) (locs : List Loc) (ls : Array Slot) (hj79 : 0 ≤ j79_1 ∧ j79_1 < 34 ∧ gI S 6 < 60 ∧ 0 ≤ gI SJ79 8 ∧ gI SJ79 8 ≤ gI SJ79 9 ∧ gI SJ79 9 ≤ gI SJ79 7 ∧ gI SJ79 7 ≤ 1600 ∧ (gI SJ79 8 < gI SJ79 7 → gI SJ79 8 < gI SJ79 9) ∧ gI S 8 ≤ gI SJ79 8 ∧ (∀ k, k ≠ 8 → k ≠ 9 → k ≠ 10 → gI SJ79 k = gI S k) ∧ (∀ k, gJ SJ79 k = gJ S k) ∧ (∀ k i, gA SJ79 k i = gA S k i) ∧ (∀ k i, gL SJ79 k i = gL S k i)) (hG : G_line S  = G_line_J79  j79_1 j79_2 j79_3 j79_4 j79_5 SJ79) (V : mV D cs o ad A SJ79 H) (hS : va_S A s.heap H locs) (hl : lv_has ls 7 [(0, .ref o), (1, .int j79_1), (2, .int j79_2), (3, .int j79_3), (4, .int j79_4), (5, .int j79_5)]) : W p l e ({ frames := 3, cells := 0, slots := 0, locals := 66 } : Room) s m ([.ref o] : List Value).toArray below meth c H locs 0 0 (MQ below (va_Qv (fun S9 => (0 ≤ gI S9 8 ∧ gI S9 8 ≤ gI S9 9 ∧ gI S9 9 ≤ gI S9 7 ∧ gI S9 7 ≤ 1600 ∧ (gI S9 8 < gI S9 7 → gI S9 8 < gI S9 9) ∧ gI S 8 ≤ gI S9 8 ∧ 0 ≤ gI S9 6 ∧ gI S9 6 ≤ 60 ∧ (gI S9 10 < 0 → 1 ≤ gI S9 6) ∧ (∀ k, 0 ≤ k → k < gI S9 6 → 2 ≤ gA S9 5 (4 * k) → gA S9 5 (4 * k) ≤ 4 → 0 ≤ gA S9 5 (4 * k + 1)) ∧ (∀ k, k ≠ 6 → k ≠ 8 → k ≠ 9 → k ≠ 10 → gI S9 k = gI S k) ∧ (∀ k, gJ S9 k = gJ S k) ∧ (∀ k i, k ≠ 5 → gA S9 k i = gA S k i) ∧ (∀ k i, gL S9 k i = gL S k i)) ∧ S9 = G_line S ) (mB D cs o ad A) A) ([.ref o] : List Value).toArray s 0 0 A) (F0 m 79 ls []) := by
  have hx := C.1
  have hb := C.2.1
  have hown := C.2.2.1
  have hts := C.2.2.2.1
  rw [G_line_J79] at hG
  refine lv_aload_n hx hb dX13_line_79 rfl (lv_at hl 0 rfl) ?_
  refine lv_iconst (v := 0) hx hb dX13_line_80 (by decide) ?_
  refine lv_bipush (v := 59) hx hb dX13_line_81 (by decide) ?_
  refine mGoI (mRunV (As := [.int 0, .int 59]) (rest := []) C hml V (c_number l D cs o ad A SJ79 0 59  (by clear hG V hS hl C hts hown hx hb hml hr hlk; grind [gI_sI, gI_sJ, gI_sA, gI_sL, gJ_sI, gJ_sJ, gJ_sA, gJ_sL, gA_sI, gA_sJ, gA_sA, gA_sL, gL_sI, gL_sJ, gL_sA, gL_sL])) gM_number okM_number ⟨rfl, rfl, Nat.le_of_ble_eq_true rfl, Nat.le_of_ble_eq_true rfl⟩ hl.1 rfl (Nat.le_of_ble_eq_true rfl) dX13_line_83 ⟨Nat.zero_le _, Nat.zero_le _⟩) hS (fun r22 S21 H locs hq23 V hS => ?_)
  obtain ⟨hq23, ghq23⟩ := hq23
  have hG := gC_e hG ghq23
  refine lv_istore_n (lv' := [(3, .int r22), (0, .ref o), (1, .int j79_1), (2, .int j79_2), (4, .int j79_4), (5, .int j79_5)]) hx hb dX13_line_86 rfl hl (by decide) rfl (fun ls hl => ?_)
  refine lv_goto (tgt := 110) hx hb dX13_line_87 (by decide) ?_
  exact j_line_110 l D cs o ad A S  h1 h2 h3 C hml hr hlk j79_1 j79_2 r22 j79_4 j79_5 S21 _ _ _ (by clear hG V hS hl C hts hown hx hb hml hr hlk; subst_vars; grind [gI_sI, gI_sJ, gI_sA, gI_sL, gJ_sI, gJ_sJ, gJ_sA, gJ_sL, gA_sI, gA_sJ, gA_sA, gA_sL, gL_sI, gL_sJ, gL_sA, gL_sL]) hG V hS (lv_sub hl [1, 2, 3, 0, 4, 5] rfl)
set_option maxHeartbeats 400000 in
set_option maxRecDepth 100000 in
theorem j_line_53 {p : Program} {e : Env} {s : State} {m : MethodId} {below : List Frame} {meth : Method} {c : Code} (l : Launch) (D : va_G) (cs : ClassId × ClassId × ClassId) (o : Nat) (ad : Nat → Nat) (A : Nat → Prop) (S : mS)   (h1 : 0 ≤ gI S 8 ∧ gI S 8 ≤ gI S 9 ∧ gI S 9 ≤ gI S 7 ∧ gI S 7 ≤ 1600 ∧ (gI S 8 < gI S 7 → gI S 8 < gI S 9)) (h2 : 0 ≤ gI S 6 ∧ gI S 6 ≤ 60) (h3 : (∀ k, 0 ≤ k → k < gI S 6 → 2 ≤ gA S 5 (4 * k) → gA S 5 (4 * k) ≤ 4 → 0 ≤ gA S 5 (4 * k + 1))) (C : mC p s m ([.ref o] : List Value).toArray c cX13_line D cs) (hml : c.maxLocals = 7) (hr : meth.sig.returnType = none) (hlk : meth.locks = false) (j53_1 : Int32) (j53_2 : Int32) (j53_3 : Int32) (j53_4 : Int32) (j53_5 : Int32) (SJ53 : mS) (H : Heap) (locs : List Loc) (ls : Array Slot) (hj53 : 0 ≤ j53_1 ∧ j53_1 < 34 ∧ gI S 6 < 60 ∧ ¬ (2 ≤ j53_1 ∧ j53_1 ≤ 4) ∧ 0 ≤ gI SJ53 8 ∧ gI SJ53 8 ≤ gI SJ53 9 ∧ gI SJ53 9 ≤ gI SJ53 7 ∧ gI SJ53 7 ≤ 1600 ∧ (gI SJ53 8 < gI SJ53 7 → gI SJ53 8 < gI SJ53 9) ∧ gI S 8 ≤ gI SJ53 8 ∧ (∀ k, k ≠ 8 → k ≠ 9 → k ≠ 10 → gI SJ53 k = gI S k) ∧ (∀ k, gJ SJ53 k = gJ S k) ∧ (∀ k i, gA SJ53 k i = gA S k i) ∧ (∀ k i, gL SJ53 k i = gL S k i)) (hG : G_line S  = G_line_J53  j53_1 j53_2 j53_3 j53_4 j53_5 SJ53) (V : mV D cs o ad A SJ53 H) (hS : va_S A s.heap H locs) (hl : lv_has ls 7 [(0, .ref o), (1, .int j53_1), (2, .int j53_2), (3, .int j53_3), (4, .int j53_4), (5, .int j53_5)]) : W p l e ({ frames := 3, cells := 0, slots := 0, locals := 66 } : Room) s m ([.ref o] : List Value).toArray below meth c H locs 0 0 (MQ below (va_Qv (fun S9 => (0 ≤ gI S9 8 ∧ gI S9 8 ≤ gI S9 9 ∧ gI S9 9 ≤ gI S9 7 ∧ gI S9 7 ≤ 1600 ∧ (gI S9 8 < gI S9 7 → gI S9 8 < gI S9 9) ∧ gI S 8 ≤ gI S9 8 ∧ 0 ≤ gI S9 6 ∧ gI S9 6 ≤ 60 ∧ (gI S9 10 < 0 → 1 ≤ gI S9 6) ∧ (∀ k, 0 ≤ k → k < gI S9 6 → 2 ≤ gA S9 5 (4 * k) → gA S9 5 (4 * k) ≤ 4 → 0 ≤ gA S9 5 (4 * k + 1)) ∧ (∀ k, k ≠ 6 → k ≠ 8 → k ≠ 9 → k ≠ 10 → gI S9 k = gI S k) ∧ (∀ k, gJ S9 k = gJ S k) ∧ (∀ k i, k ≠ 5 → gA S9 k i = gA S k i) ∧ (∀ k i, gL S9 k i = gL S k i)) ∧ S9 = G_line S ) (mB D cs o ad A) A) ([.ref o] : List Value).toArray s 0 0 A) (F0 m 53 ls []) := by
  have hx := C.1
  have hb := C.2.1
  have hown := C.2.2.1
  have hts := C.2.2.2.1
  rw [G_line_J53] at hG
  refine lv_aload_n hx hb dX13_line_53 rfl (lv_at hl 0 rfl) ?_
  refine lv_iload_n hx hb dX13_line_54 rfl (lv_at hl 2 rfl) ?_
  refine lv_ineg hx hb dX13_line_55 ?_
  refine lv_iload_n hx hb dX13_line_56 rfl (lv_at hl 2 rfl) ?_
  refine mGoI (mRunV (As := [.int (-j53_2), .int j53_2]) (rest := []) C hml V (c_number l D cs o ad A SJ53 (-j53_2) j53_2  (by clear hG V hS hl C hts hown hx hb hml hr hlk; grind [gI_sI, gI_sJ, gI_sA, gI_sL, gJ_sI, gJ_sJ, gJ_sA, gJ_sL, gA_sI, gA_sJ, gA_sA, gA_sL, gL_sI, gL_sJ, gL_sA, gL_sL])) gM_number okM_number ⟨rfl, rfl, Nat.le_of_ble_eq_true rfl, Nat.le_of_ble_eq_true rfl⟩ hl.1 rfl (Nat.le_of_ble_eq_true rfl) dX13_line_57 ⟨Nat.zero_le _, Nat.zero_le _⟩) hS (fun r25 S24 H locs hq26 V hS => ?_)
  obtain ⟨hq26, ghq26⟩ := hq26
  have hG := gC_e hG ghq26
  refine lv_istore_n (lv' := [(3, .int r25), (0, .ref o), (1, .int j53_1), (2, .int j53_2), (4, .int j53_4), (5, .int j53_5)]) hx hb dX13_line_60 rfl hl (by decide) rfl (fun ls hl => ?_)
  refine lv_goto (tgt := 110) hx hb dX13_line_61 (by decide) ?_
  exact j_line_110 l D cs o ad A S  h1 h2 h3 C hml hr hlk j53_1 j53_2 r25 j53_4 j53_5 S24 _ _ _ (by clear hG V hS hl C hts hown hx hb hml hr hlk; subst_vars; grind [gI_sI, gI_sJ, gI_sA, gI_sL, gJ_sI, gJ_sJ, gJ_sA, gJ_sL, gA_sI, gA_sJ, gA_sA, gA_sL, gL_sI, gL_sJ, gL_sA, gL_sL]) hG V hS (lv_sub hl [1, 2, 3, 0, 4, 5] rfl)
set_option maxHeartbeats 400000 in
set_option maxRecDepth 100000 in
theorem j_line_18 {p : Program} {e : Env} {s : State} {m : MethodId} {below : List Frame} {meth : Method} {c : Code} (l : Launch) (D : va_G) (cs : ClassId × ClassId × ClassId) (o : Nat) (ad : Nat → Nat) (A : Nat → Prop) (S : mS)   (h1 : 0 ≤ gI S 8 ∧ gI S 8 ≤ gI S 9 ∧ gI S 9 ≤ gI S 7 ∧ gI S 7 ≤ 1600 ∧ (gI S 8 < gI S 7 → gI S 8 < gI S 9)) (h2 : 0 ≤ gI S 6 ∧ gI S 6 ≤ 60) (h3 : (∀ k, 0 ≤ k → k < gI S 6 → 2 ≤ gA S 5 (4 * k) → gA S 5 (4 * k) ≤ 4 → 0 ≤ gA S 5 (4 * k + 1))) (C : mC p s m ([.ref o] : List Value).toArray c cX13_line D cs) (hml : c.maxLocals = 7) (hr : meth.sig.returnType = none) (hlk : meth.locks = false)   (H : Heap) (locs : List Loc) (ls : Array Slot) (hj18 : True) (hG : G_line S  = G_line_J18 S ) (V : mV D cs o ad A S H) (hS : va_S A s.heap H locs) (hl : lv_has ls 7 [(0, .ref o)]) : W p l e ({ frames := 3, cells := 0, slots := 0, locals := 66 } : Room) s m ([.ref o] : List Value).toArray below meth c H locs 0 0 (MQ below (va_Qv (fun S9 => (0 ≤ gI S9 8 ∧ gI S9 8 ≤ gI S9 9 ∧ gI S9 9 ≤ gI S9 7 ∧ gI S9 7 ≤ 1600 ∧ (gI S9 8 < gI S9 7 → gI S9 8 < gI S9 9) ∧ gI S 8 ≤ gI S9 8 ∧ 0 ≤ gI S9 6 ∧ gI S9 6 ≤ 60 ∧ (gI S9 10 < 0 → 1 ≤ gI S9 6) ∧ (∀ k, 0 ≤ k → k < gI S9 6 → 2 ≤ gA S9 5 (4 * k) → gA S9 5 (4 * k) ≤ 4 → 0 ≤ gA S9 5 (4 * k + 1)) ∧ (∀ k, k ≠ 6 → k ≠ 8 → k ≠ 9 → k ≠ 10 → gI S9 k = gI S k) ∧ (∀ k, gJ S9 k = gJ S k) ∧ (∀ k i, k ≠ 5 → gA S9 k i = gA S k i) ∧ (∀ k i, gL S9 k i = gL S k i)) ∧ S9 = G_line S ) (mB D cs o ad A) A) ([.ref o] : List Value).toArray s 0 0 A) (F0 m 18 ls []) := by
  have hx := C.1
  have hb := C.2.1
  have hown := C.2.2.1
  have hts := C.2.2.2.1
  rw [G_line_J18] at hG
  refine lv_aload_n hx hb dX13_line_18 rfl (lv_at hl 0 rfl) ?_
  refine mGoI (mRunV (As := []) (rest := []) C hml V (c_wrong l D cs o ad A S   ) gM_wrong okM_wrong ⟨rfl, rfl, Nat.le_of_ble_eq_true rfl, Nat.le_of_ble_eq_true rfl⟩ hl.1 rfl (Nat.le_of_ble_eq_true rfl) dX13_line_19 ⟨Nat.zero_le _, Nat.zero_le _⟩) hS (fun r28 S27 H locs hq29 V hS => ?_)
  obtain ⟨hq29, ghq29⟩ := hq29
  have hG := gC_e hG ghq29
  refine lv_pop hx hb dX13_line_22 rfl ?_
  exact mRetV C hr hlk V hS (⟨by clear hG V hS hl C hts hown hx hb hml hr hlk; obtain ⟨-, h9⟩ := hq29; rcases h9 with ⟨a9, rfl⟩ | ⟨a9, rfl⟩ <;> grind [gI_sI, gI_sJ, gI_sA, gI_sL, gJ_sI, gJ_sJ, gJ_sA, gJ_sL, gA_sI, gA_sJ, gA_sA, gA_sL, gL_sI, gL_sJ, gL_sA, gL_sL], hG.symm⟩) dX13_line_23
set_option maxHeartbeats 400000 in
set_option maxRecDepth 100000 in
theorem c_line (l : Launch) (D : va_G) (cs : ClassId × ClassId × ClassId) (o : Nat) (ad : Nat → Nat) (A : Nat → Prop) (S : mS)   (h1 : 0 ≤ gI S 8 ∧ gI S 8 ≤ gI S 9 ∧ gI S 9 ≤ gI S 7 ∧ gI S 7 ≤ 1600 ∧ (gI S 8 < gI S 7 → gI S 8 < gI S 9)) (h2 : 0 ≤ gI S 6 ∧ gI S 6 ≤ 60) (h3 : (∀ k, 0 ≤ k → k < gI S 6 → 2 ≤ gA S 5 (4 * k) → gA S 5 (4 * k) ≤ 4 → 0 ≤ gA S 5 (4 * k + 1))) : Met l yX13_line (Cond.code yX13_line cX13_line 7 none :: tM) ({ frames := 3, cells := 0, slots := 0, locals := 66 }) (va_Pc [.ref o] (mB D cs o ad A S)) (va_Qv (fun S9 => (0 ≤ gI S9 8 ∧ gI S9 8 ≤ gI S9 9 ∧ gI S9 9 ≤ gI S9 7 ∧ gI S9 7 ≤ 1600 ∧ (gI S9 8 < gI S9 7 → gI S9 8 < gI S9 9) ∧ gI S 8 ≤ gI S9 8 ∧ 0 ≤ gI S9 6 ∧ gI S9 6 ≤ 60 ∧ (gI S9 10 < 0 → 1 ≤ gI S9 6) ∧ (∀ k, 0 ≤ k → k < gI S9 6 → 2 ≤ gA S9 5 (4 * k) → gA S9 5 (4 * k) ≤ 4 → 0 ≤ gA S9 5 (4 * k + 1)) ∧ (∀ k, k ≠ 6 → k ≠ 8 → k ≠ 9 → k ≠ 10 → gI S9 k = gI S k) ∧ (∀ k, gJ S9 k = gJ S k) ∧ (∀ k i, k ≠ 5 → gA S9 k i = gA S k i) ∧ (∀ k i, gL S9 k i = gL S k i)) ∧ S9 = G_line S ) (mB D cs o ad A) A) 0 0 A := by
  refine mMet (by decide) rfl (Nat.le_of_ble_eq_true rfl) ?_
  intro p e s m below meth c ls C hml hr hlk V hl
  have hx := C.1
  have hb := C.2.1
  have hown := C.2.2.1
  have hts := C.2.2.2.1
  have hS : va_S A s.heap s.heap [] := va_S.rf
  have hl : lv_has ls 7 [(0, .ref o)] := hl
  have hG := G_line.eq_1 S 
  refine lv_aload_n hx hb dX13_line_0 rfl (lv_at hl 0 rfl) ?_
  refine mGoQ (mRunV (As := []) (rest := []) C hml V (c_word l D cs o ad A S   (by clear hG V hS hl C hts hown hx hb hml hr hlk; grind [gI_sI, gI_sJ, gI_sA, gI_sL, gJ_sI, gJ_sJ, gJ_sA, gJ_sL, gA_sI, gA_sJ, gA_sA, gA_sL, gL_sI, gL_sJ, gL_sA, gL_sL])) gM_word okM_word ⟨rfl, rfl, Nat.le_of_ble_eq_true rfl, Nat.le_of_ble_eq_true rfl⟩ hl.1 rfl (Nat.le_of_ble_eq_true rfl) dX13_line_1 ⟨Nat.zero_le _, Nat.zero_le _⟩) hS (fun r31 H locs hq32 V hS => ?_)
  obtain ⟨hq32, ghq32⟩ := hq32
  have hG := gLt_e hG ghq32
  refine lv_istore_n (lv' := [(1, .int r31), (0, .ref o)]) hx hb dX13_line_4 rfl hl (by decide) rfl (fun ls hl => ?_)
  refine lv_aload_n hx hb dX13_line_5 rfl (lv_at hl 1 rfl) ?_
  refine mG6 C V dX13_line_6 ?_
  refine lv_bipush (v := 60) hx hb dX13_line_9 (by decide) ?_
  refine lv_icmp_eq (tgt := 18) hx hb dX13_line_11 (by decide) (fun c33 => ?_) (fun c33 => ?_)
  · have hG := gIf_p hG c33
    exact j_line_18 l D cs o ad A S  h1 h2 h3 C hml hr hlk   _ _ _ (trivial) hG V hS (lv_sub hl [1] rfl)
  · have hG := gIf_n hG c33
    refine lv_iload_n hx hb dX13_line_14 rfl (lv_at hl 0 rfl) ?_
    refine lv_if_ge (tgt := 24) hx hb dX13_line_15 (by decide) (fun c34 => ?_) (fun c34 => ?_)
    · have hG := gIf_p hG c34
      refine lv_aload_n hx hb dX13_line_24 rfl (lv_at hl 1 rfl) ?_
      refine mGoV (mRunV (As := []) (rest := []) C hml V (c_next l D cs o ad A S   (by clear hG V hS hl C hts hown hx hb hml hr hlk; grind [gI_sI, gI_sJ, gI_sA, gI_sL, gJ_sI, gJ_sJ, gJ_sA, gJ_sL, gA_sI, gA_sJ, gA_sA, gA_sL, gL_sI, gL_sJ, gL_sA, gL_sL])) gM_next okM_next ⟨rfl, rfl, Nat.le_of_ble_eq_true rfl, Nat.le_of_ble_eq_true rfl⟩ hl.1 rfl (Nat.le_of_ble_eq_true rfl) dX13_line_25 ⟨Nat.zero_le _, Nat.zero_le _⟩) hS (fun S35 H locs hq37 V hS => ?_)
      obtain ⟨hq37, ghq37⟩ := hq37
      have hG := gLt_e hG ghq37
      refine lv_ldc hx hb hown (hts _ tMc211) dX13_line_28 ?_
      refine lv_topi (fun x38 ex38 => ?_)
      have hG := gLt_e hG ex38
      refine lv_istore_n (lv' := [(2, .int x38), (1, .int r31), (0, .ref o)]) hx hb dX13_line_30 rfl hl (by decide) rfl (fun ls hl => ?_)
      refine lv_iconst (v := 0) hx hb dX13_line_31 (by decide) ?_
      refine lv_topi (fun x39 ex39 => ?_)
      have hG := gLt_e hG ex39
      refine lv_istore_n (lv' := [(3, .int x39), (2, .int x38), (1, .int r31), (0, .ref o)]) hx hb dX13_line_32 rfl hl (by decide) rfl (fun ls hl => ?_)
      refine lv_iconst (v := 0) hx hb dX13_line_33 (by decide) ?_
      refine lv_topi (fun x40 ex40 => ?_)
      have hG := gLt_e hG ex40
      refine lv_istore (lv' := [(4, .int x40), (3, .int x39), (2, .int x38), (1, .int r31), (0, .ref o)]) hx hb dX13_line_34 hl (by decide) rfl (fun ls hl => ?_)
      refine lv_iconst (v := 0) hx hb dX13_line_36 (by decide) ?_
      refine lv_topi (fun x41 ex41 => ?_)
      have hG := gLt_e hG ex41
      refine lv_istore (lv' := [(5, .int x41), (4, .int x40), (3, .int x39), (2, .int x38), (1, .int r31), (0, .ref o)]) hx hb dX13_line_37 hl (by decide) rfl (fun ls hl => ?_)
      refine lv_iload_n hx hb dX13_line_39 rfl (lv_at hl 4 rfl) ?_
      refine lv_if_eq (tgt := 53) hx hb dX13_line_40 (by decide) (fun c42 => ?_) (fun c42 => ?_)
      · have hG := gIf_p hG c42
        exact j_line_53 l D cs o ad A S  h1 h2 h3 C hml hr hlk r31 x38 x39 x40 x41 S35 _ _ _ (by clear hG V hS hl C hts hown hx hb hml hr hlk; subst_vars; grind [gI_sI, gI_sJ, gI_sA, gI_sL, gJ_sI, gJ_sJ, gJ_sA, gJ_sL, gA_sI, gA_sJ, gA_sA, gA_sL, gL_sI, gL_sJ, gL_sA, gL_sL]) hG V hS (lv_sub hl [5, 4, 3, 2, 1, 0] rfl)
      · have hG := gIf_n hG c42
        refine lv_iload_n hx hb dX13_line_43 rfl (lv_at hl 4 rfl) ?_
        refine lv_iconst (v := 1) hx hb dX13_line_44 (by decide) ?_
        refine lv_icmp_eq (tgt := 53) hx hb dX13_line_45 (by decide) (fun c43 => ?_) (fun c43 => ?_)
        · have hG := gIf_p hG c43
          exact j_line_53 l D cs o ad A S  h1 h2 h3 C hml hr hlk r31 x38 x39 x40 x41 S35 _ _ _ (by clear hG V hS hl C hts hown hx hb hml hr hlk; subst_vars; grind [gI_sI, gI_sJ, gI_sA, gI_sL, gJ_sI, gJ_sJ, gJ_sA, gJ_sL, gA_sI, gA_sJ, gA_sA, gA_sL, gL_sI, gL_sJ, gL_sA, gL_sL]) hG V hS (lv_sub hl [5, 4, 3, 2, 1, 0] rfl)
        · have hG := gIf_n hG c43
          refine lv_iload_n hx hb dX13_line_48 rfl (lv_at hl 4 rfl) ?_
          refine lv_iconst (v := 5) hx hb dX13_line_49 (by decide) ?_
          refine lv_icmp_ne (tgt := 64) hx hb dX13_line_50 (by decide) (fun c44 => ?_) (fun c44 => ?_)
          · have hG := gIf_n hG c44
            refine lv_iload_n hx hb dX13_line_64 rfl (lv_at hl 4 rfl) ?_
            refine lv_iconst (v := 2) hx hb dX13_line_65 (by decide) ?_
            refine lv_icmp_eq (tgt := 79) hx hb dX13_line_66 (by decide) (fun c45 => ?_) (fun c45 => ?_)
            · have hG := gIf_p hG c45
              exact j_line_79 l D cs o ad A S  h1 h2 h3 C hml hr hlk r31 x38 x39 x40 x41 S35 _ _ _ (by clear hG V hS hl C hts hown hx hb hml hr hlk; subst_vars; grind [gI_sI, gI_sJ, gI_sA, gI_sL, gJ_sI, gJ_sJ, gJ_sA, gJ_sL, gA_sI, gA_sJ, gA_sA, gA_sL, gL_sI, gL_sJ, gL_sA, gL_sL]) hG V hS (lv_sub hl [5, 4, 3, 2, 1, 0] rfl)
            · have hG := gIf_n hG c45
              refine lv_iload_n hx hb dX13_line_69 rfl (lv_at hl 4 rfl) ?_
              refine lv_iconst (v := 3) hx hb dX13_line_70 (by decide) ?_
              refine lv_icmp_eq (tgt := 79) hx hb dX13_line_71 (by decide) (fun c46 => ?_) (fun c46 => ?_)
              · have hG := gIf_p hG c46
                exact j_line_79 l D cs o ad A S  h1 h2 h3 C hml hr hlk r31 x38 x39 x40 x41 S35 _ _ _ (by clear hG V hS hl C hts hown hx hb hml hr hlk; subst_vars; grind [gI_sI, gI_sJ, gI_sA, gI_sL, gJ_sI, gJ_sJ, gJ_sA, gJ_sL, gA_sI, gA_sJ, gA_sA, gA_sL, gL_sI, gL_sJ, gL_sA, gL_sL]) hG V hS (lv_sub hl [5, 4, 3, 2, 1, 0] rfl)
              · have hG := gIf_n hG c46
                refine lv_iload_n hx hb dX13_line_74 rfl (lv_at hl 4 rfl) ?_
                refine lv_iconst (v := 4) hx hb dX13_line_75 (by decide) ?_
                refine lv_icmp_ne (tgt := 90) hx hb dX13_line_76 (by decide) (fun c47 => ?_) (fun c47 => ?_)
                · have hG := gIf_n hG c47
                  refine lv_iload_n hx hb dX13_line_90 rfl (lv_at hl 4 rfl) ?_
                  refine lv_bipush (v := 6) hx hb dX13_line_91 (by decide) ?_
                  refine lv_icmp_eq (tgt := 110) hx hb dX13_line_93 (by decide) (fun c48 => ?_) (fun c48 => ?_)
                  · have hG := gIf_p hG c48
                    exact j_line_110 l D cs o ad A S  h1 h2 h3 C hml hr hlk r31 x38 x39 x40 x41 S35 _ _ _ (by clear hG V hS hl C hts hown hx hb hml hr hlk; subst_vars; grind [gI_sI, gI_sJ, gI_sA, gI_sL, gJ_sI, gJ_sJ, gJ_sA, gJ_sL, gA_sI, gA_sJ, gA_sA, gA_sL, gL_sI, gL_sJ, gL_sA, gL_sL]) hG V hS (lv_sub hl [5, 4, 3, 2, 1, 0] rfl)
                  · have hG := gIf_n hG c48
                    refine lv_iload_n hx hb dX13_line_96 rfl (lv_at hl 4 rfl) ?_
                    refine lv_bipush (v := 33) hx hb dX13_line_97 (by decide) ?_
                    refine lv_icmp_eq (tgt := 110) hx hb dX13_line_99 (by decide) (fun c49 => ?_) (fun c49 => ?_)
                    · have hG := gIf_p hG c49
                      exact j_line_110 l D cs o ad A S  h1 h2 h3 C hml hr hlk r31 x38 x39 x40 x41 S35 _ _ _ (by clear hG V hS hl C hts hown hx hb hml hr hlk; subst_vars; grind [gI_sI, gI_sJ, gI_sA, gI_sL, gJ_sI, gJ_sJ, gJ_sA, gJ_sL, gA_sI, gA_sJ, gA_sA, gA_sL, gL_sI, gL_sJ, gL_sA, gL_sL]) hG V hS (lv_sub hl [5, 4, 3, 2, 1, 0] rfl)
                    · have hG := gIf_n hG c49
                      refine lv_aload_n hx hb dX13_line_102 rfl (lv_at hl 5 rfl) ?_
                      refine lv_iconst (v := 0) hx hb dX13_line_103 (by decide) ?_
                      refine lv_bipush (v := 23) hx hb dX13_line_104 (by decide) ?_
                      refine mGoI (mRunV (As := [.int 0, .int 23]) (rest := []) C hml V (c_number l D cs o ad A S35 0 23  (by clear hG V hS hl C hts hown hx hb hml hr hlk; grind [gI_sI, gI_sJ, gI_sA, gI_sL, gJ_sI, gJ_sJ, gJ_sA, gJ_sL, gA_sI, gA_sJ, gA_sA, gA_sL, gL_sI, gL_sJ, gL_sA, gL_sL])) gM_number okM_number ⟨rfl, rfl, Nat.le_of_ble_eq_true rfl, Nat.le_of_ble_eq_true rfl⟩ hl.1 rfl (Nat.le_of_ble_eq_true rfl) dX13_line_106 ⟨Nat.zero_le _, Nat.zero_le _⟩) hS (fun r51 S50 H locs hq52 V hS => ?_)
                      obtain ⟨hq52, ghq52⟩ := hq52
                      have hG := gC_e hG ghq52
                      refine lv_istore_n (lv' := [(3, .int r51), (5, .int x41), (4, .int x40), (2, .int x38), (1, .int r31), (0, .ref o)]) hx hb dX13_line_109 rfl hl (by decide) rfl (fun ls hl => ?_)
                      exact j_line_110 l D cs o ad A S  h1 h2 h3 C hml hr hlk r31 x38 r51 x40 x41 S50 _ _ _ (by clear hG V hS hl C hts hown hx hb hml hr hlk; subst_vars; grind [gI_sI, gI_sJ, gI_sA, gI_sL, gJ_sI, gJ_sJ, gJ_sA, gJ_sL, gA_sI, gA_sJ, gA_sA, gA_sL, gL_sI, gL_sJ, gL_sA, gL_sL]) hG V hS (lv_sub hl [5, 4, 3, 0, 2, 1] rfl)
                · have hG := gIf_p hG c47
                  exact j_line_79 l D cs o ad A S  h1 h2 h3 C hml hr hlk r31 x38 x39 x40 x41 S35 _ _ _ (by clear hG V hS hl C hts hown hx hb hml hr hlk; subst_vars; grind [gI_sI, gI_sJ, gI_sA, gI_sL, gJ_sI, gJ_sJ, gJ_sA, gJ_sL, gA_sI, gA_sJ, gA_sA, gA_sL, gL_sI, gL_sJ, gL_sA, gL_sL]) hG V hS (lv_sub hl [5, 4, 3, 2, 1, 0] rfl)
          · have hG := gIf_p hG c44
            exact j_line_53 l D cs o ad A S  h1 h2 h3 C hml hr hlk r31 x38 x39 x40 x41 S35 _ _ _ (by clear hG V hS hl C hts hown hx hb hml hr hlk; subst_vars; grind [gI_sI, gI_sJ, gI_sA, gI_sL, gJ_sI, gJ_sJ, gJ_sA, gJ_sL, gA_sI, gA_sJ, gA_sA, gA_sL, gL_sI, gL_sJ, gL_sA, gL_sL]) hG V hS (lv_sub hl [5, 4, 3, 2, 1, 0] rfl)
    · have hG := gIf_n hG c34
      exact j_line_18 l D cs o ad A S  h1 h2 h3 C hml hr hlk   _ _ _ (trivial) hG V hS (lv_sub hl [1] rfl)

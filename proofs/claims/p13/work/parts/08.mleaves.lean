/-- rows: what stands in a row of the reference (kr its places, kl its lengths) is apart -/
def rdis (S : mS) (kr kl : Nat) (b : Int32) : Prop := ∀ i j, 0 ≤ i → i < j → j < gA S kl b → gA S kr (8 * b + i) ≠ gA S kr (8 * b + j)
theorem a_out {b n j : Int32} (hb : 0 ≤ b ∧ b < 24) (h0 : 0 ≤ n) (h8 : n < 8) (h : j < 8 * b ∨ 8 * b + (n + 1) ≤ j) : j ≠ 8 * b + n ∧ (j < 8 * b ∨ 8 * b + n ≤ j) := by
  rcases h with h | h
  · exact ⟨by grind, Or.inl h⟩
  · exact ⟨by grind, Or.inr (by grind)⟩
/-- while t is taken out of the row of b: n are kept of the first i -/
def lvI (S0 SL : mS) (kr kl : Nat) (b t n i : Int32) : Prop :=
  (0 ≤ n ∧ n ≤ i ∧ i ≤ gA S0 kl b) ∧ (∀ k j, k ≠ kr → gA SL k j = gA S0 k j) ∧ (∀ k, gI SL k = gI S0 k) ∧ (∀ k, gJ SL k = gJ S0 k) ∧ (∀ k j, gL SL k j = gL S0 k j) ∧
  (∀ j, (j < 8 * b ∨ 8 * b + n ≤ j) → gA SL kr j = gA S0 kr j) ∧
  (∀ q, 0 ≤ q → q < n → gA SL kr (8 * b + q) ≠ t ∧ ∃ j, 0 ≤ j ∧ j < i ∧ gA SL kr (8 * b + q) = gA S0 kr (8 * b + j)) ∧
  (∀ q r, 0 ≤ q → q < r → r < n → gA SL kr (8 * b + q) ≠ gA SL kr (8 * b + r)) ∧
  (∀ j, 0 ≤ j → j < i → gA S0 kr (8 * b + j) ≠ t → ∃ q, 0 ≤ q ∧ q < n ∧ gA SL kr (8 * b + q) = gA S0 kr (8 * b + j)) ∧
  (∀ j, 0 ≤ j → j < i → gA S0 kr (8 * b + j) = t → n + 1 = i) ∧ ((∀ j, 0 ≤ j → j < i → gA S0 kr (8 * b + j) ≠ t) → n = i)
theorem lvI_0 {S0 : mS} {kr kl : Nat} {b t : Int32} (h : 0 ≤ gA S0 kl b) : lvI S0 S0 kr kl b t 0 0 := by
  refine ⟨⟨by grind, by grind, h⟩, fun _ _ _ => rfl, fun _ => rfl, fun _ => rfl, fun _ _ => rfl, fun _ _ => rfl, ?_, ?_, ?_, ?_, ?_⟩ <;> intros <;> grind
theorem lvI_skip {S0 SL : mS} {kr kl : Nat} {b t n i : Int32} (hb : 0 ≤ b ∧ b < 24) (hl : gA S0 kl b ≤ 8) (hd : rdis S0 kr kl b) (h : lvI S0 SL kr kl b t n i) (hi : i < gA S0 kl b) (he : gA SL kr (8 * b + i) = t) : lvI S0 SL kr kl b t n (i + 1) := by
  obtain ⟨h1, h2, h3, h4, h5, h6, h7, h8, h9, h10, h11⟩ := h
  have e0 : gA S0 kr (8 * b + i) = t := by rw [← h6 (8 * b + i) (by grind)]; exact he
  refine ⟨by clear h2 h3 h4 h5 h6 h7 h8 h9 h10 h11; grind, h2, h3, h4, h5, h6, ?_, h8, ?_, ?_, ?_⟩
  · intro q q1 q2
    obtain ⟨g1, j, g2, g3, g4⟩ := h7 q q1 q2
    exact ⟨g1, j, g2, by grind, g4⟩
  · intro j j1 j2 j3
    exact h9 j j1 (by rcases (show j < i ∨ j = i by grind) with g | g; exact g; subst g; exact absurd e0 j3) j3
  · intro j j1 j2 j3
    rcases (show j < i ∨ j = i by clear h2 h3 h4 h5 h6 h7 h8 h9 h10 h11; grind) with g | g
    · exact absurd (j3.trans e0.symm) (hd j i j1 g hi)
    · have hq : n = i := h11 fun q q1 q2 q3 => hd q i q1 q2 hi (q3.trans e0.symm)
      rw [hq]
  · intro hno
    exact absurd e0 (hno i (by clear h2 h3 h4 h5 h6 h7 h8 h9 h10 h11 hno; grind) (by clear h2 h3 h4 h5 h6 h7 h8 h9 h10 h11 hno; grind))
theorem lvI_keep {S0 SL S1 : mS} {kr kl : Nat} {b t n i : Int32} (hb : 0 ≤ b ∧ b < 24) (hl : gA S0 kl b ≤ 8) (hk : kl ≠ kr) (hd : rdis S0 kr kl b) (h : lvI S0 SL kr kl b t n i) (hi : i < gA S0 kl b) (he : gA SL kr (8 * b + i) ≠ t) (e : S1 = sA SL kr (8 * b + n) (gA SL kr (8 * b + i))) : lvI S0 S1 kr kl b t (n + 1) (i + 1) := by
  obtain ⟨h1, h2, h3, h4, h5, h6, h7, h8, h9, h10, h11⟩ := h
  have e0 : gA S0 kr (8 * b + i) = gA SL kr (8 * b + i) := (h6 (8 * b + i) (by grind)).symm
  have hn : ∀ q, q ≠ 8 * b + n → gA S1 kr q = gA SL kr q := fun q hq => by subst e; rw [gA_sA, if_pos rfl, if_neg hq]
  have hn0 : gA S1 kr (8 * b + n) = gA S0 kr (8 * b + i) := by subst e; rw [gA_sA, if_pos rfl, if_pos rfl, e0]
  refine ⟨by clear h2 h3 h4 h5 h6 h7 h8 h9 h10 h11 hn; grind, ?_, ?_, ?_, ?_, ?_, ?_, ?_, ?_, ?_, ?_⟩
  · intro k j hkk; rw [← h2 k j hkk]; subst e; rw [gA_sA, if_neg hkk]
  · intro k; rw [← h3 k]; subst e; rfl
  · intro k; rw [← h4 k]; subst e; rfl
  · intro k j; rw [← h5 k j]; subst e; rfl
  · intro j hj
    have hq : j ≠ 8 * b + n ∧ (j < 8 * b ∨ 8 * b + n ≤ j) := a_out hb h1.1 (by clear h2 h3 h4 h5 h6 h7 h8 h9 h10 h11 hn hn0 e0 he e hd; grind) hj
    rw [hn j hq.1]; exact h6 j hq.2
  · intro q q1 q2
    rcases (show q < n ∨ q = n by grind) with g | g
    · obtain ⟨g1, j, g2, g3, g4⟩ := h7 q q1 g
      rw [hn (8 * b + q) (by grind)]
      exact ⟨g1, j, g2, by grind, g4⟩
    · subst g
      rw [hn0]
      exact ⟨by rw [e0]; exact he, i, by grind, by grind, rfl⟩
  · intro q r q1 q2 q3
    rcases (show r < n ∨ r = n by grind) with g | g
    · rw [hn (8 * b + q) (by grind), hn (8 * b + r) (by grind)]
      exact h8 q r q1 q2 g
    · subst g
      rw [hn (8 * b + q) (by grind), hn0]
      obtain ⟨g1, j, g2, g3, g4⟩ := h7 q q1 q2
      rw [g4]
      exact hd j i g2 g3 hi
  · intro j j1 j2 j3
    rcases (show j < i ∨ j = i by grind) with g | g
    · obtain ⟨q, g1, g2, g3⟩ := h9 j j1 g j3
      exact ⟨q, g1, by grind, by rw [hn (8 * b + q) (by grind)]; exact g3⟩
    · subst g
      exact ⟨n, by grind, by grind, hn0⟩
  · intro j j1 j2 j3
    rcases (show j < i ∨ j = i by grind) with g | g
    · have := h10 j j1 g j3; clear h2 h3 h4 h5 h6 h7 h8 h9 h10 h11 hn; grind
    · subst g; exact absurd (e0.symm.trans j3) he
  · intro hno
    have := h11 fun j j1 j2 => hno j j1 (by clear h2 h3 h4 h5 h6 h7 h8 h9 h10 h11 hno hn; grind)
    rw [this]
/-- t was taken out of the row of b -/
def lvP (S S9 : mS) (kr kl : Nat) (b t : Int32) : Prop := ∃ SL, lvI S SL kr kl b t (gA S9 kl b) (gA S kl b) ∧ S9 = sA SL kl b (gA S9 kl b)

def G_leaves_L5 (b : Int32) (t : Int32) : Nat → Int32 → Int32 → mS → mS
  | 0, v5_3, v5_4, SL5 => SL5
  | N5 + 1, v5_3, v5_4, SL5 => if (gA SL5 33 b) ≤ (v5_4 : Int32) then (gLt (sA SL5 33 b (v5_3) : mS) (fun S4 => S4)) else (if ((gA SL5 32 ((8 * b) + v5_4)) : Int32) = t then (gLt (v5_4 + (1) : Int32) (fun x9 => G_leaves_L5 b t N5 v5_3 x9 SL5)) else (gLt (sA SL5 32 ((8 * b) + v5_3) ((gA SL5 32 ((8 * b) + v5_4))) : mS) (fun S6 => gLt (v5_3 + (1) : Int32) (fun x7 => gLt (v5_4 + (1) : Int32) (fun x8 => G_leaves_L5 b t N5 x7 x8 S6)))))
def G_leaves (S : mS) (b : Int32) (t : Int32) : mS := gLt (0 : Int32) (fun x1 => gLt (0 : Int32) (fun x2 => G_leaves_L5 b t ((gA S 33 b - x2).toInt.toNat + 1) x1 x2 S))
set_option maxHeartbeats 400000 in
set_option maxRecDepth 100000 in
theorem c_leaves (l : Launch) (D : va_G) (cs : ClassId × ClassId × ClassId) (o : Nat) (ad : Nat → Nat) (A : Nat → Prop) (S : mS) (b : Int32) (t : Int32)  (h1 : 0 ≤ b ∧ b < 24) (h2 : 0 ≤ gA S 33 b ∧ gA S 33 b ≤ 8) (h3 : rdis S 32 33 b) : Met l yX13_leaves (Cond.code yX13_leaves cX13_leaves 5 none :: tM) ({ frames := 0, cells := 0, slots := 0, locals := 0 }) (va_Pc [.ref o, .int b, .int t] (mB D cs o ad A S)) (va_Qv (fun S9 => (lvP S S9 32 33 b t) ∧ S9 = G_leaves S b t) (mB D cs o ad A) A) 0 0 A := by
  refine mMet (by decide) rfl (Nat.le_of_ble_eq_true rfl) ?_
  intro p e s m below meth c ls C hml hr hlk V hl
  have hx := C.1
  have hb := C.2.1
  have hown := C.2.2.1
  have hts := C.2.2.2.1
  have hS : va_S A s.heap s.heap [] := va_S.rf
  have hl : lv_has ls 5 [(0, .ref o), (1, .int b), (2, .int t)] := hl
  have hG := G_leaves.eq_1 S b t
  refine lv_iconst (v := 0) hx hb dX13_leaves_0 (by decide) ?_
  refine lv_topi (fun x1 ex1 => ?_)
  have hG := gLt_e hG ex1
  refine lv_istore_n (lv' := [(3, .int x1), (0, .ref o), (1, .int b), (2, .int t)]) hx hb dX13_leaves_1 rfl hl (by decide) rfl (fun ls hl => ?_)
  refine lv_iconst (v := 0) hx hb dX13_leaves_2 (by decide) ?_
  refine lv_topi (fun x2 ex2 => ?_)
  have hG := gLt_e hG ex2
  refine lv_istore (lv' := [(4, .int x2), (3, .int x1), (0, .ref o), (1, .int b), (2, .int t)]) hx hb dX13_leaves_3 hl (by decide) rfl (fun ls hl => ?_)
  have loop5 : ∀ (N5 : Nat) (v5_3 : Int32) (v5_4 : Int32) (SL5 : mS) (H : Heap) (locs : List Loc) (ls : Array Slot), (lvI S SL5 32 33 b t v5_3 v5_4) → ((gA S 33 b - v5_4).toInt.toNat) < N5 → (G_leaves S b t = G_leaves_L5 b t N5 v5_3 v5_4 SL5) → mV D cs o ad A SL5 H → va_S A s.heap H locs → lv_has ls 5 [(0, .ref o), (1, .int b), (2, .int t), (3, .int v5_3), (4, .int v5_4)] → W p l e ({ frames := 0, cells := 0, slots := 0, locals := 0 } : Room) s m ([.ref o, .int b, .int t] : List Value).toArray below meth c H locs 0 0 (MQ below (va_Qv (fun S9 => (lvP S S9 32 33 b t) ∧ S9 = G_leaves S b t) (mB D cs o ad A) A) ([.ref o, .int b, .int t] : List Value).toArray s 0 0 A) (F0 m 5 ls []) := by
    intro N5
    induction N5 with
    | zero => intro v5_3 v5_4 SL5 H locs ls hi5 hm5; exact absurd hm5 (Nat.not_lt_zero _)
    | succ N5 ih5 =>
      intro v5_3 v5_4 SL5 H locs ls hi5 hm5 hG V hS hl
      rw [G_leaves_L5] at hG
      have hj := id hi5
      obtain ⟨⟨hj1, hj2, hj3⟩, hj4, -⟩ := hj
      have hj5 : gA SL5 33 b = gA S 33 b := hj4 33 b (by decide)
      clear hj4
      refine lv_iload hx hb dX13_leaves_5 (lv_at hl 4 rfl) ?_
      refine lv_aload_n hx hb dX13_leaves_7 rfl (lv_at hl 0 rfl) ?_
      refine mG33 C V dX13_leaves_8 ?_
      refine lv_iload_n hx hb dX13_leaves_11 rfl (lv_at hl 1 rfl) ?_
      refine mLd33 C V (vin (N := 24) rfl (by clear hG V hS hl C hts hown hx hb hml hr hlk ih5 hm5; grind) (by clear hG V hS hl C hts hown hx hb hml hr hlk ih5 hm5; grind)) dX13_leaves_12 ?_
      refine lv_icmp_ge (tgt := 67) hx hb dX13_leaves_13 (by decide) (fun c3 => ?_) (fun c3 => ?_)
      · have hG := gIf_p hG c3
        refine lv_aload_n hx hb dX13_leaves_67 rfl (lv_at hl 0 rfl) ?_
        refine mG33 C V dX13_leaves_68 ?_
        refine lv_iload_n hx hb dX13_leaves_71 rfl (lv_at hl 1 rfl) ?_
        refine lv_iload_n hx hb dX13_leaves_72 rfl (lv_at hl 3 rfl) ?_
        refine mSt33 C V hS (vin (N := 24) rfl (by clear hG V hS hl C hts hown hx hb hml hr hlk ih5 hm5; grind) (by clear hG V hS hl C hts hown hx hb hml hr hlk ih5 hm5; grind)) dX13_leaves_73 (fun S4 H locs eS4 V hS => ?_)
        have hG := gLt_e hG eS4
        exact mRetV C hr hlk V hS (⟨by clear hG V hS hl C hts hown hx hb hml hr hlk ih5 hm5; subst_vars; exact ⟨SL5, by rw [gA_sA, if_pos rfl, if_pos rfl]; rw [show v5_4 = gA S 33 b by grind] at hi5; exact hi5, by rw [gA_sA, if_pos rfl, if_pos rfl]⟩, hG.symm⟩) dX13_leaves_74
      · have hG := gIf_n hG c3
        refine lv_aload_n hx hb dX13_leaves_16 rfl (lv_at hl 0 rfl) ?_
        refine mG32 C V dX13_leaves_17 ?_
        refine lv_bipush (v := 8) hx hb dX13_leaves_20 (by decide) ?_
        refine lv_iload_n hx hb dX13_leaves_22 rfl (lv_at hl 1 rfl) ?_
        refine lv_imul hx hb dX13_leaves_23 ?_
        refine lv_iload hx hb dX13_leaves_24 (lv_at hl 4 rfl) ?_
        refine lv_iadd hx hb dX13_leaves_26 ?_
        refine mLd32 C V (vin (N := 192) rfl (by clear hG V hS hl C hts hown hx hb hml hr hlk ih5 hm5; grind) (by clear hG V hS hl C hts hown hx hb hml hr hlk ih5 hm5; grind)) dX13_leaves_27 ?_
        refine lv_iload_n hx hb dX13_leaves_28 rfl (lv_at hl 2 rfl) ?_
        refine lv_icmp_ne (tgt := 35) hx hb dX13_leaves_29 (by decide) (fun c5 => ?_) (fun c5 => ?_)
        · have hG := gIf_n hG c5
          refine lv_aload_n hx hb dX13_leaves_35 rfl (lv_at hl 0 rfl) ?_
          refine mG32 C V dX13_leaves_36 ?_
          refine lv_bipush (v := 8) hx hb dX13_leaves_39 (by decide) ?_
          refine lv_iload_n hx hb dX13_leaves_41 rfl (lv_at hl 1 rfl) ?_
          refine lv_imul hx hb dX13_leaves_42 ?_
          refine lv_iload_n hx hb dX13_leaves_43 rfl (lv_at hl 3 rfl) ?_
          refine lv_iadd hx hb dX13_leaves_44 ?_
          refine lv_aload_n hx hb dX13_leaves_45 rfl (lv_at hl 0 rfl) ?_
          refine mG32 C V dX13_leaves_46 ?_
          refine lv_bipush (v := 8) hx hb dX13_leaves_49 (by decide) ?_
          refine lv_iload_n hx hb dX13_leaves_51 rfl (lv_at hl 1 rfl) ?_
          refine lv_imul hx hb dX13_leaves_52 ?_
          refine lv_iload hx hb dX13_leaves_53 (lv_at hl 4 rfl) ?_
          refine lv_iadd hx hb dX13_leaves_55 ?_
          refine mLd32 C V (vin (N := 192) rfl (by clear hG V hS hl C hts hown hx hb hml hr hlk ih5 hm5; grind) (by clear hG V hS hl C hts hown hx hb hml hr hlk ih5 hm5; grind)) dX13_leaves_56 ?_
          refine mSt32 C V hS (vin (N := 192) rfl (by clear hG V hS hl C hts hown hx hb hml hr hlk ih5 hm5; grind) (by clear hG V hS hl C hts hown hx hb hml hr hlk ih5 hm5; grind)) dX13_leaves_57 (fun S6 H locs eS6 V hS => ?_)
          have hG := gLt_e hG eS6
          obtain ⟨x7, ex7⟩ : ∃ y : Int32, y = v5_3 + (1) := ⟨_, rfl⟩
          have hG := gLt_e hG ex7
          refine lv_iinc (v := x7) (lv' := [(3, .int x7), (0, .ref o), (1, .int b), (2, .int t), (4, .int v5_4)]) hx hb dX13_leaves_58 hl (k := 3) rfl (by rw [ex7]; rfl) (by decide) rfl (fun ls hl => ?_)
          obtain ⟨x8, ex8⟩ : ∃ y : Int32, y = v5_4 + (1) := ⟨_, rfl⟩
          have hG := gLt_e hG ex8
          refine lv_iinc (v := x8) (lv' := [(4, .int x8), (3, .int x7), (0, .ref o), (1, .int b), (2, .int t)]) hx hb dX13_leaves_61 hl (k := 4) rfl (by rw [ex8]; rfl) (by decide) rfl (fun ls hl => ?_)
          refine lv_goto (tgt := 5) hx hb dX13_leaves_64 (by decide) ?_
          exact ih5 x7 x8 S6 _ _ _ (by clear hG V hS hl C hts hown hx hb hml hr hlk ih5 hm5; subst_vars; first | exact lvI_skip h1 h2.2 h3 hi5 (by grind) (by grind) | exact lvI_keep h1 h2.2 (by decide) h3 hi5 (by grind) (by grind) rfl) (msd hm5 (by clear hG V hS hl C hts hown hx hb hml hr hlk ih5 hm5; subst_vars; grind) (by clear hG V hS hl C hts hown hx hb hml hr hlk ih5 hm5; subst_vars; grind)) hG V hS (lv_sub hl [2, 3, 4, 1, 0] rfl)
        · have hG := gIf_p hG c5
          refine lv_goto (tgt := 61) hx hb dX13_leaves_32 (by decide) ?_
          obtain ⟨x9, ex9⟩ : ∃ y : Int32, y = v5_4 + (1) := ⟨_, rfl⟩
          have hG := gLt_e hG ex9
          refine lv_iinc (v := x9) (lv' := [(4, .int x9), (0, .ref o), (1, .int b), (2, .int t), (3, .int v5_3)]) hx hb dX13_leaves_61 hl (k := 4) rfl (by rw [ex9]; rfl) (by decide) rfl (fun ls hl => ?_)
          refine lv_goto (tgt := 5) hx hb dX13_leaves_64 (by decide) ?_
          exact ih5 v5_3 x9 SL5 _ _ _ (by clear hG V hS hl C hts hown hx hb hml hr hlk ih5 hm5; subst_vars; first | exact lvI_skip h1 h2.2 h3 hi5 (by grind) (by grind) | exact lvI_keep h1 h2.2 (by decide) h3 hi5 (by grind) (by grind) rfl) (msd hm5 (by clear hG V hS hl C hts hown hx hb hml hr hlk ih5 hm5; subst_vars; grind) (by clear hG V hS hl C hts hown hx hb hml hr hlk ih5 hm5; subst_vars; grind)) hG V hS (lv_sub hl [1, 2, 3, 4, 0] rfl)
  exact loop5 ((gA S 33 b - x2).toInt.toNat + 1) x1 x2 S _ _ _ (by clear hG V hS hl C hts hown hx hb hml hr hlk; subst_vars; exact lvI_0 h2.1) (Nat.lt_succ_self _) hG V hS (lv_sub hl [2, 3, 4, 1, 0] rfl)

def G_thrown (S : mS)  : Int32 := ((gI S 0) : Int32)
set_option maxHeartbeats 400000 in
set_option maxRecDepth 100000 in
theorem c_thrown (l : Launch) (D : va_G) (cs : ClassId × ClassId × ClassId) (o : Nat) (ad : Nat → Nat) (A : Nat → Prop) (S : mS)    : Met l yX13_thrown (Cond.code yX13_thrown cX13_thrown 1 (some .int) :: tM) ({ frames := 0, cells := 0, slots := 0, locals := 0 }) (va_Pc [.ref o] (mB D cs o ad A S)) (va_Qi (fun r9 S9 => (S9 = S ∧ r9 = gI S 0) ∧ r9 = G_thrown S ) (mB D cs o ad A) A) 0 0 A := by
  refine mMet (by decide) rfl (Nat.le_of_ble_eq_true rfl) ?_
  intro p e s m below meth c ls C hml hr hlk V hl
  have hx := C.1
  have hb := C.2.1
  have hown := C.2.2.1
  have hts := C.2.2.2.1
  have hS : va_S A s.heap s.heap [] := va_S.rf
  have hl : lv_has ls 1 [(0, .ref o)] := hl
  have hG := G_thrown.eq_1 S 
  refine lv_aload_n hx hb dX13_thrown_0 rfl (lv_at hl 0 rfl) ?_
  refine mG0 C V dX13_thrown_1 ?_
  exact mRetI C hr hlk V hS (⟨⟨rfl, rfl⟩, hG.symm⟩) dX13_thrown_4
def G_refuse (S : mS) (w : Int32) : Int32 × mS := gLt (sI S 0 w : mS) (fun S1 => ((0 : Int32), S1))
set_option maxHeartbeats 400000 in
set_option maxRecDepth 100000 in
theorem c_refuse (l : Launch) (D : va_G) (cs : ClassId × ClassId × ClassId) (o : Nat) (ad : Nat → Nat) (A : Nat → Prop) (S : mS) (w : Int32)   : Met l yX13_refuse (Cond.code yX13_refuse cX13_refuse 2 (some .int) :: tM) ({ frames := 0, cells := 0, slots := 0, locals := 0 }) (va_Pc [.ref o, .int w] (mB D cs o ad A S)) (va_Qi (fun r9 S9 => (r9 = 0 ∧ S9 = sI S 0 w) ∧ (r9, S9) = G_refuse S w) (mB D cs o ad A) A) 0 0 A := by
  refine mMet (by decide) rfl (Nat.le_of_ble_eq_true rfl) ?_
  intro p e s m below meth c ls C hml hr hlk V hl
  have hx := C.1
  have hb := C.2.1
  have hown := C.2.2.1
  have hts := C.2.2.2.1
  have hS : va_S A s.heap s.heap [] := va_S.rf
  have hl : lv_has ls 2 [(0, .ref o), (1, .int w)] := hl
  have hG := G_refuse.eq_1 S w
  refine lv_aload_n hx hb dX13_refuse_0 rfl (lv_at hl 0 rfl) ?_
  refine lv_iload_n hx hb dX13_refuse_1 rfl (lv_at hl 1 rfl) ?_
  refine mP0 C V hS dX13_refuse_2 (fun S1 H locs eS1 V hS => ?_)
  have hG := gLt_e hG eS1
  refine lv_iconst (v := 0) hx hb dX13_refuse_5 (by decide) ?_
  exact mRetI C hr hlk V hS (⟨⟨rfl, by assumption⟩, hG.symm⟩) dX13_refuse_6
def G_in (S : mS) (v : Int32) (lo : Int32) (hi : Int32) : Int32 := if (v : Int32) < lo then ((0 : Int32)) else (if hi < (v : Int32) then ((0 : Int32)) else ((1 : Int32)))
set_option maxHeartbeats 400000 in
set_option maxRecDepth 100000 in
theorem c_in (l : Launch) (D : va_G) (cs : ClassId × ClassId × ClassId) (o : Nat) (ad : Nat → Nat) (A : Nat → Prop) (S : mS) (v : Int32) (lo : Int32) (hi : Int32)   : Met l yX13_in (Cond.code yX13_in cX13_in 3 (some .boolean) :: tM) ({ frames := 0, cells := 0, slots := 0, locals := 0 }) (va_Pc [.int v, .int lo, .int hi] (mB D cs o ad A S)) (va_Qi (fun r9 S9 => (S9 = S ∧ ((r9 = 1 ∧ lo ≤ v ∧ v ≤ hi) ∨ (r9 = 0 ∧ ¬ (lo ≤ v ∧ v ≤ hi)))) ∧ r9 = G_in S v lo hi) (mB D cs o ad A) A) 0 0 A := by
  refine mMet (by decide) rfl (Nat.le_of_ble_eq_true rfl) ?_
  intro p e s m below meth c ls C hml hr hlk V hl
  have hx := C.1
  have hb := C.2.1
  have hown := C.2.2.1
  have hts := C.2.2.2.1
  have hS : va_S A s.heap s.heap [] := va_S.rf
  have hl : lv_has ls 3 [(0, .int v), (1, .int lo), (2, .int hi)] := hl
  have hG := G_in.eq_1 S v lo hi
  refine lv_iload_n hx hb dX13_in_0 rfl (lv_at hl 0 rfl) ?_
  refine lv_iload_n hx hb dX13_in_1 rfl (lv_at hl 1 rfl) ?_
  refine lv_icmp_lt (tgt := 14) hx hb dX13_in_2 (by decide) (fun c1 => ?_) (fun c1 => ?_)
  · have hG := gIf_p hG c1
    refine lv_iconst (v := 0) hx hb dX13_in_14 (by decide) ?_
    exact mRetZ C hr hlk V hS (by clear hG V hS hl C hts hown hx hb hml hr hlk; first | rfl | decide | (subst_vars; rfl)) (⟨⟨rfl, by grind⟩, hG.symm⟩) dX13_in_15
  · have hG := gIf_n hG c1
    refine lv_iload_n hx hb dX13_in_5 rfl (lv_at hl 0 rfl) ?_
    refine lv_iload_n hx hb dX13_in_6 rfl (lv_at hl 2 rfl) ?_
    refine lv_icmp_gt (tgt := 14) hx hb dX13_in_7 (by decide) (fun c2 => ?_) (fun c2 => ?_)
    · have hG := gIf_p hG c2
      refine lv_iconst (v := 0) hx hb dX13_in_14 (by decide) ?_
      exact mRetZ C hr hlk V hS (by clear hG V hS hl C hts hown hx hb hml hr hlk; first | rfl | decide | (subst_vars; rfl)) (⟨⟨rfl, by grind⟩, hG.symm⟩) dX13_in_15
    · have hG := gIf_n hG c2
      refine lv_iconst (v := 1) hx hb dX13_in_10 (by decide) ?_
      refine lv_goto (tgt := 15) hx hb dX13_in_11 (by decide) ?_
      exact mRetZ C hr hlk V hS (by clear hG V hS hl C hts hown hx hb hml hr hlk; first | rfl | decide | (subst_vars; rfl)) (⟨⟨rfl, by grind⟩, hG.symm⟩) dX13_in_15
def G_four_L3 (v : Int32) : Nat → Int32 → mS → mS
  | 0, v3_2, SL3 => SL3
  | N3 + 1, v3_2, SL3 => if (v3_2 : Int32) < 0 then (SL3) else (gLt ((v : Int32) >>> ((v3_2 : Int32) &&& 31) : Int32) (fun x3 => gLt (sA SL3 1 (gI SL3 2) ((x3 &&& 255)) : mS) (fun S4 => gLt (sI S4 2 ((gI S4 2) + 1) : mS) (fun S5 => gLt (v3_2 + (-8) : Int32) (fun x6 => G_four_L3 v N3 x6 S5)))))
def G_four (S : mS) (v : Int32) : mS := gLt (24 : Int32) (fun x1 => G_four_L3 v ((x1 + 8).toInt.toNat + 1) x1 S)
set_option maxHeartbeats 400000 in
set_option maxRecDepth 100000 in
theorem c_four (l : Launch) (D : va_G) (cs : ClassId × ClassId × ClassId) (o : Nat) (ad : Nat → Nat) (A : Nat → Prop) (S : mS) (v : Int32)  (h1 : 0 ≤ gI S 2 ∧ gI S 2 ≤ 1596) : Met l yX13_four (Cond.code yX13_four cX13_four 3 none :: tM) ({ frames := 0, cells := 0, slots := 0, locals := 0 }) (va_Pc [.ref o, .int v] (mB D cs o ad A S)) (va_Qv (fun S9 => (gI S9 2 = gI S 2 + 4 ∧ (∀ k, k ≠ 2 → gI S9 k = gI S k) ∧ (∀ k, gJ S9 k = gJ S k) ∧ (∀ k i, k ≠ 1 → gA S9 k i = gA S k i) ∧ (∀ k i, gL S9 k i = gL S k i)) ∧ S9 = G_four S v) (mB D cs o ad A) A) 0 0 A := by
  refine mMet (by decide) rfl (Nat.le_of_ble_eq_true rfl) ?_
  intro p e s m below meth c ls C hml hr hlk V hl
  have hx := C.1
  have hb := C.2.1
  have hown := C.2.2.1
  have hts := C.2.2.2.1
  have hS : va_S A s.heap s.heap [] := va_S.rf
  have hl : lv_has ls 3 [(0, .ref o), (1, .int v)] := hl
  have hG := G_four.eq_1 S v
  refine lv_bipush (v := 24) hx hb dX13_four_0 (by decide) ?_
  refine lv_topi (fun x1 ex1 => ?_)
  have hG := gLt_e hG ex1
  refine lv_istore_n (lv' := [(2, .int x1), (0, .ref o), (1, .int v)]) hx hb dX13_four_2 rfl hl (by decide) rfl (fun ls hl => ?_)
  have loop3 : ∀ (N3 : Nat) (v3_2 : Int32) (SL3 : mS) (H : Heap) (locs : List Loc) (ls : Array Slot), (((v3_2 = 24 ∧ gI SL3 2 = gI S 2) ∨ (v3_2 = 16 ∧ gI SL3 2 = gI S 2 + 1) ∨ (v3_2 = 8 ∧ gI SL3 2 = gI S 2 + 2) ∨ (v3_2 = 0 ∧ gI SL3 2 = gI S 2 + 3) ∨ (v3_2 = -8 ∧ gI SL3 2 = gI S 2 + 4)) ∧ (∀ k, k ≠ 2 → gI SL3 k = gI S k) ∧ (∀ k, gJ SL3 k = gJ S k) ∧ (∀ k i, k ≠ 1 → gA SL3 k i = gA S k i) ∧ (∀ k i, gL SL3 k i = gL S k i)) → ((v3_2 + 8).toInt.toNat) < N3 → (G_four S v = G_four_L3 v N3 v3_2 SL3) → mV D cs o ad A SL3 H → va_S A s.heap H locs → lv_has ls 3 [(0, .ref o), (1, .int v), (2, .int v3_2)] → W p l e ({ frames := 0, cells := 0, slots := 0, locals := 0 } : Room) s m ([.ref o, .int v] : List Value).toArray below meth c H locs 0 0 (MQ below (va_Qv (fun S9 => (gI S9 2 = gI S 2 + 4 ∧ (∀ k, k ≠ 2 → gI S9 k = gI S k) ∧ (∀ k, gJ S9 k = gJ S k) ∧ (∀ k i, k ≠ 1 → gA S9 k i = gA S k i) ∧ (∀ k i, gL S9 k i = gL S k i)) ∧ S9 = G_four S v) (mB D cs o ad A) A) ([.ref o, .int v] : List Value).toArray s 0 0 A) (F0 m 3 ls []) := by
    intro N3
    induction N3 with
    | zero => intro v3_2 SL3 H locs ls hi3 hm3; exact absurd hm3 (Nat.not_lt_zero _)
    | succ N3 ih3 =>
      intro v3_2 SL3 H locs ls hi3 hm3 hG V hS hl
      rw [G_four_L3] at hG
      obtain ⟨hi3, hf1, hf2, hf3, hf4⟩ := hi3
      refine lv_iload_n hx hb dX13_four_3 rfl (lv_at hl 2 rfl) ?_
      refine lv_if_lt (tgt := 39) hx hb dX13_four_4 (by decide) (fun c2 => ?_) (fun c2 => ?_)
      · have hG := gIf_p hG c2
        exact mRetV C hr hlk V hS (⟨by clear hG V hS hl C hts hown hx hb hml hr hlk ih3 hm3; grind, hG.symm⟩) dX13_four_39
      · have hG := gIf_n hG c2
        refine lv_aload_n hx hb dX13_four_7 rfl (lv_at hl 0 rfl) ?_
        refine mG1 C V dX13_four_8 ?_
        refine lv_aload_n hx hb dX13_four_11 rfl (lv_at hl 0 rfl) ?_
        refine mG2 C V dX13_four_12 ?_
        refine lv_iload_n hx hb dX13_four_15 rfl (lv_at hl 1 rfl) ?_
        refine lv_iload_n hx hb dX13_four_16 rfl (lv_at hl 2 rfl) ?_
        refine lv_ishr hx hb dX13_four_17 ?_
        refine lv_topi (fun x3 ex3 => ?_)
        have hG := gLt_e hG ex3
        refine lv_sipush (v := 255) hx hb dX13_four_18 (by decide) ?_
        refine lv_iand hx hb dX13_four_21 ?_
        refine mSt1 C V hS (vin (N := 1600) rfl (by clear hG V hS hl C hts hown hx hb hml hr hlk ih3 hm3; grind) (by clear hG V hS hl C hts hown hx hb hml hr hlk ih3 hm3; grind)) dX13_four_22 (fun S4 H locs eS4 V hS => ?_)
        have hG := gLt_e hG eS4
        refine lv_aload_n hx hb dX13_four_23 rfl (lv_at hl 0 rfl) ?_
        refine lv_dup hx hb dX13_four_24 rfl ?_
        refine mG2 C V dX13_four_25 ?_
        refine lv_iconst (v := 1) hx hb dX13_four_28 (by decide) ?_
        refine lv_iadd hx hb dX13_four_29 ?_
        refine mP2 C V hS dX13_four_30 (fun S5 H locs eS5 V hS => ?_)
        have hG := gLt_e hG eS5
        obtain ⟨x6, ex6⟩ : ∃ y : Int32, y = v3_2 + (-8) := ⟨_, rfl⟩
        have hG := gLt_e hG ex6
        refine lv_iinc (v := x6) (lv' := [(2, .int x6), (0, .ref o), (1, .int v)]) hx hb dX13_four_33 hl (k := 2) rfl (by rw [ex6]; rfl) (by decide) rfl (fun ls hl => ?_)
        refine lv_goto (tgt := 3) hx hb dX13_four_36 (by decide) ?_
        exact ih3 x6 S5 _ _ _ (by clear hG V hS hl C hts hown hx hb hml hr hlk ih3 hm3; subst_vars; grind [gI_sI, gI_sJ, gI_sA, gI_sL, gJ_sI, gJ_sJ, gJ_sA, gJ_sL, gA_sI, gA_sJ, gA_sA, gA_sL, gL_sI, gL_sJ, gL_sA, gL_sL]) (msd hm3 (by clear hG V hS hl C hts hown hx hb hml hr hlk ih3 hm3; grind) (by clear hG V hS hl C hts hown hx hb hml hr hlk ih3 hm3; grind)) hG V hS (lv_sub hl [1, 2, 0] rfl)
  exact loop3 ((x1 + 8).toInt.toNat + 1) x1 S _ _ _ (by clear hG V hS hl C hts hown hx hb hml hr hlk; subst_vars; grind) (Nat.lt_succ_self _) hG V hS (lv_sub hl [1, 2, 0] rfl)
def G_byteAt (S : mS) (q : Int32) : Int32 := if (gI S 7) ≤ (q : Int32) then (((-1) : Int32)) else (((gA S 1 q) : Int32))
set_option maxHeartbeats 400000 in
set_option maxRecDepth 100000 in
theorem c_byteAt (l : Launch) (D : va_G) (cs : ClassId × ClassId × ClassId) (o : Nat) (ad : Nat → Nat) (A : Nat → Prop) (S : mS) (q : Int32)  (h1 : 0 ≤ q ∧ gI S 7 ≤ 1600) : Met l yX13_byteAt (Cond.code yX13_byteAt cX13_byteAt 2 (some .int) :: tM) ({ frames := 0, cells := 0, slots := 0, locals := 0 }) (va_Pc [.ref o, .int q] (mB D cs o ad A S)) (va_Qi (fun r9 S9 => (S9 = S ∧ (q < gI S 7 → r9 = gA S 1 q) ∧ (gI S 7 ≤ q → r9 = -1)) ∧ r9 = G_byteAt S q) (mB D cs o ad A) A) 0 0 A := by
  refine mMet (by decide) rfl (Nat.le_of_ble_eq_true rfl) ?_
  intro p e s m below meth c ls C hml hr hlk V hl
  have hx := C.1
  have hb := C.2.1
  have hown := C.2.2.1
  have hts := C.2.2.2.1
  have hS : va_S A s.heap s.heap [] := va_S.rf
  have hl : lv_has ls 2 [(0, .ref o), (1, .int q)] := hl
  have hG := G_byteAt.eq_1 S q
  refine lv_iload_n hx hb dX13_byteAt_0 rfl (lv_at hl 1 rfl) ?_
  refine lv_aload_n hx hb dX13_byteAt_1 rfl (lv_at hl 0 rfl) ?_
  refine mG7 C V dX13_byteAt_2 ?_
  refine lv_icmp_ge (tgt := 17) hx hb dX13_byteAt_5 (by decide) (fun c1 => ?_) (fun c1 => ?_)
  · have hG := gIf_p hG c1
    refine lv_iconst (v := (-1)) hx hb dX13_byteAt_17 (by decide) ?_
    exact mRetI C hr hlk V hS (⟨⟨rfl, by grind⟩, hG.symm⟩) dX13_byteAt_18
  · have hG := gIf_n hG c1
    refine lv_aload_n hx hb dX13_byteAt_8 rfl (lv_at hl 0 rfl) ?_
    refine mG1 C V dX13_byteAt_9 ?_
    refine lv_iload_n hx hb dX13_byteAt_12 rfl (lv_at hl 1 rfl) ?_
    refine mLd1 C V (vin (N := 1600) rfl (by clear hG V hS hl C hts hown hx hb hml hr hlk; grind) (by clear hG V hS hl C hts hown hx hb hml hr hlk; grind)) dX13_byteAt_13 ?_
    refine lv_goto (tgt := 18) hx hb dX13_byteAt_14 (by decide) ?_
    exact mRetI C hr hlk V hS (⟨⟨rfl, by grind⟩, hG.symm⟩) dX13_byteAt_18
def G_part (S : mS) (t : Int32) (q : Int32) : Int32 := ((gA S 11 (((240 * t) + (4 * (gA S 15 t))) + q)) : Int32)
set_option maxHeartbeats 400000 in
set_option maxRecDepth 100000 in
theorem c_part (l : Launch) (D : va_G) (cs : ClassId × ClassId × ClassId) (o : Nat) (ad : Nat → Nat) (A : Nat → Prop) (S : mS) (t : Int32) (q : Int32)  (h1 : 0 ≤ t ∧ t < 8) (h2 : 0 ≤ gA S 15 t ∧ gA S 15 t < 60) (h3 : 0 ≤ q ∧ q < 4) : Met l yX13_part (Cond.code yX13_part cX13_part 3 (some .int) :: tM) ({ frames := 0, cells := 0, slots := 0, locals := 0 }) (va_Pc [.ref o, .int t, .int q] (mB D cs o ad A S)) (va_Qi (fun r9 S9 => (S9 = S ∧ r9 = gA S 11 (240 * t + 4 * gA S 15 t + q)) ∧ r9 = G_part S t q) (mB D cs o ad A) A) 0 0 A := by
  refine mMet (by decide) rfl (Nat.le_of_ble_eq_true rfl) ?_
  intro p e s m below meth c ls C hml hr hlk V hl
  have hx := C.1
  have hb := C.2.1
  have hown := C.2.2.1
  have hts := C.2.2.2.1
  have hS : va_S A s.heap s.heap [] := va_S.rf
  have hl : lv_has ls 3 [(0, .ref o), (1, .int t), (2, .int q)] := hl
  have hG := G_part.eq_1 S t q
  refine lv_aload_n hx hb dX13_part_0 rfl (lv_at hl 0 rfl) ?_
  refine mG11 C V dX13_part_1 ?_
  refine lv_sipush (v := 240) hx hb dX13_part_4 (by decide) ?_
  refine lv_iload_n hx hb dX13_part_7 rfl (lv_at hl 1 rfl) ?_
  refine lv_imul hx hb dX13_part_8 ?_
  refine lv_iconst (v := 4) hx hb dX13_part_9 (by decide) ?_
  refine lv_aload_n hx hb dX13_part_10 rfl (lv_at hl 0 rfl) ?_
  refine mG15 C V dX13_part_11 ?_
  refine lv_iload_n hx hb dX13_part_14 rfl (lv_at hl 1 rfl) ?_
  refine mLd15 C V (vin (N := 8) rfl (by clear hG V hS hl C hts hown hx hb hml hr hlk; grind) (by clear hG V hS hl C hts hown hx hb hml hr hlk; grind)) dX13_part_15 ?_
  refine lv_imul hx hb dX13_part_16 ?_
  refine lv_iadd hx hb dX13_part_17 ?_
  refine lv_iload_n hx hb dX13_part_18 rfl (lv_at hl 2 rfl) ?_
  refine lv_iadd hx hb dX13_part_19 ?_
  refine mLd11 C V (vin (N := 1920) rfl (by clear hG V hS hl C hts hown hx hb hml hr hlk; grind) (by clear hG V hS hl C hts hown hx hb hml hr hlk; grind)) dX13_part_20 ?_
  exact mRetI C hr hlk V hS (⟨⟨rfl, rfl⟩, hG.symm⟩) dX13_part_21
def G_waitFor (S : mS) (t : Int32) (b : Int32) : mS := gLt (sA S 13 t (2) : mS) (fun S1 => gLt (sA S1 16 t (b) : mS) (fun S2 => gLt (sA S2 32 ((8 * b) + (gA S2 33 b)) (t) : mS) (fun S3 => gLt (sA S3 33 b (((gA S3 33 b) + 1)) : mS) (fun S4 => S4))))
set_option maxHeartbeats 400000 in
set_option maxRecDepth 100000 in
theorem c_waitFor (l : Launch) (D : va_G) (cs : ClassId × ClassId × ClassId) (o : Nat) (ad : Nat → Nat) (A : Nat → Prop) (S : mS) (t : Int32) (b : Int32)  (h1 : 0 ≤ t ∧ t < 8) (h2 : 0 ≤ b ∧ b < 24) (h3 : 0 ≤ gA S 33 b ∧ gA S 33 b < 8) : Met l yX13_waitFor (Cond.code yX13_waitFor cX13_waitFor 3 none :: tM) ({ frames := 0, cells := 0, slots := 0, locals := 0 }) (va_Pc [.ref o, .int t, .int b] (mB D cs o ad A S)) (va_Qv (fun S9 => (S9 = sA (sA (sA (sA S 13 t 2) 16 t b) 32 (8 * b + gA S 33 b) t) 33 b (gA S 33 b + 1)) ∧ S9 = G_waitFor S t b) (mB D cs o ad A) A) 0 0 A := by
  refine mMet (by decide) rfl (Nat.le_of_ble_eq_true rfl) ?_
  intro p e s m below meth c ls C hml hr hlk V hl
  have hx := C.1
  have hb := C.2.1
  have hown := C.2.2.1
  have hts := C.2.2.2.1
  have hS : va_S A s.heap s.heap [] := va_S.rf
  have hl : lv_has ls 3 [(0, .ref o), (1, .int t), (2, .int b)] := hl
  have hG := G_waitFor.eq_1 S t b
  refine lv_aload_n hx hb dX13_waitFor_0 rfl (lv_at hl 0 rfl) ?_
  refine mG13 C V dX13_waitFor_1 ?_
  refine lv_iload_n hx hb dX13_waitFor_4 rfl (lv_at hl 1 rfl) ?_
  refine lv_iconst (v := 2) hx hb dX13_waitFor_5 (by decide) ?_
  refine mSt13 C V hS (vin (N := 8) rfl (by clear hG V hS hl C hts hown hx hb hml hr hlk; subst_vars; grind [gI_sI, gI_sJ, gI_sA, gI_sL, gJ_sI, gJ_sJ, gJ_sA, gJ_sL, gA_sI, gA_sJ, gA_sA, gA_sL, gL_sI, gL_sJ, gL_sA, gL_sL]) (by clear hG V hS hl C hts hown hx hb hml hr hlk; subst_vars; grind [gI_sI, gI_sJ, gI_sA, gI_sL, gJ_sI, gJ_sJ, gJ_sA, gJ_sL, gA_sI, gA_sJ, gA_sA, gA_sL, gL_sI, gL_sJ, gL_sA, gL_sL])) dX13_waitFor_6 (fun S1 H locs eS1 V hS => ?_)
  have hG := gLt_e hG eS1
  refine lv_aload_n hx hb dX13_waitFor_7 rfl (lv_at hl 0 rfl) ?_
  refine mG16 C V dX13_waitFor_8 ?_
  refine lv_iload_n hx hb dX13_waitFor_11 rfl (lv_at hl 1 rfl) ?_
  refine lv_iload_n hx hb dX13_waitFor_12 rfl (lv_at hl 2 rfl) ?_
  refine mSt16 C V hS (vin (N := 8) rfl (by clear hG V hS hl C hts hown hx hb hml hr hlk; subst_vars; grind [gI_sI, gI_sJ, gI_sA, gI_sL, gJ_sI, gJ_sJ, gJ_sA, gJ_sL, gA_sI, gA_sJ, gA_sA, gA_sL, gL_sI, gL_sJ, gL_sA, gL_sL]) (by clear hG V hS hl C hts hown hx hb hml hr hlk; subst_vars; grind [gI_sI, gI_sJ, gI_sA, gI_sL, gJ_sI, gJ_sJ, gJ_sA, gJ_sL, gA_sI, gA_sJ, gA_sA, gA_sL, gL_sI, gL_sJ, gL_sA, gL_sL])) dX13_waitFor_13 (fun S2 H locs eS2 V hS => ?_)
  have hG := gLt_e hG eS2
  refine lv_aload_n hx hb dX13_waitFor_14 rfl (lv_at hl 0 rfl) ?_
  refine mG32 C V dX13_waitFor_15 ?_
  refine lv_bipush (v := 8) hx hb dX13_waitFor_18 (by decide) ?_
  refine lv_iload_n hx hb dX13_waitFor_20 rfl (lv_at hl 2 rfl) ?_
  refine lv_imul hx hb dX13_waitFor_21 ?_
  refine lv_aload_n hx hb dX13_waitFor_22 rfl (lv_at hl 0 rfl) ?_
  refine mG33 C V dX13_waitFor_23 ?_
  refine lv_iload_n hx hb dX13_waitFor_26 rfl (lv_at hl 2 rfl) ?_
  refine mLd33 C V (vin (N := 24) rfl (by clear hG V hS hl C hts hown hx hb hml hr hlk; subst_vars; grind [gI_sI, gI_sJ, gI_sA, gI_sL, gJ_sI, gJ_sJ, gJ_sA, gJ_sL, gA_sI, gA_sJ, gA_sA, gA_sL, gL_sI, gL_sJ, gL_sA, gL_sL]) (by clear hG V hS hl C hts hown hx hb hml hr hlk; subst_vars; grind [gI_sI, gI_sJ, gI_sA, gI_sL, gJ_sI, gJ_sJ, gJ_sA, gJ_sL, gA_sI, gA_sJ, gA_sA, gA_sL, gL_sI, gL_sJ, gL_sA, gL_sL])) dX13_waitFor_27 ?_
  refine lv_iadd hx hb dX13_waitFor_28 ?_
  refine lv_iload_n hx hb dX13_waitFor_29 rfl (lv_at hl 1 rfl) ?_
  refine mSt32 C V hS (vin (N := 192) rfl (by clear hG V hS hl C hts hown hx hb hml hr hlk; subst_vars; grind [gI_sI, gI_sJ, gI_sA, gI_sL, gJ_sI, gJ_sJ, gJ_sA, gJ_sL, gA_sI, gA_sJ, gA_sA, gA_sL, gL_sI, gL_sJ, gL_sA, gL_sL]) (by clear hG V hS hl C hts hown hx hb hml hr hlk; subst_vars; grind [gI_sI, gI_sJ, gI_sA, gI_sL, gJ_sI, gJ_sJ, gJ_sA, gJ_sL, gA_sI, gA_sJ, gA_sA, gA_sL, gL_sI, gL_sJ, gL_sA, gL_sL])) dX13_waitFor_30 (fun S3 H locs eS3 V hS => ?_)
  have hG := gLt_e hG eS3
  refine lv_aload_n hx hb dX13_waitFor_31 rfl (lv_at hl 0 rfl) ?_
  refine mG33 C V dX13_waitFor_32 ?_
  refine lv_iload_n hx hb dX13_waitFor_35 rfl (lv_at hl 2 rfl) ?_
  refine lv_dup2_11 hx hb dX13_waitFor_36 rfl rfl ?_
  refine mLd33 C V (vin (N := 24) rfl (by clear hG V hS hl C hts hown hx hb hml hr hlk; subst_vars; grind [gI_sI, gI_sJ, gI_sA, gI_sL, gJ_sI, gJ_sJ, gJ_sA, gJ_sL, gA_sI, gA_sJ, gA_sA, gA_sL, gL_sI, gL_sJ, gL_sA, gL_sL]) (by clear hG V hS hl C hts hown hx hb hml hr hlk; subst_vars; grind [gI_sI, gI_sJ, gI_sA, gI_sL, gJ_sI, gJ_sJ, gJ_sA, gJ_sL, gA_sI, gA_sJ, gA_sA, gA_sL, gL_sI, gL_sJ, gL_sA, gL_sL])) dX13_waitFor_37 ?_
  refine lv_iconst (v := 1) hx hb dX13_waitFor_38 (by decide) ?_
  refine lv_iadd hx hb dX13_waitFor_39 ?_
  refine mSt33 C V hS (vin (N := 24) rfl (by clear hG V hS hl C hts hown hx hb hml hr hlk; subst_vars; grind [gI_sI, gI_sJ, gI_sA, gI_sL, gJ_sI, gJ_sJ, gJ_sA, gJ_sL, gA_sI, gA_sJ, gA_sA, gA_sL, gL_sI, gL_sJ, gL_sA, gL_sL]) (by clear hG V hS hl C hts hown hx hb hml hr hlk; subst_vars; grind [gI_sI, gI_sJ, gI_sA, gI_sL, gJ_sI, gJ_sJ, gJ_sA, gJ_sL, gA_sI, gA_sJ, gA_sA, gA_sL, gL_sI, gL_sJ, gL_sA, gL_sL])) dX13_waitFor_40 (fun S4 H locs eS4 V hS => ?_)
  have hG := gLt_e hG eS4
  exact mRetV C hr hlk V hS (⟨by clear hG V hS hl C hts hown hx hb hml hr hlk; subst_vars; simp [gA_sA], hG.symm⟩) dX13_waitFor_41
def G_goesOn (S : mS) (t : Int32) : mS := gLt (sA S 16 t ((-1)) : mS) (fun S1 => gLt (sA S1 15 t (((gA S1 15 t) + 1)) : mS) (fun S2 => if ((gA S2 15 t) : Int32) < (gA S2 12 t) then (gLt (sA S2 13 t (1) : mS) (fun S4 => S4)) else (gLt (sA S2 13 t (4) : mS) (fun S5 => S5))))
set_option maxHeartbeats 400000 in
set_option maxRecDepth 100000 in
theorem c_goesOn (l : Launch) (D : va_G) (cs : ClassId × ClassId × ClassId) (o : Nat) (ad : Nat → Nat) (A : Nat → Prop) (S : mS) (t : Int32)  (h1 : 0 ≤ t ∧ t < 8) : Met l yX13_goesOn (Cond.code yX13_goesOn cX13_goesOn 2 none :: tM) ({ frames := 0, cells := 0, slots := 0, locals := 0 }) (va_Pc [.ref o, .int t] (mB D cs o ad A S)) (va_Qv (fun S9 => (S9 = sA (sA (sA S 16 t (-1)) 15 t (gA S 15 t + 1)) 13 t (if gA S 12 t ≤ gA S 15 t + 1 then 4 else 1)) ∧ S9 = G_goesOn S t) (mB D cs o ad A) A) 0 0 A := by
  refine mMet (by decide) rfl (Nat.le_of_ble_eq_true rfl) ?_
  intro p e s m below meth c ls C hml hr hlk V hl
  have hx := C.1
  have hb := C.2.1
  have hown := C.2.2.1
  have hts := C.2.2.2.1
  have hS : va_S A s.heap s.heap [] := va_S.rf
  have hl : lv_has ls 2 [(0, .ref o), (1, .int t)] := hl
  have hG := G_goesOn.eq_1 S t
  refine lv_aload_n hx hb dX13_goesOn_0 rfl (lv_at hl 0 rfl) ?_
  refine mG16 C V dX13_goesOn_1 ?_
  refine lv_iload_n hx hb dX13_goesOn_4 rfl (lv_at hl 1 rfl) ?_
  refine lv_iconst (v := (-1)) hx hb dX13_goesOn_5 (by decide) ?_
  refine mSt16 C V hS (vin (N := 8) rfl (by clear hG V hS hl C hts hown hx hb hml hr hlk; grind) (by clear hG V hS hl C hts hown hx hb hml hr hlk; grind)) dX13_goesOn_6 (fun S1 H locs eS1 V hS => ?_)
  have hG := gLt_e hG eS1
  refine lv_aload_n hx hb dX13_goesOn_7 rfl (lv_at hl 0 rfl) ?_
  refine mG15 C V dX13_goesOn_8 ?_
  refine lv_iload_n hx hb dX13_goesOn_11 rfl (lv_at hl 1 rfl) ?_
  refine lv_dup2_11 hx hb dX13_goesOn_12 rfl rfl ?_
  refine mLd15 C V (vin (N := 8) rfl (by clear hG V hS hl C hts hown hx hb hml hr hlk; grind) (by clear hG V hS hl C hts hown hx hb hml hr hlk; grind)) dX13_goesOn_13 ?_
  refine lv_iconst (v := 1) hx hb dX13_goesOn_14 (by decide) ?_
  refine lv_iadd hx hb dX13_goesOn_15 ?_
  refine mSt15 C V hS (vin (N := 8) rfl (by clear hG V hS hl C hts hown hx hb hml hr hlk; grind) (by clear hG V hS hl C hts hown hx hb hml hr hlk; grind)) dX13_goesOn_16 (fun S2 H locs eS2 V hS => ?_)
  have hG := gLt_e hG eS2
  refine lv_aload_n hx hb dX13_goesOn_17 rfl (lv_at hl 0 rfl) ?_
  refine mG13 C V dX13_goesOn_18 ?_
  refine lv_iload_n hx hb dX13_goesOn_21 rfl (lv_at hl 1 rfl) ?_
  refine lv_aload_n hx hb dX13_goesOn_22 rfl (lv_at hl 0 rfl) ?_
  refine mG15 C V dX13_goesOn_23 ?_
  refine lv_iload_n hx hb dX13_goesOn_26 rfl (lv_at hl 1 rfl) ?_
  refine mLd15 C V (vin (N := 8) rfl (by clear hG V hS hl C hts hown hx hb hml hr hlk; grind) (by clear hG V hS hl C hts hown hx hb hml hr hlk; grind)) dX13_goesOn_27 ?_
  refine lv_aload_n hx hb dX13_goesOn_28 rfl (lv_at hl 0 rfl) ?_
  refine mG12 C V dX13_goesOn_29 ?_
  refine lv_iload_n hx hb dX13_goesOn_32 rfl (lv_at hl 1 rfl) ?_
  refine mLd12 C V (vin (N := 8) rfl (by clear hG V hS hl C hts hown hx hb hml hr hlk; grind) (by clear hG V hS hl C hts hown hx hb hml hr hlk; grind)) dX13_goesOn_33 ?_
  refine lv_icmp_lt (tgt := 41) hx hb dX13_goesOn_34 (by decide) (fun c3 => ?_) (fun c3 => ?_)
  · have hG := gIf_p hG c3
    refine lv_iconst (v := 1) hx hb dX13_goesOn_41 (by decide) ?_
    refine mSt13 C V hS (vin (N := 8) rfl (by clear hG V hS hl C hts hown hx hb hml hr hlk; grind) (by clear hG V hS hl C hts hown hx hb hml hr hlk; grind)) dX13_goesOn_42 (fun S4 H locs eS4 V hS => ?_)
    have hG := gLt_e hG eS4
    exact mRetV C hr hlk V hS (⟨by clear hG V hS hl C hts hown hx hb hml hr hlk; subst_vars; simp only [gA_sA] at *; simp at *; grind, hG.symm⟩) dX13_goesOn_43
  · have hG := gIf_n hG c3
    refine lv_iconst (v := 4) hx hb dX13_goesOn_37 (by decide) ?_
    refine lv_goto (tgt := 42) hx hb dX13_goesOn_38 (by decide) ?_
    refine mSt13 C V hS (vin (N := 8) rfl (by clear hG V hS hl C hts hown hx hb hml hr hlk; grind) (by clear hG V hS hl C hts hown hx hb hml hr hlk; grind)) dX13_goesOn_42 (fun S5 H locs eS5 V hS => ?_)
    have hG := gLt_e hG eS5
    exact mRetV C hr hlk V hS (⟨by clear hG V hS hl C hts hown hx hb hml hr hlk; subst_vars; simp only [gA_sA] at *; simp at *; grind, hG.symm⟩) dX13_goesOn_43
def G_fails (S : mS) (t : Int32) (w : Int32) : Int32 × mS := gLt (sA S 13 t (5) : mS) (fun S1 => gLt (sA S1 17 t (w) : mS) (fun S2 => ((0 : Int32), S2)))
set_option maxHeartbeats 400000 in
set_option maxRecDepth 100000 in
theorem c_fails (l : Launch) (D : va_G) (cs : ClassId × ClassId × ClassId) (o : Nat) (ad : Nat → Nat) (A : Nat → Prop) (S : mS) (t : Int32) (w : Int32)  (h1 : 0 ≤ t ∧ t < 8) : Met l yX13_fails (Cond.code yX13_fails cX13_fails 3 (some .boolean) :: tM) ({ frames := 0, cells := 0, slots := 0, locals := 0 }) (va_Pc [.ref o, .int t, .int w] (mB D cs o ad A S)) (va_Qi (fun r9 S9 => (r9 = 0 ∧ S9 = sA (sA S 13 t 5) 17 t w) ∧ (r9, S9) = G_fails S t w) (mB D cs o ad A) A) 0 0 A := by
  refine mMet (by decide) rfl (Nat.le_of_ble_eq_true rfl) ?_
  intro p e s m below meth c ls C hml hr hlk V hl
  have hx := C.1
  have hb := C.2.1
  have hown := C.2.2.1
  have hts := C.2.2.2.1
  have hS : va_S A s.heap s.heap [] := va_S.rf
  have hl : lv_has ls 3 [(0, .ref o), (1, .int t), (2, .int w)] := hl
  have hG := G_fails.eq_1 S t w
  refine lv_aload_n hx hb dX13_fails_0 rfl (lv_at hl 0 rfl) ?_
  refine mG13 C V dX13_fails_1 ?_
  refine lv_iload_n hx hb dX13_fails_4 rfl (lv_at hl 1 rfl) ?_
  refine lv_iconst (v := 5) hx hb dX13_fails_5 (by decide) ?_
  refine mSt13 C V hS (vin (N := 8) rfl (by clear hG V hS hl C hts hown hx hb hml hr hlk; grind) (by clear hG V hS hl C hts hown hx hb hml hr hlk; grind)) dX13_fails_6 (fun S1 H locs eS1 V hS => ?_)
  have hG := gLt_e hG eS1
  refine lv_aload_n hx hb dX13_fails_7 rfl (lv_at hl 0 rfl) ?_
  refine mG17 C V dX13_fails_8 ?_
  refine lv_iload_n hx hb dX13_fails_11 rfl (lv_at hl 1 rfl) ?_
  refine lv_iload_n hx hb dX13_fails_12 rfl (lv_at hl 2 rfl) ?_
  refine mSt17 C V hS (vin (N := 8) rfl (by clear hG V hS hl C hts hown hx hb hml hr hlk; grind) (by clear hG V hS hl C hts hown hx hb hml hr hlk; grind)) dX13_fails_13 (fun S2 H locs eS2 V hS => ?_)
  have hG := gLt_e hG eS2
  refine lv_iconst (v := 0) hx hb dX13_fails_14 (by decide) ?_
  exact mRetZ C hr hlk V hS (by clear hG V hS hl C hts hown hx hb hml hr hlk; first | rfl | decide | (subst_vars; rfl)) (⟨⟨rfl, by subst_vars; rfl⟩, hG.symm⟩) dX13_fails_15

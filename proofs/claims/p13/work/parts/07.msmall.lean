def G_wrong (S : mS)  : Int32 × mS := if 0 ≤ ((gI S 10) : Int32) then (((0 : Int32), S)) else (gLt (sI S 10 (gI S 8) : mS) (fun S2 => ((0 : Int32), S2)))
set_option maxHeartbeats 400000 in
set_option maxRecDepth 100000 in
theorem c_wrong (l : Launch) (D : va_G) (cs : ClassId × ClassId × ClassId) (o : Nat) (ad : Nat → Nat) (A : Nat → Prop) (S : mS)    : Met l yX13_wrong (Cond.code yX13_wrong cX13_wrong 1 (some .int) :: tM) ({ frames := 0, cells := 0, slots := 0, locals := 0 }) (va_Pc [.ref o] (mB D cs o ad A S)) (va_Qi (fun r9 S9 => (r9 = 0 ∧ ((gI S 10 < 0 ∧ S9 = sI S 10 (gI S 8)) ∨ (¬ gI S 10 < 0 ∧ S9 = S))) ∧ (r9, S9) = G_wrong S ) (mB D cs o ad A) A) 0 0 A := by
  refine mMet (by decide) rfl (Nat.le_of_ble_eq_true rfl) ?_
  intro p e s m below meth c ls C hml hr hlk V hl
  have hx := C.1
  have hb := C.2.1
  have hown := C.2.2.1
  have hts := C.2.2.2.1
  have hS : va_S A s.heap s.heap [] := va_S.rf
  have hl : lv_has ls 1 [(0, .ref o)] := hl
  have hG := G_wrong.eq_1 S 
  refine lv_aload_n hx hb dX13_wrong_0 rfl (lv_at hl 0 rfl) ?_
  refine mG10 C V dX13_wrong_1 ?_
  refine lv_if_ge (tgt := 15) hx hb dX13_wrong_4 (by decide) (fun c1 => ?_) (fun c1 => ?_)
  · have hG := gIf_p hG c1
    refine lv_iconst (v := 0) hx hb dX13_wrong_15 (by decide) ?_
    exact mRetI C hr hlk V hS (⟨by clear hG V hS hl C hts hown hx hb hml hr hlk; subst_vars; grind, hG.symm⟩) dX13_wrong_16
  · have hG := gIf_n hG c1
    refine lv_aload_n hx hb dX13_wrong_7 rfl (lv_at hl 0 rfl) ?_
    refine lv_aload_n hx hb dX13_wrong_8 rfl (lv_at hl 0 rfl) ?_
    refine mG8 C V dX13_wrong_9 ?_
    refine mP10 C V hS dX13_wrong_12 (fun S2 H locs eS2 V hS => ?_)
    have hG := gLt_e hG eS2
    refine lv_iconst (v := 0) hx hb dX13_wrong_15 (by decide) ?_
    exact mRetI C hr hlk V hS (⟨by clear hG V hS hl C hts hown hx hb hml hr hlk; subst_vars; grind, hG.symm⟩) dX13_wrong_16
def G_isThere (S : mS) (b : Int32) : Int32 := gLt (G_in S b 0 23 : Int32) (fun r2 => if (r2 : Int32) = 0 then ((0 : Int32)) else (if ((gA S 28 b) : Int32) = 0 then ((0 : Int32)) else ((1 : Int32))))
set_option maxHeartbeats 400000 in
set_option maxRecDepth 100000 in
theorem c_isThere (l : Launch) (D : va_G) (cs : ClassId × ClassId × ClassId) (o : Nat) (ad : Nat → Nat) (A : Nat → Prop) (S : mS) (b : Int32)   : Met l yX13_isThere (Cond.code yX13_isThere cX13_isThere 2 (some .boolean) :: tM) ({ frames := 1, cells := 0, slots := 0, locals := 22 }) (va_Pc [.ref o, .int b] (mB D cs o ad A S)) (va_Qi (fun r9 S9 => (S9 = S ∧ ((r9 = 1 ∧ 0 ≤ b ∧ b < 24 ∧ gA S 28 b ≠ 0) ∨ (r9 = 0 ∧ ¬ (0 ≤ b ∧ b < 24 ∧ gA S 28 b ≠ 0)))) ∧ r9 = G_isThere S b) (mB D cs o ad A) A) 0 0 A := by
  refine mMet (by decide) rfl (Nat.le_of_ble_eq_true rfl) ?_
  intro p e s m below meth c ls C hml hr hlk V hl
  have hx := C.1
  have hb := C.2.1
  have hown := C.2.2.1
  have hts := C.2.2.2.1
  have hS : va_S A s.heap s.heap [] := va_S.rf
  have hl : lv_has ls 2 [(0, .ref o), (1, .int b)] := hl
  have hG := G_isThere.eq_1 S b
  refine lv_iload_n hx hb dX13_isThere_0 rfl (lv_at hl 1 rfl) ?_
  refine lv_iconst (v := 0) hx hb dX13_isThere_1 (by decide) ?_
  refine lv_bipush (v := 23) hx hb dX13_isThere_2 (by decide) ?_
  refine mGoQ (mRunS (As := [.int b, .int 0, .int 23]) (rest := []) C hml V (c_in l D cs o ad A S b 0 23  ) gM_in okM_in ⟨rfl, rfl, Nat.le_of_ble_eq_true rfl, Nat.le_of_ble_eq_true rfl⟩ hl.1 rfl (Nat.le_of_ble_eq_true rfl) dX13_isThere_4 ⟨Nat.zero_le _, Nat.zero_le _⟩) hS (fun r2 H locs hq3 V hS => ?_)
  obtain ⟨hq3, ghq3⟩ := hq3
  have hG := gLt_e hG ghq3
  refine lv_if_eq (tgt := 23) hx hb dX13_isThere_7 (by decide) (fun c4 => ?_) (fun c4 => ?_)
  · have hG := gIf_p hG c4
    refine lv_iconst (v := 0) hx hb dX13_isThere_23 (by decide) ?_
    exact mRetZ C hr hlk V hS (by clear hG V hS hl C hts hown hx hb hml hr hlk; first | rfl | decide | (subst_vars; rfl)) (⟨⟨rfl, by grind⟩, hG.symm⟩) dX13_isThere_24
  · have hG := gIf_n hG c4
    refine lv_aload_n hx hb dX13_isThere_10 rfl (lv_at hl 0 rfl) ?_
    refine mG28 C V dX13_isThere_11 ?_
    refine lv_iload_n hx hb dX13_isThere_14 rfl (lv_at hl 1 rfl) ?_
    refine mLd28 C V (vin (N := 24) rfl (by clear hG V hS hl C hts hown hx hb hml hr hlk; grind) (by clear hG V hS hl C hts hown hx hb hml hr hlk; grind)) dX13_isThere_15 ?_
    refine lv_if_eq (tgt := 23) hx hb dX13_isThere_16 (by decide) (fun c5 => ?_) (fun c5 => ?_)
    · have hG := gIf_p hG c5
      refine lv_iconst (v := 0) hx hb dX13_isThere_23 (by decide) ?_
      exact mRetZ C hr hlk V hS (by clear hG V hS hl C hts hown hx hb hml hr hlk; first | rfl | decide | (subst_vars; rfl)) (⟨⟨rfl, by grind⟩, hG.symm⟩) dX13_isThere_24
    · have hG := gIf_n hG c5
      refine lv_iconst (v := 1) hx hb dX13_isThere_19 (by decide) ?_
      refine lv_goto (tgt := 24) hx hb dX13_isThere_20 (by decide) ?_
      exact mRetZ C hr hlk V hS (by clear hG V hS hl C hts hown hx hb hml hr hlk; first | rfl | decide | (subst_vars; rfl)) (⟨⟨rfl, by grind⟩, hG.symm⟩) dX13_isThere_24
def G_objects_L4 (S : mS) : Nat → Int32 → Int32 → Int32
  | 0, v4_1, v4_2 => (0 : Int32)
  | N4 + 1, v4_1, v4_2 => if 24 ≤ (v4_2 : Int32) then ((v4_1 : Int32)) else (if ((gA S 28 v4_2) : Int32) = 0 then (gLt ((v4_1 + 0) : Int32) (fun x5 => gLt (v4_2 + (1) : Int32) (fun x6 => G_objects_L4 S N4 x5 x6 ))) else (gLt ((v4_1 + 1) : Int32) (fun x7 => gLt (v4_2 + (1) : Int32) (fun x8 => G_objects_L4 S N4 x7 x8 ))))
def G_objects (S : mS)  : Int32 := gLt (0 : Int32) (fun x1 => gLt (0 : Int32) (fun x2 => G_objects_L4 S ((24 - x2).toInt.toNat + 1) x1 x2 ))
set_option maxHeartbeats 400000 in
set_option maxRecDepth 100000 in
theorem c_objects (l : Launch) (D : va_G) (cs : ClassId × ClassId × ClassId) (o : Nat) (ad : Nat → Nat) (A : Nat → Prop) (S : mS)    : Met l yX13_objects (Cond.code yX13_objects cX13_objects 3 (some .int) :: tM) ({ frames := 0, cells := 0, slots := 0, locals := 0 }) (va_Pc [.ref o] (mB D cs o ad A S)) (va_Qi (fun r9 S9 => (S9 = S ∧ True) ∧ r9 = G_objects S ) (mB D cs o ad A) A) 0 0 A := by
  refine mMet (by decide) rfl (Nat.le_of_ble_eq_true rfl) ?_
  intro p e s m below meth c ls C hml hr hlk V hl
  have hx := C.1
  have hb := C.2.1
  have hown := C.2.2.1
  have hts := C.2.2.2.1
  have hS : va_S A s.heap s.heap [] := va_S.rf
  have hl : lv_has ls 3 [(0, .ref o)] := hl
  have hG := G_objects.eq_1 S 
  refine lv_iconst (v := 0) hx hb dX13_objects_0 (by decide) ?_
  refine lv_topi (fun x1 ex1 => ?_)
  have hG := gLt_e hG ex1
  refine lv_istore_n (lv' := [(1, .int x1), (0, .ref o)]) hx hb dX13_objects_1 rfl hl (by decide) rfl (fun ls hl => ?_)
  refine lv_iconst (v := 0) hx hb dX13_objects_2 (by decide) ?_
  refine lv_topi (fun x2 ex2 => ?_)
  have hG := gLt_e hG ex2
  refine lv_istore_n (lv' := [(2, .int x2), (1, .int x1), (0, .ref o)]) hx hb dX13_objects_3 rfl hl (by decide) rfl (fun ls hl => ?_)
  have loop4 : ∀ (N4 : Nat) (v4_1 : Int32) (v4_2 : Int32)  (H : Heap) (locs : List Loc) (ls : Array Slot), (0 ≤ v4_2 ∧ v4_2 ≤ 24) → ((24 - v4_2).toInt.toNat) < N4 → (G_objects S  = G_objects_L4 S N4 v4_1 v4_2) → mV D cs o ad A S H → va_S A s.heap H locs → lv_has ls 3 [(0, .ref o), (1, .int v4_1), (2, .int v4_2)] → W p l e ({ frames := 0, cells := 0, slots := 0, locals := 0 } : Room) s m ([.ref o] : List Value).toArray below meth c H locs 0 0 (MQ below (va_Qi (fun r9 S9 => (S9 = S ∧ True) ∧ r9 = G_objects S ) (mB D cs o ad A) A) ([.ref o] : List Value).toArray s 0 0 A) (F0 m 4 ls []) := by
    intro N4
    induction N4 with
    | zero => intro v4_1 v4_2  H locs ls hi4 hm4; exact absurd hm4 (Nat.not_lt_zero _)
    | succ N4 ih4 =>
      intro v4_1 v4_2  H locs ls hi4 hm4 hG V hS hl
      rw [G_objects_L4] at hG
      refine lv_iload_n hx hb dX13_objects_4 rfl (lv_at hl 2 rfl) ?_
      refine lv_bipush (v := 24) hx hb dX13_objects_5 (by decide) ?_
      refine lv_icmp_ge (tgt := 33) hx hb dX13_objects_7 (by decide) (fun c3 => ?_) (fun c3 => ?_)
      · have hG := gIf_p hG c3
        refine lv_iload_n hx hb dX13_objects_33 rfl (lv_at hl 1 rfl) ?_
        exact mRetI C hr hlk V hS (⟨⟨rfl, trivial⟩, hG.symm⟩) dX13_objects_34
      · have hG := gIf_n hG c3
        refine lv_iload_n hx hb dX13_objects_10 rfl (lv_at hl 1 rfl) ?_
        refine lv_aload_n hx hb dX13_objects_11 rfl (lv_at hl 0 rfl) ?_
        refine mG28 C V dX13_objects_12 ?_
        refine lv_iload_n hx hb dX13_objects_15 rfl (lv_at hl 2 rfl) ?_
        refine mLd28 C V (vin (N := 24) rfl (by clear hG V hS hl C hts hown hx hb hml hr hlk ih4 hm4; grind) (by clear hG V hS hl C hts hown hx hb hml hr hlk ih4 hm4; grind)) dX13_objects_16 ?_
        refine lv_if_eq (tgt := 24) hx hb dX13_objects_17 (by decide) (fun c4 => ?_) (fun c4 => ?_)
        · have hG := gIf_p hG c4
          refine lv_iconst (v := 0) hx hb dX13_objects_24 (by decide) ?_
          refine lv_iadd hx hb dX13_objects_25 ?_
          refine lv_topi (fun x5 ex5 => ?_)
          have hG := gLt_e hG ex5
          refine lv_istore_n (lv' := [(1, .int x5), (0, .ref o), (2, .int v4_2)]) hx hb dX13_objects_26 rfl hl (by decide) rfl (fun ls hl => ?_)
          obtain ⟨x6, ex6⟩ : ∃ y : Int32, y = v4_2 + (1) := ⟨_, rfl⟩
          have hG := gLt_e hG ex6
          refine lv_iinc (v := x6) (lv' := [(2, .int x6), (1, .int x5), (0, .ref o)]) hx hb dX13_objects_27 hl (k := 2) rfl (by rw [ex6]; rfl) (by decide) rfl (fun ls hl => ?_)
          refine lv_goto (tgt := 4) hx hb dX13_objects_30 (by decide) ?_
          exact ih4 x5 x6  _ _ _ (by clear hG V hS hl C hts hown hx hb hml hr hlk ih4 hm4; subst_vars; grind) (msd hm4 (by clear hG V hS hl C hts hown hx hb hml hr hlk ih4 hm4; subst_vars; grind) (by clear hG V hS hl C hts hown hx hb hml hr hlk ih4 hm4; subst_vars; grind)) hG V hS (lv_sub hl [2, 1, 0] rfl)
        · have hG := gIf_n hG c4
          refine lv_iconst (v := 1) hx hb dX13_objects_20 (by decide) ?_
          refine lv_goto (tgt := 25) hx hb dX13_objects_21 (by decide) ?_
          refine lv_iadd hx hb dX13_objects_25 ?_
          refine lv_topi (fun x7 ex7 => ?_)
          have hG := gLt_e hG ex7
          refine lv_istore_n (lv' := [(1, .int x7), (0, .ref o), (2, .int v4_2)]) hx hb dX13_objects_26 rfl hl (by decide) rfl (fun ls hl => ?_)
          obtain ⟨x8, ex8⟩ : ∃ y : Int32, y = v4_2 + (1) := ⟨_, rfl⟩
          have hG := gLt_e hG ex8
          refine lv_iinc (v := x8) (lv' := [(2, .int x8), (1, .int x7), (0, .ref o)]) hx hb dX13_objects_27 hl (k := 2) rfl (by rw [ex8]; rfl) (by decide) rfl (fun ls hl => ?_)
          refine lv_goto (tgt := 4) hx hb dX13_objects_30 (by decide) ?_
          exact ih4 x7 x8  _ _ _ (by clear hG V hS hl C hts hown hx hb hml hr hlk ih4 hm4; subst_vars; grind) (msd hm4 (by clear hG V hS hl C hts hown hx hb hml hr hlk ih4 hm4; subst_vars; grind) (by clear hG V hS hl C hts hown hx hb hml hr hlk ih4 hm4; subst_vars; grind)) hG V hS (lv_sub hl [2, 1, 0] rfl)
  exact loop4 ((24 - x2).toInt.toNat + 1) x1 x2  _ _ _ (by clear hG V hS hl C hts hown hx hb hml hr hlk; subst_vars; grind) (Nat.lt_succ_self _) hG V hS (lv_sub hl [2, 1, 0] rfl)
def G_kindOf (S : mS) (q : Int32) : Int32 := if 12 < (q : Int32) then (if 16 < (q : Int32) then (if 19 < (q : Int32) then (if 21 < (q : Int32) then (if (q : Int32) = 22 then ((4 : Int32)) else (if 26 < (q : Int32) then (if 28 < (q : Int32) then ((8 : Int32)) else ((7 : Int32))) else ((5 : Int32)))) else ((3 : Int32))) else ((2 : Int32))) else ((6 : Int32))) else ((1 : Int32))
set_option maxHeartbeats 400000 in
set_option maxRecDepth 100000 in
theorem c_kindOf (l : Launch) (D : va_G) (cs : ClassId × ClassId × ClassId) (o : Nat) (ad : Nat → Nat) (A : Nat → Prop) (S : mS) (q : Int32)   : Met l yX13_kindOf (Cond.code yX13_kindOf cX13_kindOf 1 (some .int) :: tM) ({ frames := 0, cells := 0, slots := 0, locals := 0 }) (va_Pc [.int q] (mB D cs o ad A S)) (va_Qi (fun r9 S9 => (S9 = S ∧ (q ≤ 12 → r9 = 1) ∧ (12 < q → q ≤ 22 → r9 ≠ 5) ∧ (22 < q → q ≤ 26 → r9 = 5) ∧ (26 < q → r9 ≠ 5)) ∧ r9 = G_kindOf S q) (mB D cs o ad A) A) 0 0 A := by
  refine mMet (by decide) rfl (Nat.le_of_ble_eq_true rfl) ?_
  intro p e s m below meth c ls C hml hr hlk V hl
  have hx := C.1
  have hb := C.2.1
  have hown := C.2.2.1
  have hts := C.2.2.2.1
  have hS : va_S A s.heap s.heap [] := va_S.rf
  have hl : lv_has ls 1 [(0, .int q)] := hl
  have hG := G_kindOf.eq_1 S q
  refine lv_iload_n hx hb dX13_kindOf_0 rfl (lv_at hl 0 rfl) ?_
  refine lv_bipush (v := 12) hx hb dX13_kindOf_1 (by decide) ?_
  refine lv_icmp_gt (tgt := 8) hx hb dX13_kindOf_3 (by decide) (fun c1 => ?_) (fun c1 => ?_)
  · have hG := gIf_p hG c1
    refine lv_iload_n hx hb dX13_kindOf_8 rfl (lv_at hl 0 rfl) ?_
    refine lv_bipush (v := 16) hx hb dX13_kindOf_9 (by decide) ?_
    refine lv_icmp_gt (tgt := 17) hx hb dX13_kindOf_11 (by decide) (fun c2 => ?_) (fun c2 => ?_)
    · have hG := gIf_p hG c2
      refine lv_iload_n hx hb dX13_kindOf_17 rfl (lv_at hl 0 rfl) ?_
      refine lv_bipush (v := 19) hx hb dX13_kindOf_18 (by decide) ?_
      refine lv_icmp_gt (tgt := 25) hx hb dX13_kindOf_20 (by decide) (fun c3 => ?_) (fun c3 => ?_)
      · have hG := gIf_p hG c3
        refine lv_iload_n hx hb dX13_kindOf_25 rfl (lv_at hl 0 rfl) ?_
        refine lv_bipush (v := 21) hx hb dX13_kindOf_26 (by decide) ?_
        refine lv_icmp_gt (tgt := 33) hx hb dX13_kindOf_28 (by decide) (fun c4 => ?_) (fun c4 => ?_)
        · have hG := gIf_p hG c4
          refine lv_iload_n hx hb dX13_kindOf_33 rfl (lv_at hl 0 rfl) ?_
          refine lv_bipush (v := 22) hx hb dX13_kindOf_34 (by decide) ?_
          refine lv_icmp_ne (tgt := 41) hx hb dX13_kindOf_36 (by decide) (fun c5 => ?_) (fun c5 => ?_)
          · have hG := gIf_n hG c5
            refine lv_iload_n hx hb dX13_kindOf_41 rfl (lv_at hl 0 rfl) ?_
            refine lv_bipush (v := 26) hx hb dX13_kindOf_42 (by decide) ?_
            refine lv_icmp_gt (tgt := 49) hx hb dX13_kindOf_44 (by decide) (fun c6 => ?_) (fun c6 => ?_)
            · have hG := gIf_p hG c6
              refine lv_iload_n hx hb dX13_kindOf_49 rfl (lv_at hl 0 rfl) ?_
              refine lv_bipush (v := 28) hx hb dX13_kindOf_50 (by decide) ?_
              refine lv_icmp_gt (tgt := 60) hx hb dX13_kindOf_52 (by decide) (fun c7 => ?_) (fun c7 => ?_)
              · have hG := gIf_p hG c7
                refine lv_bipush (v := 8) hx hb dX13_kindOf_60 (by decide) ?_
                exact mRetI C hr hlk V hS (⟨⟨rfl, by grind⟩, hG.symm⟩) dX13_kindOf_62
              · have hG := gIf_n hG c7
                refine lv_bipush (v := 7) hx hb dX13_kindOf_55 (by decide) ?_
                refine lv_goto (tgt := 62) hx hb dX13_kindOf_57 (by decide) ?_
                exact mRetI C hr hlk V hS (⟨⟨rfl, by grind⟩, hG.symm⟩) dX13_kindOf_62
            · have hG := gIf_n hG c6
              refine lv_iconst (v := 5) hx hb dX13_kindOf_47 (by decide) ?_
              exact mRetI C hr hlk V hS (⟨⟨rfl, by grind⟩, hG.symm⟩) dX13_kindOf_48
          · have hG := gIf_p hG c5
            refine lv_iconst (v := 4) hx hb dX13_kindOf_39 (by decide) ?_
            exact mRetI C hr hlk V hS (⟨⟨rfl, by grind⟩, hG.symm⟩) dX13_kindOf_40
        · have hG := gIf_n hG c4
          refine lv_iconst (v := 3) hx hb dX13_kindOf_31 (by decide) ?_
          exact mRetI C hr hlk V hS (⟨⟨rfl, by grind⟩, hG.symm⟩) dX13_kindOf_32
      · have hG := gIf_n hG c3
        refine lv_iconst (v := 2) hx hb dX13_kindOf_23 (by decide) ?_
        exact mRetI C hr hlk V hS (⟨⟨rfl, by grind⟩, hG.symm⟩) dX13_kindOf_24
    · have hG := gIf_n hG c2
      refine lv_bipush (v := 6) hx hb dX13_kindOf_14 (by decide) ?_
      exact mRetI C hr hlk V hS (⟨⟨rfl, by grind⟩, hG.symm⟩) dX13_kindOf_16
  · have hG := gIf_n hG c1
    refine lv_iconst (v := 1) hx hb dX13_kindOf_6 (by decide) ?_
    exact mRetI C hr hlk V hS (⟨⟨rfl, by grind⟩, hG.symm⟩) dX13_kindOf_7
def G_append (S : mS) (b : Int32) (v : Int32) : mS := gLt (sA S 36 ((100 * b) + (gA S 37 b)) (v) : mS) (fun S1 => gLt (sA S1 37 b (((gA S1 37 b) + 1)) : mS) (fun S2 => S2))
set_option maxHeartbeats 400000 in
set_option maxRecDepth 100000 in
theorem c_append (l : Launch) (D : va_G) (cs : ClassId × ClassId × ClassId) (o : Nat) (ad : Nat → Nat) (A : Nat → Prop) (S : mS) (b : Int32) (v : Int32)  (h1 : 0 ≤ b ∧ b < 24) (h2 : 0 ≤ gA S 37 b ∧ gA S 37 b < 100) : Met l yX13_append (Cond.code yX13_append cX13_append 3 none :: tM) ({ frames := 0, cells := 0, slots := 0, locals := 0 }) (va_Pc [.ref o, .int b, .int v] (mB D cs o ad A S)) (va_Qv (fun S9 => (S9 = sA (sA S 36 (100 * b + gA S 37 b) v) 37 b (gA S 37 b + 1)) ∧ S9 = G_append S b v) (mB D cs o ad A) A) 0 0 A := by
  refine mMet (by decide) rfl (Nat.le_of_ble_eq_true rfl) ?_
  intro p e s m below meth c ls C hml hr hlk V hl
  have hx := C.1
  have hb := C.2.1
  have hown := C.2.2.1
  have hts := C.2.2.2.1
  have hS : va_S A s.heap s.heap [] := va_S.rf
  have hl : lv_has ls 3 [(0, .ref o), (1, .int b), (2, .int v)] := hl
  have hG := G_append.eq_1 S b v
  refine lv_aload_n hx hb dX13_append_0 rfl (lv_at hl 0 rfl) ?_
  refine mG36 C V dX13_append_1 ?_
  refine lv_bipush (v := 100) hx hb dX13_append_4 (by decide) ?_
  refine lv_iload_n hx hb dX13_append_6 rfl (lv_at hl 1 rfl) ?_
  refine lv_imul hx hb dX13_append_7 ?_
  refine lv_aload_n hx hb dX13_append_8 rfl (lv_at hl 0 rfl) ?_
  refine mG37 C V dX13_append_9 ?_
  refine lv_iload_n hx hb dX13_append_12 rfl (lv_at hl 1 rfl) ?_
  refine mLd37 C V (vin (N := 24) rfl (by clear hG V hS hl C hts hown hx hb hml hr hlk; subst_vars; grind [gI_sI, gI_sJ, gI_sA, gI_sL, gJ_sI, gJ_sJ, gJ_sA, gJ_sL, gA_sI, gA_sJ, gA_sA, gA_sL, gL_sI, gL_sJ, gL_sA, gL_sL]) (by clear hG V hS hl C hts hown hx hb hml hr hlk; subst_vars; grind [gI_sI, gI_sJ, gI_sA, gI_sL, gJ_sI, gJ_sJ, gJ_sA, gJ_sL, gA_sI, gA_sJ, gA_sA, gA_sL, gL_sI, gL_sJ, gL_sA, gL_sL])) dX13_append_13 ?_
  refine lv_iadd hx hb dX13_append_14 ?_
  refine lv_iload_n hx hb dX13_append_15 rfl (lv_at hl 2 rfl) ?_
  refine mSt36 C V hS (vin (N := 2400) rfl (by clear hG V hS hl C hts hown hx hb hml hr hlk; subst_vars; grind [gI_sI, gI_sJ, gI_sA, gI_sL, gJ_sI, gJ_sJ, gJ_sA, gJ_sL, gA_sI, gA_sJ, gA_sA, gA_sL, gL_sI, gL_sJ, gL_sA, gL_sL]) (by clear hG V hS hl C hts hown hx hb hml hr hlk; subst_vars; grind [gI_sI, gI_sJ, gI_sA, gI_sL, gJ_sI, gJ_sJ, gJ_sA, gJ_sL, gA_sI, gA_sJ, gA_sA, gA_sL, gL_sI, gL_sJ, gL_sA, gL_sL])) dX13_append_16 (fun S1 H locs eS1 V hS => ?_)
  have hG := gLt_e hG eS1
  refine lv_aload_n hx hb dX13_append_17 rfl (lv_at hl 0 rfl) ?_
  refine mG37 C V dX13_append_18 ?_
  refine lv_iload_n hx hb dX13_append_21 rfl (lv_at hl 1 rfl) ?_
  refine lv_dup2_11 hx hb dX13_append_22 rfl rfl ?_
  refine mLd37 C V (vin (N := 24) rfl (by clear hG V hS hl C hts hown hx hb hml hr hlk; subst_vars; grind [gI_sI, gI_sJ, gI_sA, gI_sL, gJ_sI, gJ_sJ, gJ_sA, gJ_sL, gA_sI, gA_sJ, gA_sA, gA_sL, gL_sI, gL_sJ, gL_sA, gL_sL]) (by clear hG V hS hl C hts hown hx hb hml hr hlk; subst_vars; grind [gI_sI, gI_sJ, gI_sA, gI_sL, gJ_sI, gJ_sJ, gJ_sA, gJ_sL, gA_sI, gA_sJ, gA_sA, gA_sL, gL_sI, gL_sJ, gL_sA, gL_sL])) dX13_append_23 ?_
  refine lv_iconst (v := 1) hx hb dX13_append_24 (by decide) ?_
  refine lv_iadd hx hb dX13_append_25 ?_
  refine mSt37 C V hS (vin (N := 24) rfl (by clear hG V hS hl C hts hown hx hb hml hr hlk; subst_vars; grind [gI_sI, gI_sJ, gI_sA, gI_sL, gJ_sI, gJ_sJ, gJ_sA, gJ_sL, gA_sI, gA_sJ, gA_sA, gA_sL, gL_sI, gL_sJ, gL_sA, gL_sL]) (by clear hG V hS hl C hts hown hx hb hml hr hlk; subst_vars; grind [gI_sI, gI_sJ, gI_sA, gI_sL, gJ_sI, gJ_sJ, gJ_sA, gJ_sL, gA_sI, gA_sJ, gA_sA, gA_sL, gL_sI, gL_sJ, gL_sA, gL_sL])) dX13_append_26 (fun S2 H locs eS2 V hS => ?_)
  have hG := gLt_e hG eS2
  exact mRetV C hr hlk V hS (⟨by clear hG V hS hl C hts hown hx hb hml hr hlk; subst_vars; simp [gA_sA], hG.symm⟩) dX13_append_27
def G_ready_L4 (S : mS) : Nat → Int32 → Int32 → Int32
  | 0, v4_1, v4_2 => (0 : Int32)
  | N4 + 1, v4_1, v4_2 => if 8 ≤ (v4_2 : Int32) then ((v4_1 : Int32)) else (if ((gA S 13 v4_2) : Int32) = 1 then (gLt ((v4_1 + 1) : Int32) (fun x7 => gLt (v4_2 + (1) : Int32) (fun x8 => G_ready_L4 S N4 x7 x8 ))) else (gLt ((v4_1 + 0) : Int32) (fun x5 => gLt (v4_2 + (1) : Int32) (fun x6 => G_ready_L4 S N4 x5 x6 ))))
def G_ready (S : mS)  : Int32 := gLt (0 : Int32) (fun x1 => gLt (0 : Int32) (fun x2 => G_ready_L4 S ((8 - x2).toInt.toNat + 1) x1 x2 ))
set_option maxHeartbeats 400000 in
set_option maxRecDepth 100000 in
theorem c_ready (l : Launch) (D : va_G) (cs : ClassId × ClassId × ClassId) (o : Nat) (ad : Nat → Nat) (A : Nat → Prop) (S : mS)    : Met l yX13_ready (Cond.code yX13_ready cX13_ready 3 (some .int) :: tM) ({ frames := 0, cells := 0, slots := 0, locals := 0 }) (va_Pc [.ref o] (mB D cs o ad A S)) (va_Qi (fun r9 S9 => (S9 = S ∧ 0 ≤ r9 ∧ r9 ≤ 8 ∧ (0 < r9 → ∃ u, 0 ≤ u ∧ u < 8 ∧ gA S 13 u = 1) ∧ (∀ u, 0 ≤ u → u < 8 → gA S 13 u = 1 → 0 < r9)) ∧ r9 = G_ready S ) (mB D cs o ad A) A) 0 0 A := by
  refine mMet (by decide) rfl (Nat.le_of_ble_eq_true rfl) ?_
  intro p e s m below meth c ls C hml hr hlk V hl
  have hx := C.1
  have hb := C.2.1
  have hown := C.2.2.1
  have hts := C.2.2.2.1
  have hS : va_S A s.heap s.heap [] := va_S.rf
  have hl : lv_has ls 3 [(0, .ref o)] := hl
  have hG := G_ready.eq_1 S 
  refine lv_iconst (v := 0) hx hb dX13_ready_0 (by decide) ?_
  refine lv_topi (fun x1 ex1 => ?_)
  have hG := gLt_e hG ex1
  refine lv_istore_n (lv' := [(1, .int x1), (0, .ref o)]) hx hb dX13_ready_1 rfl hl (by decide) rfl (fun ls hl => ?_)
  refine lv_iconst (v := 0) hx hb dX13_ready_2 (by decide) ?_
  refine lv_topi (fun x2 ex2 => ?_)
  have hG := gLt_e hG ex2
  refine lv_istore_n (lv' := [(2, .int x2), (1, .int x1), (0, .ref o)]) hx hb dX13_ready_3 rfl hl (by decide) rfl (fun ls hl => ?_)
  have loop4 : ∀ (N4 : Nat) (v4_1 : Int32) (v4_2 : Int32)  (H : Heap) (locs : List Loc) (ls : Array Slot), (0 ≤ v4_2 ∧ v4_2 ≤ 8 ∧ 0 ≤ v4_1 ∧ v4_1 ≤ v4_2 ∧ (0 < v4_1 → ∃ u, 0 ≤ u ∧ u < 8 ∧ gA S 13 u = 1) ∧ (∀ u, 0 ≤ u → u < v4_2 → gA S 13 u = 1 → 0 < v4_1)) → ((8 - v4_2).toInt.toNat) < N4 → (G_ready S  = G_ready_L4 S N4 v4_1 v4_2) → mV D cs o ad A S H → va_S A s.heap H locs → lv_has ls 3 [(0, .ref o), (1, .int v4_1), (2, .int v4_2)] → W p l e ({ frames := 0, cells := 0, slots := 0, locals := 0 } : Room) s m ([.ref o] : List Value).toArray below meth c H locs 0 0 (MQ below (va_Qi (fun r9 S9 => (S9 = S ∧ 0 ≤ r9 ∧ r9 ≤ 8 ∧ (0 < r9 → ∃ u, 0 ≤ u ∧ u < 8 ∧ gA S 13 u = 1) ∧ (∀ u, 0 ≤ u → u < 8 → gA S 13 u = 1 → 0 < r9)) ∧ r9 = G_ready S ) (mB D cs o ad A) A) ([.ref o] : List Value).toArray s 0 0 A) (F0 m 4 ls []) := by
    intro N4
    induction N4 with
    | zero => intro v4_1 v4_2  H locs ls hi4 hm4; exact absurd hm4 (Nat.not_lt_zero _)
    | succ N4 ih4 =>
      intro v4_1 v4_2  H locs ls hi4 hm4 hG V hS hl
      rw [G_ready_L4] at hG
      refine lv_iload_n hx hb dX13_ready_4 rfl (lv_at hl 2 rfl) ?_
      refine lv_bipush (v := 8) hx hb dX13_ready_5 (by decide) ?_
      refine lv_icmp_ge (tgt := 34) hx hb dX13_ready_7 (by decide) (fun c3 => ?_) (fun c3 => ?_)
      · have hG := gIf_p hG c3
        refine lv_iload_n hx hb dX13_ready_34 rfl (lv_at hl 1 rfl) ?_
        exact mRetI C hr hlk V hS (⟨⟨rfl, by grind⟩, hG.symm⟩) dX13_ready_35
      · have hG := gIf_n hG c3
        refine lv_iload_n hx hb dX13_ready_10 rfl (lv_at hl 1 rfl) ?_
        refine lv_aload_n hx hb dX13_ready_11 rfl (lv_at hl 0 rfl) ?_
        refine mG13 C V dX13_ready_12 ?_
        refine lv_iload_n hx hb dX13_ready_15 rfl (lv_at hl 2 rfl) ?_
        refine mLd13 C V (vin (N := 8) rfl (by clear hG V hS hl C hts hown hx hb hml hr hlk ih4 hm4; grind) (by clear hG V hS hl C hts hown hx hb hml hr hlk ih4 hm4; grind)) dX13_ready_16 ?_
        refine lv_iconst (v := 1) hx hb dX13_ready_17 (by decide) ?_
        refine lv_icmp_ne (tgt := 25) hx hb dX13_ready_18 (by decide) (fun c4 => ?_) (fun c4 => ?_)
        · have hG := gIf_n hG c4
          refine lv_iconst (v := 0) hx hb dX13_ready_25 (by decide) ?_
          refine lv_iadd hx hb dX13_ready_26 ?_
          refine lv_topi (fun x5 ex5 => ?_)
          have hG := gLt_e hG ex5
          refine lv_istore_n (lv' := [(1, .int x5), (0, .ref o), (2, .int v4_2)]) hx hb dX13_ready_27 rfl hl (by decide) rfl (fun ls hl => ?_)
          obtain ⟨x6, ex6⟩ : ∃ y : Int32, y = v4_2 + (1) := ⟨_, rfl⟩
          have hG := gLt_e hG ex6
          refine lv_iinc (v := x6) (lv' := [(2, .int x6), (1, .int x5), (0, .ref o)]) hx hb dX13_ready_28 hl (k := 2) rfl (by rw [ex6]; rfl) (by decide) rfl (fun ls hl => ?_)
          refine lv_goto (tgt := 4) hx hb dX13_ready_31 (by decide) ?_
          exact ih4 x5 x6  _ _ _ (by clear hG V hS hl C hts hown hx hb hml hr hlk ih4 hm4; subst_vars; grind) (msd hm4 (by clear hG V hS hl C hts hown hx hb hml hr hlk ih4 hm4; subst_vars; grind) (by clear hG V hS hl C hts hown hx hb hml hr hlk ih4 hm4; subst_vars; grind)) hG V hS (lv_sub hl [2, 1, 0] rfl)
        · have hG := gIf_p hG c4
          refine lv_iconst (v := 1) hx hb dX13_ready_21 (by decide) ?_
          refine lv_goto (tgt := 26) hx hb dX13_ready_22 (by decide) ?_
          refine lv_iadd hx hb dX13_ready_26 ?_
          refine lv_topi (fun x7 ex7 => ?_)
          have hG := gLt_e hG ex7
          refine lv_istore_n (lv' := [(1, .int x7), (0, .ref o), (2, .int v4_2)]) hx hb dX13_ready_27 rfl hl (by decide) rfl (fun ls hl => ?_)
          obtain ⟨x8, ex8⟩ : ∃ y : Int32, y = v4_2 + (1) := ⟨_, rfl⟩
          have hG := gLt_e hG ex8
          refine lv_iinc (v := x8) (lv' := [(2, .int x8), (1, .int x7), (0, .ref o)]) hx hb dX13_ready_28 hl (k := 2) rfl (by rw [ex8]; rfl) (by decide) rfl (fun ls hl => ?_)
          refine lv_goto (tgt := 4) hx hb dX13_ready_31 (by decide) ?_
          exact ih4 x7 x8  _ _ _ (by clear hG V hS hl C hts hown hx hb hml hr hlk ih4 hm4; subst_vars; grind) (msd hm4 (by clear hG V hS hl C hts hown hx hb hml hr hlk ih4 hm4; subst_vars; grind) (by clear hG V hS hl C hts hown hx hb hml hr hlk ih4 hm4; subst_vars; grind)) hG V hS (lv_sub hl [2, 1, 0] rfl)
  exact loop4 ((8 - x2).toInt.toNat + 1) x1 x2  _ _ _ (by clear hG V hS hl C hts hown hx hb hml hr hlk; subst_vars; grind) (Nat.lt_succ_self _) hG V hS (lv_sub hl [2, 1, 0] rfl)
def G_end (S : mS) (n : Int32) : Int32 × mS := gLt (G_in S n 0 (gI S 2) : Int32) (fun r2 => if (r2 : Int32) = 0 then (gC (G_refuse S 1) (fun r8 S7 => ((r8 : Int32), S7))) else (gLt (sI S 0 0 : mS) (fun S5 => gLt (sI S5 2 n : mS) (fun S6 => ((n : Int32), S6)))))
set_option maxHeartbeats 400000 in
set_option maxRecDepth 100000 in
theorem c_end (l : Launch) (D : va_G) (cs : ClassId × ClassId × ClassId) (o : Nat) (ad : Nat → Nat) (A : Nat → Prop) (S : mS) (n : Int32)   : Met l yX13_end (Cond.code yX13_end cX13_end 2 (some .int) :: tM) ({ frames := 1, cells := 0, slots := 0, locals := 22 }) (va_Pc [.ref o, .int n] (mB D cs o ad A S)) (va_Qi (fun r9 S9 => ((0 ≤ n ∧ n ≤ gI S 2 ∧ r9 = n ∧ S9 = sI (sI S 0 0) 2 n) ∨ (¬ (0 ≤ n ∧ n ≤ gI S 2) ∧ S9 = sI S 0 1)) ∧ (r9, S9) = G_end S n) (mB D cs o ad A) A) 0 0 A := by
  refine mMet (by decide) rfl (Nat.le_of_ble_eq_true rfl) ?_
  intro p e s m below meth c ls C hml hr hlk V hl
  have hx := C.1
  have hb := C.2.1
  have hown := C.2.2.1
  have hts := C.2.2.2.1
  have hS : va_S A s.heap s.heap [] := va_S.rf
  have hl : lv_has ls 2 [(0, .ref o), (1, .int n)] := hl
  have hG := G_end.eq_1 S n
  refine lv_iload_n hx hb dX13_end_0 rfl (lv_at hl 1 rfl) ?_
  refine lv_iconst (v := 0) hx hb dX13_end_1 (by decide) ?_
  refine lv_aload_n hx hb dX13_end_2 rfl (lv_at hl 0 rfl) ?_
  refine mG2 C V dX13_end_3 ?_
  refine mGoQ (mRunS (As := [.int n, .int 0, .int (gI S 2)]) (rest := []) C hml V (c_in l D cs o ad A S n 0 (gI S 2)  ) gM_in okM_in ⟨rfl, rfl, Nat.le_of_ble_eq_true rfl, Nat.le_of_ble_eq_true rfl⟩ hl.1 rfl (Nat.le_of_ble_eq_true rfl) dX13_end_6 ⟨Nat.zero_le _, Nat.zero_le _⟩) hS (fun r2 H locs hq3 V hS => ?_)
  obtain ⟨hq3, ghq3⟩ := hq3
  have hG := gLt_e hG ghq3
  refine lv_if_ne (tgt := 18) hx hb dX13_end_9 (by decide) (fun c4 => ?_) (fun c4 => ?_)
  · have hG := gIf_n hG c4
    refine lv_aload_n hx hb dX13_end_18 rfl (lv_at hl 0 rfl) ?_
    refine lv_iconst (v := 0) hx hb dX13_end_19 (by decide) ?_
    refine mP0 C V hS dX13_end_20 (fun S5 H locs eS5 V hS => ?_)
    have hG := gLt_e hG eS5
    refine lv_aload_n hx hb dX13_end_23 rfl (lv_at hl 0 rfl) ?_
    refine lv_iload_n hx hb dX13_end_24 rfl (lv_at hl 1 rfl) ?_
    refine mP2 C V hS dX13_end_25 (fun S6 H locs eS6 V hS => ?_)
    have hG := gLt_e hG eS6
    refine lv_iload_n hx hb dX13_end_28 rfl (lv_at hl 1 rfl) ?_
    exact mRetI C hr hlk V hS (⟨by clear hG V hS hl C hts hown hx hb hml hr hlk; subst_vars; grind, hG.symm⟩) dX13_end_29
  · have hG := gIf_p hG c4
    refine lv_aload_n hx hb dX13_end_12 rfl (lv_at hl 0 rfl) ?_
    refine lv_iconst (v := 1) hx hb dX13_end_13 (by decide) ?_
    refine mGoI (mRunV (As := [.int 1]) (rest := []) C hml V (c_refuse l D cs o ad A S 1  ) gM_refuse okM_refuse ⟨rfl, rfl, Nat.le_of_ble_eq_true rfl, Nat.le_of_ble_eq_true rfl⟩ hl.1 rfl (Nat.le_of_ble_eq_true rfl) dX13_end_14 ⟨Nat.zero_le _, Nat.zero_le _⟩) hS (fun r8 S7 H locs hq9 V hS => ?_)
    obtain ⟨hq9, ghq9⟩ := hq9
    have hG := gC_e hG ghq9
    exact mRetI C hr hlk V hS (⟨by clear hG V hS hl C hts hown hx hb hml hr hlk; subst_vars; grind, hG.symm⟩) dX13_end_17
def G_feed (S : mS) (a0 : Int32) (a1 : Int32) (a2 : Int32) (a3 : Int32) (a4 : Int32) : Int32 × mS := if (((gI S 2) + 20) : Int32) ≤ 1600 then (gLt (sI S 0 0 : mS) (fun S2 => gLt (G_four S2 a0 : mS) (fun S3 => gLt (G_four S3 a1 : mS) (fun S6 => gLt (G_four S6 a2 : mS) (fun S9 => gLt (G_four S9 a3 : mS) (fun S12 => gLt (G_four S12 a4 : mS) (fun S15 => (((gI S15 2) : Int32), S15)))))))) else (gC (G_refuse S 1) (fun r19 S18 => ((r19 : Int32), S18)))
set_option maxHeartbeats 400000 in
set_option maxRecDepth 100000 in
theorem c_feed (l : Launch) (D : va_G) (cs : ClassId × ClassId × ClassId) (o : Nat) (ad : Nat → Nat) (A : Nat → Prop) (S : mS) (a0 : Int32) (a1 : Int32) (a2 : Int32) (a3 : Int32) (a4 : Int32)  (h1 : 0 ≤ gI S 2 ∧ gI S 2 ≤ 1600) : Met l yX13_feed (Cond.code yX13_feed cX13_feed 6 (some .int) :: tM) ({ frames := 1, cells := 0, slots := 0, locals := 22 }) (va_Pc [.ref o, .int a0, .int a1, .int a2, .int a3, .int a4] (mB D cs o ad A S)) (va_Qi (fun r9 S9 => ((1600 < gI S 2 + 20 ∧ S9 = sI S 0 1) ∨ (gI S 2 + 20 ≤ 1600 ∧ gI S9 0 = 0 ∧ r9 = gI S 2 + 20 ∧ gI S9 2 = gI S 2 + 20 ∧ (∀ k, k ≠ 0 → k ≠ 2 → gI S9 k = gI S k) ∧ (∀ k, gJ S9 k = gJ S k) ∧ (∀ k i, k ≠ 1 → gA S9 k i = gA S k i) ∧ (∀ k i, gL S9 k i = gL S k i))) ∧ (r9, S9) = G_feed S a0 a1 a2 a3 a4) (mB D cs o ad A) A) 0 0 A := by
  refine mMet (by decide) rfl (Nat.le_of_ble_eq_true rfl) ?_
  intro p e s m below meth c ls C hml hr hlk V hl
  have hx := C.1
  have hb := C.2.1
  have hown := C.2.2.1
  have hts := C.2.2.2.1
  have hS : va_S A s.heap s.heap [] := va_S.rf
  have hl : lv_has ls 6 [(0, .ref o), (1, .int a0), (2, .int a1), (3, .int a2), (4, .int a3), (5, .int a4)] := hl
  have hG := G_feed.eq_1 S a0 a1 a2 a3 a4
  refine lv_aload_n hx hb dX13_feed_0 rfl (lv_at hl 0 rfl) ?_
  refine mG2 C V dX13_feed_1 ?_
  refine lv_bipush (v := 20) hx hb dX13_feed_4 (by decide) ?_
  refine lv_iadd hx hb dX13_feed_6 ?_
  refine lv_sipush (v := 1600) hx hb dX13_feed_7 (by decide) ?_
  refine lv_icmp_le (tgt := 19) hx hb dX13_feed_10 (by decide) (fun c1 => ?_) (fun c1 => ?_)
  · have hG := gIf_p hG c1
    refine lv_aload_n hx hb dX13_feed_19 rfl (lv_at hl 0 rfl) ?_
    refine lv_iconst (v := 0) hx hb dX13_feed_20 (by decide) ?_
    refine mP0 C V hS dX13_feed_21 (fun S2 H locs eS2 V hS => ?_)
    have hG := gLt_e hG eS2
    refine lv_aload_n hx hb dX13_feed_24 rfl (lv_at hl 0 rfl) ?_
    refine lv_iload_n hx hb dX13_feed_25 rfl (lv_at hl 1 rfl) ?_
    refine mGoV (mRunV (As := [.int a0]) (rest := []) C hml V (c_four l D cs o ad A S2 a0  (by clear hG V hS hl C hts hown hx hb hml hr hlk; grind [gI_sI, gI_sJ, gI_sA, gI_sL, gJ_sI, gJ_sJ, gJ_sA, gJ_sL, gA_sI, gA_sJ, gA_sA, gA_sL, gL_sI, gL_sJ, gL_sA, gL_sL])) gM_four okM_four ⟨rfl, rfl, Nat.le_of_ble_eq_true rfl, Nat.le_of_ble_eq_true rfl⟩ hl.1 rfl (Nat.le_of_ble_eq_true rfl) dX13_feed_26 ⟨Nat.zero_le _, Nat.zero_le _⟩) hS (fun S3 H locs hq5 V hS => ?_)
    obtain ⟨hq5, ghq5⟩ := hq5
    have hG := gLt_e hG ghq5
    refine lv_aload_n hx hb dX13_feed_29 rfl (lv_at hl 0 rfl) ?_
    refine lv_iload_n hx hb dX13_feed_30 rfl (lv_at hl 2 rfl) ?_
    refine mGoV (mRunV (As := [.int a1]) (rest := []) C hml V (c_four l D cs o ad A S3 a1  (by clear hG V hS hl C hts hown hx hb hml hr hlk; grind [gI_sI, gI_sJ, gI_sA, gI_sL, gJ_sI, gJ_sJ, gJ_sA, gJ_sL, gA_sI, gA_sJ, gA_sA, gA_sL, gL_sI, gL_sJ, gL_sA, gL_sL])) gM_four okM_four ⟨rfl, rfl, Nat.le_of_ble_eq_true rfl, Nat.le_of_ble_eq_true rfl⟩ hl.1 rfl (Nat.le_of_ble_eq_true rfl) dX13_feed_31 ⟨Nat.zero_le _, Nat.zero_le _⟩) hS (fun S6 H locs hq8 V hS => ?_)
    obtain ⟨hq8, ghq8⟩ := hq8
    have hG := gLt_e hG ghq8
    refine lv_aload_n hx hb dX13_feed_34 rfl (lv_at hl 0 rfl) ?_
    refine lv_iload_n hx hb dX13_feed_35 rfl (lv_at hl 3 rfl) ?_
    refine mGoV (mRunV (As := [.int a2]) (rest := []) C hml V (c_four l D cs o ad A S6 a2  (by clear hG V hS hl C hts hown hx hb hml hr hlk; grind [gI_sI, gI_sJ, gI_sA, gI_sL, gJ_sI, gJ_sJ, gJ_sA, gJ_sL, gA_sI, gA_sJ, gA_sA, gA_sL, gL_sI, gL_sJ, gL_sA, gL_sL])) gM_four okM_four ⟨rfl, rfl, Nat.le_of_ble_eq_true rfl, Nat.le_of_ble_eq_true rfl⟩ hl.1 rfl (Nat.le_of_ble_eq_true rfl) dX13_feed_36 ⟨Nat.zero_le _, Nat.zero_le _⟩) hS (fun S9 H locs hq11 V hS => ?_)
    obtain ⟨hq11, ghq11⟩ := hq11
    have hG := gLt_e hG ghq11
    refine lv_aload_n hx hb dX13_feed_39 rfl (lv_at hl 0 rfl) ?_
    refine lv_iload hx hb dX13_feed_40 (lv_at hl 4 rfl) ?_
    refine mGoV (mRunV (As := [.int a3]) (rest := []) C hml V (c_four l D cs o ad A S9 a3  (by clear hG V hS hl C hts hown hx hb hml hr hlk; grind [gI_sI, gI_sJ, gI_sA, gI_sL, gJ_sI, gJ_sJ, gJ_sA, gJ_sL, gA_sI, gA_sJ, gA_sA, gA_sL, gL_sI, gL_sJ, gL_sA, gL_sL])) gM_four okM_four ⟨rfl, rfl, Nat.le_of_ble_eq_true rfl, Nat.le_of_ble_eq_true rfl⟩ hl.1 rfl (Nat.le_of_ble_eq_true rfl) dX13_feed_42 ⟨Nat.zero_le _, Nat.zero_le _⟩) hS (fun S12 H locs hq14 V hS => ?_)
    obtain ⟨hq14, ghq14⟩ := hq14
    have hG := gLt_e hG ghq14
    refine lv_aload_n hx hb dX13_feed_45 rfl (lv_at hl 0 rfl) ?_
    refine lv_iload hx hb dX13_feed_46 (lv_at hl 5 rfl) ?_
    refine mGoV (mRunV (As := [.int a4]) (rest := []) C hml V (c_four l D cs o ad A S12 a4  (by clear hG V hS hl C hts hown hx hb hml hr hlk; grind [gI_sI, gI_sJ, gI_sA, gI_sL, gJ_sI, gJ_sJ, gJ_sA, gJ_sL, gA_sI, gA_sJ, gA_sA, gA_sL, gL_sI, gL_sJ, gL_sA, gL_sL])) gM_four okM_four ⟨rfl, rfl, Nat.le_of_ble_eq_true rfl, Nat.le_of_ble_eq_true rfl⟩ hl.1 rfl (Nat.le_of_ble_eq_true rfl) dX13_feed_48 ⟨Nat.zero_le _, Nat.zero_le _⟩) hS (fun S15 H locs hq17 V hS => ?_)
    obtain ⟨hq17, ghq17⟩ := hq17
    have hG := gLt_e hG ghq17
    refine lv_aload_n hx hb dX13_feed_51 rfl (lv_at hl 0 rfl) ?_
    refine mG2 C V dX13_feed_52 ?_
    exact mRetI C hr hlk V hS (⟨by clear hG V hS hl C hts hown hx hb hml hr hlk; grind (ematch := 12) [gI_sI, gI_sJ, gI_sA, gI_sL, gJ_sI, gJ_sJ, gJ_sA, gJ_sL, gA_sI, gA_sJ, gA_sA, gA_sL, gL_sI, gL_sJ, gL_sA, gL_sL], hG.symm⟩) dX13_feed_55
  · have hG := gIf_n hG c1
    refine lv_aload_n hx hb dX13_feed_13 rfl (lv_at hl 0 rfl) ?_
    refine lv_iconst (v := 1) hx hb dX13_feed_14 (by decide) ?_
    refine mGoI (mRunV (As := [.int 1]) (rest := []) C hml V (c_refuse l D cs o ad A S 1  ) gM_refuse okM_refuse ⟨rfl, rfl, Nat.le_of_ble_eq_true rfl, Nat.le_of_ble_eq_true rfl⟩ hl.1 rfl (Nat.le_of_ble_eq_true rfl) dX13_feed_15 ⟨Nat.zero_le _, Nat.zero_le _⟩) hS (fun r19 S18 H locs hq20 V hS => ?_)
    obtain ⟨hq20, ghq20⟩ := hq20
    have hG := gC_e hG ghq20
    exact mRetI C hr hlk V hS (⟨by clear hG V hS hl C hts hown hx hb hml hr hlk; grind (ematch := 12) [gI_sI, gI_sJ, gI_sA, gI_sL, gJ_sI, gJ_sJ, gJ_sA, gJ_sL, gA_sI, gA_sJ, gA_sA, gA_sL, gL_sI, gL_sJ, gL_sA, gL_sL], hG.symm⟩) dX13_feed_18

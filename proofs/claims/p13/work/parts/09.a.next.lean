def G_next_L66  : Nat → mS → mS
  | 0, SL66 => SL66
  | N66 + 1, SL66 => if (gI SL66 7) ≤ ((gI SL66 9) : Int32) then (SL66) else (if ((gA SL66 1 (gI SL66 9)) : Int32) = 32 then (SL66) else (if ((gA SL66 1 (gI SL66 9)) : Int32) = 59 then (SL66) else (gLt (sI SL66 9 ((gI SL66 9) + 1) : mS) (fun S14 => G_next_L66  N66  S14))))
def G_next_L8 (S : mS) : Nat → mS → mS
  | 0, SL8 => SL8
  | N8 + 1, SL8 => gLt (G_byteAt SL8 (gI SL8 8) : Int32) (fun r3 => if (r3 : Int32) = 32 then (gLt (sI SL8 8 ((gI SL8 8) + 1) : mS) (fun S16 => G_next_L8 S N8  S16)) else (gLt (sI SL8 9 (gI SL8 8) : mS) (fun S6 => gLt (G_byteAt S6 (gI S6 9) : Int32) (fun r8 => if (r8 : Int32) = 59 then (gLt (sI S6 9 ((gI S6 9) + 1) : mS) (fun S15 => S15)) else (G_next_L66  ((gI S 7 - gI S6 9).toInt.toNat + 1)  S6)))))
def G_next (S : mS)  : mS := gLt (sI S 8 (gI S 9) : mS) (fun S1 => G_next_L8 S ((gI S 7 - gI S1 8).toInt.toNat + 1)  S1)
set_option maxHeartbeats 400000 in
set_option maxRecDepth 100000 in
theorem c_next (l : Launch) (D : va_G) (cs : ClassId × ClassId × ClassId) (o : Nat) (ad : Nat → Nat) (A : Nat → Prop) (S : mS)   (h1 : 0 ≤ gI S 9 ∧ gI S 9 ≤ gI S 7 ∧ gI S 7 ≤ 1600) : Met l yX13_next (Cond.code yX13_next cX13_next 1 none :: tM) ({ frames := 1, cells := 0, slots := 0, locals := 21 }) (va_Pc [.ref o] (mB D cs o ad A S)) (va_Qv (fun S9 => (0 ≤ gI S9 8 ∧ gI S9 8 ≤ gI S9 9 ∧ gI S9 9 ≤ gI S9 7 ∧ gI S9 7 ≤ 1600 ∧ (gI S9 8 < gI S9 7 → gI S9 8 < gI S9 9) ∧ gI S 9 ≤ gI S9 8 ∧ (∀ k, k ≠ 8 → k ≠ 9 → gI S9 k = gI S k) ∧ (∀ k, gJ S9 k = gJ S k) ∧ (∀ k i, gA S9 k i = gA S k i) ∧ (∀ k i, gL S9 k i = gL S k i)) ∧ S9 = G_next S ) (mB D cs o ad A) A) 0 0 A := by
  refine mMet (by decide) rfl (Nat.le_of_ble_eq_true rfl) ?_
  intro p e s m below meth c ls C hml hr hlk V hl
  have hx := C.1
  have hb := C.2.1
  have hown := C.2.2.1
  have hts := C.2.2.2.1
  have hS : va_S A s.heap s.heap [] := va_S.rf
  have hl : lv_has ls 1 [(0, .ref o)] := hl
  have hG := G_next.eq_1 S 
  refine lv_aload_n hx hb dX13_next_0 rfl (lv_at hl 0 rfl) ?_
  refine lv_aload_n hx hb dX13_next_1 rfl (lv_at hl 0 rfl) ?_
  refine mG9 C V dX13_next_2 ?_
  refine mP8 C V hS dX13_next_5 (fun S1 H locs eS1 V hS => ?_)
  have hG := gLt_e hG eS1
  have loop8 : ∀ (N8 : Nat)  (SL8 : mS) (H : Heap) (locs : List Loc) (ls : Array Slot), (gI S 9 ≤ gI SL8 8 ∧ gI SL8 8 ≤ gI S 7 ∧ (∀ k, k ≠ 8 → gI SL8 k = gI S k) ∧ (∀ k, gJ SL8 k = gJ S k) ∧ (∀ k i, gA SL8 k i = gA S k i) ∧ (∀ k i, gL SL8 k i = gL S k i)) → ((gI S 7 - gI SL8 8).toInt.toNat) < N8 → (G_next S  = G_next_L8 S N8  SL8) → mV D cs o ad A SL8 H → va_S A s.heap H locs → lv_has ls 1 [(0, .ref o)] → W p l e ({ frames := 1, cells := 0, slots := 0, locals := 21 } : Room) s m ([.ref o] : List Value).toArray below meth c H locs 0 0 (MQ below (va_Qv (fun S9 => (0 ≤ gI S9 8 ∧ gI S9 8 ≤ gI S9 9 ∧ gI S9 9 ≤ gI S9 7 ∧ gI S9 7 ≤ 1600 ∧ (gI S9 8 < gI S9 7 → gI S9 8 < gI S9 9) ∧ gI S 9 ≤ gI S9 8 ∧ (∀ k, k ≠ 8 → k ≠ 9 → gI S9 k = gI S k) ∧ (∀ k, gJ S9 k = gJ S k) ∧ (∀ k i, gA S9 k i = gA S k i) ∧ (∀ k i, gL S9 k i = gL S k i)) ∧ S9 = G_next S ) (mB D cs o ad A) A) ([.ref o] : List Value).toArray s 0 0 A) (F0 m 8 ls []) := by
    intro N8
    induction N8 with
    | zero => intro  SL8 H locs ls hi8 hm8; exact absurd hm8 (Nat.not_lt_zero _)
    | succ N8 ih8 =>
      intro  SL8 H locs ls hi8 hm8 hG V hS hl
      rw [G_next_L8] at hG
      refine lv_aload_n hx hb dX13_next_8 rfl (lv_at hl 0 rfl) ?_
      refine lv_aload_n hx hb dX13_next_9 rfl (lv_at hl 0 rfl) ?_
      refine mG8 C V dX13_next_10 ?_
      refine mGoQ (mRunV (As := [.int (gI SL8 8)]) (rest := []) C hml V (c_byteAt l D cs o ad A SL8 (gI SL8 8)  (by clear hG V hS hl C hts hown hx hb hml hr hlk ih8 hm8; grind [gI_sI, gI_sJ, gI_sA, gI_sL, gJ_sI, gJ_sJ, gJ_sA, gJ_sL, gA_sI, gA_sJ, gA_sA, gA_sL, gL_sI, gL_sJ, gL_sA, gL_sL])) gM_byteAt okM_byteAt ⟨rfl, rfl, Nat.le_of_ble_eq_true rfl, Nat.le_of_ble_eq_true rfl⟩ hl.1 rfl (Nat.le_of_ble_eq_true rfl) dX13_next_13 ⟨Nat.zero_le _, Nat.zero_le _⟩) hS (fun r3 H locs hq4 V hS => ?_)
      obtain ⟨hq4, ghq4⟩ := hq4
      have hG := gLt_e hG ghq4
      refine lv_bipush (v := 32) hx hb dX13_next_16 (by decide) ?_
      refine lv_icmp_ne (tgt := 34) hx hb dX13_next_18 (by decide) (fun c5 => ?_) (fun c5 => ?_)
      · have hG := gIf_n hG c5
        refine lv_aload_n hx hb dX13_next_34 rfl (lv_at hl 0 rfl) ?_
        refine lv_aload_n hx hb dX13_next_35 rfl (lv_at hl 0 rfl) ?_
        refine mG8 C V dX13_next_36 ?_
        refine mP9 C V hS dX13_next_39 (fun S6 H locs eS6 V hS => ?_)
        have hG := gLt_e hG eS6
        refine lv_aload_n hx hb dX13_next_42 rfl (lv_at hl 0 rfl) ?_
        refine lv_aload_n hx hb dX13_next_43 rfl (lv_at hl 0 rfl) ?_
        refine mG9 C V dX13_next_44 ?_
        refine mGoQ (mRunV (As := [.int (gI S6 9)]) (rest := []) C hml V (c_byteAt l D cs o ad A S6 (gI S6 9)  (by clear hG V hS hl C hts hown hx hb hml hr hlk ih8 hm8; grind [gI_sI, gI_sJ, gI_sA, gI_sL, gJ_sI, gJ_sJ, gJ_sA, gJ_sL, gA_sI, gA_sJ, gA_sA, gA_sL, gL_sI, gL_sJ, gL_sA, gL_sL])) gM_byteAt okM_byteAt ⟨rfl, rfl, Nat.le_of_ble_eq_true rfl, Nat.le_of_ble_eq_true rfl⟩ hl.1 rfl (Nat.le_of_ble_eq_true rfl) dX13_next_47 ⟨Nat.zero_le _, Nat.zero_le _⟩) hS (fun r8 H locs hq9 V hS => ?_)
        obtain ⟨hq9, ghq9⟩ := hq9
        have hG := gLt_e hG ghq9
        refine lv_bipush (v := 59) hx hb dX13_next_50 (by decide) ?_
        refine lv_icmp_ne (tgt := 66) hx hb dX13_next_52 (by decide) (fun c10 => ?_) (fun c10 => ?_)
        · have hG := gIf_n hG c10
          have loop66 : ∀ (N66 : Nat)  (SL66 : mS) (H : Heap) (locs : List Loc) (ls : Array Slot), (0 ≤ gI SL66 8 ∧ gI S 9 ≤ gI SL66 8 ∧ gI SL66 8 ≤ gI SL66 9 ∧ gI SL66 9 ≤ gI S 7 ∧ (gI SL66 8 = gI SL66 9 → gI SL66 8 < gI S 7 → gA S 1 (gI SL66 9) ≠ 32 ∧ gA S 1 (gI SL66 9) ≠ 59) ∧ (∀ k, k ≠ 8 → k ≠ 9 → gI SL66 k = gI S k) ∧ (∀ k, gJ SL66 k = gJ S k) ∧ (∀ k i, gA SL66 k i = gA S k i) ∧ (∀ k i, gL SL66 k i = gL S k i)) → ((gI S 7 - gI SL66 9).toInt.toNat) < N66 → (G_next S  = G_next_L66  N66  SL66) → mV D cs o ad A SL66 H → va_S A s.heap H locs → lv_has ls 1 [(0, .ref o)] → W p l e ({ frames := 1, cells := 0, slots := 0, locals := 21 } : Room) s m ([.ref o] : List Value).toArray below meth c H locs 0 0 (MQ below (va_Qv (fun S9 => (0 ≤ gI S9 8 ∧ gI S9 8 ≤ gI S9 9 ∧ gI S9 9 ≤ gI S9 7 ∧ gI S9 7 ≤ 1600 ∧ (gI S9 8 < gI S9 7 → gI S9 8 < gI S9 9) ∧ gI S 9 ≤ gI S9 8 ∧ (∀ k, k ≠ 8 → k ≠ 9 → gI S9 k = gI S k) ∧ (∀ k, gJ S9 k = gJ S k) ∧ (∀ k i, gA S9 k i = gA S k i) ∧ (∀ k i, gL S9 k i = gL S k i)) ∧ S9 = G_next S ) (mB D cs o ad A) A) ([.ref o] : List Value).toArray s 0 0 A) (F0 m 66 ls []) := by
            intro N66
            induction N66 with
            | zero => intro  SL66 H locs ls hi66 hm66; exact absurd hm66 (Nat.not_lt_zero _)
            | succ N66 ih66 =>
              intro  SL66 H locs ls hi66 hm66 hG V hS hl
              rw [G_next_L66] at hG
              refine lv_aload_n hx hb dX13_next_66 rfl (lv_at hl 0 rfl) ?_
              refine mG9 C V dX13_next_67 ?_
              refine lv_aload_n hx hb dX13_next_70 rfl (lv_at hl 0 rfl) ?_
              refine mG7 C V dX13_next_71 ?_
              refine lv_icmp_ge (tgt := 118) hx hb dX13_next_74 (by decide) (fun c11 => ?_) (fun c11 => ?_)
              · have hG := gIf_p hG c11
                exact mRetV C hr hlk V hS (⟨by clear hG V hS hl C hts hown hx hb hml hr hlk ih8 ih66 hm8 hm66; grind [gI_sI, gI_sJ, gI_sA, gI_sL, gJ_sI, gJ_sJ, gJ_sA, gJ_sL, gA_sI, gA_sJ, gA_sA, gA_sL, gL_sI, gL_sJ, gL_sA, gL_sL], hG.symm⟩) dX13_next_118
              · have hG := gIf_n hG c11
                refine lv_aload_n hx hb dX13_next_77 rfl (lv_at hl 0 rfl) ?_
                refine mG1 C V dX13_next_78 ?_
                refine lv_aload_n hx hb dX13_next_81 rfl (lv_at hl 0 rfl) ?_
                refine mG9 C V dX13_next_82 ?_
                refine mLd1 C V (vin (N := 1600) rfl (by clear hG V hS hl C hts hown hx hb hml hr hlk ih8 ih66 hm8 hm66; grind [gI_sI, gI_sJ, gI_sA, gI_sL, gJ_sI, gJ_sJ, gJ_sA, gJ_sL, gA_sI, gA_sJ, gA_sA, gA_sL, gL_sI, gL_sJ, gL_sA, gL_sL]) (by clear hG V hS hl C hts hown hx hb hml hr hlk ih8 ih66 hm8 hm66; grind [gI_sI, gI_sJ, gI_sA, gI_sL, gJ_sI, gJ_sJ, gJ_sA, gJ_sL, gA_sI, gA_sJ, gA_sA, gA_sL, gL_sI, gL_sJ, gL_sA, gL_sL])) dX13_next_85 ?_
                refine lv_bipush (v := 32) hx hb dX13_next_86 (by decide) ?_
                refine lv_icmp_eq (tgt := 118) hx hb dX13_next_88 (by decide) (fun c12 => ?_) (fun c12 => ?_)
                · have hG := gIf_p hG c12
                  exact mRetV C hr hlk V hS (⟨by clear hG V hS hl C hts hown hx hb hml hr hlk ih8 ih66 hm8 hm66; grind [gI_sI, gI_sJ, gI_sA, gI_sL, gJ_sI, gJ_sJ, gJ_sA, gJ_sL, gA_sI, gA_sJ, gA_sA, gA_sL, gL_sI, gL_sJ, gL_sA, gL_sL], hG.symm⟩) dX13_next_118
                · have hG := gIf_n hG c12
                  refine lv_aload_n hx hb dX13_next_91 rfl (lv_at hl 0 rfl) ?_
                  refine mG1 C V dX13_next_92 ?_
                  refine lv_aload_n hx hb dX13_next_95 rfl (lv_at hl 0 rfl) ?_
                  refine mG9 C V dX13_next_96 ?_
                  refine mLd1 C V (vin (N := 1600) rfl (by clear hG V hS hl C hts hown hx hb hml hr hlk ih8 ih66 hm8 hm66; grind [gI_sI, gI_sJ, gI_sA, gI_sL, gJ_sI, gJ_sJ, gJ_sA, gJ_sL, gA_sI, gA_sJ, gA_sA, gA_sL, gL_sI, gL_sJ, gL_sA, gL_sL]) (by clear hG V hS hl C hts hown hx hb hml hr hlk ih8 ih66 hm8 hm66; grind [gI_sI, gI_sJ, gI_sA, gI_sL, gJ_sI, gJ_sJ, gJ_sA, gJ_sL, gA_sI, gA_sJ, gA_sA, gA_sL, gL_sI, gL_sJ, gL_sA, gL_sL])) dX13_next_99 ?_
                  refine lv_bipush (v := 59) hx hb dX13_next_100 (by decide) ?_
                  refine lv_icmp_eq (tgt := 118) hx hb dX13_next_102 (by decide) (fun c13 => ?_) (fun c13 => ?_)
                  · have hG := gIf_p hG c13
                    exact mRetV C hr hlk V hS (⟨by clear hG V hS hl C hts hown hx hb hml hr hlk ih8 ih66 hm8 hm66; grind [gI_sI, gI_sJ, gI_sA, gI_sL, gJ_sI, gJ_sJ, gJ_sA, gJ_sL, gA_sI, gA_sJ, gA_sA, gA_sL, gL_sI, gL_sJ, gL_sA, gL_sL], hG.symm⟩) dX13_next_118
                  · have hG := gIf_n hG c13
                    refine lv_aload_n hx hb dX13_next_105 rfl (lv_at hl 0 rfl) ?_
                    refine lv_dup hx hb dX13_next_106 rfl ?_
                    refine mG9 C V dX13_next_107 ?_
                    refine lv_iconst (v := 1) hx hb dX13_next_110 (by decide) ?_
                    refine lv_iadd hx hb dX13_next_111 ?_
                    refine mP9 C V hS dX13_next_112 (fun S14 H locs eS14 V hS => ?_)
                    have hG := gLt_e hG eS14
                    refine lv_goto (tgt := 66) hx hb dX13_next_115 (by decide) ?_
                    exact ih66  S14 _ _ _ (by clear hG V hS hl C hts hown hx hb hml hr hlk ih8 ih66 hm8 hm66; grind [gI_sI, gI_sJ, gI_sA, gI_sL, gJ_sI, gJ_sJ, gJ_sA, gJ_sL, gA_sI, gA_sJ, gA_sA, gA_sL, gL_sI, gL_sJ, gL_sA, gL_sL]) (msd hm66 (by clear hG V hS hl C hts hown hx hb hml hr hlk ih8 ih66 hm8 hm66; grind [gI_sI, gI_sJ, gI_sA, gI_sL, gJ_sI, gJ_sJ, gJ_sA, gJ_sL, gA_sI, gA_sJ, gA_sA, gA_sL, gL_sI, gL_sJ, gL_sA, gL_sL]) (by clear hG V hS hl C hts hown hx hb hml hr hlk ih8 ih66 hm8 hm66; grind [gI_sI, gI_sJ, gI_sA, gI_sL, gJ_sI, gJ_sJ, gJ_sA, gJ_sL, gA_sI, gA_sJ, gA_sA, gA_sL, gL_sI, gL_sJ, gL_sA, gL_sL])) hG V hS (lv_sub hl [0] rfl)
          exact loop66 ((gI S 7 - gI S6 9).toInt.toNat + 1)  S6 _ _ _ (by clear hG V hS hl C hts hown hx hb hml hr hlk ih8 hm8; grind [gI_sI, gI_sJ, gI_sA, gI_sL, gJ_sI, gJ_sJ, gJ_sA, gJ_sL, gA_sI, gA_sJ, gA_sA, gA_sL, gL_sI, gL_sJ, gL_sA, gL_sL]) (Nat.lt_succ_self _) hG V hS (lv_sub hl [0] rfl)
        · have hG := gIf_p hG c10
          refine lv_aload_n hx hb dX13_next_55 rfl (lv_at hl 0 rfl) ?_
          refine lv_dup hx hb dX13_next_56 rfl ?_
          refine mG9 C V dX13_next_57 ?_
          refine lv_iconst (v := 1) hx hb dX13_next_60 (by decide) ?_
          refine lv_iadd hx hb dX13_next_61 ?_
          refine mP9 C V hS dX13_next_62 (fun S15 H locs eS15 V hS => ?_)
          have hG := gLt_e hG eS15
          exact mRetV C hr hlk V hS (⟨by clear hG V hS hl C hts hown hx hb hml hr hlk ih8 hm8; grind [gI_sI, gI_sJ, gI_sA, gI_sL, gJ_sI, gJ_sJ, gJ_sA, gJ_sL, gA_sI, gA_sJ, gA_sA, gA_sL, gL_sI, gL_sJ, gL_sA, gL_sL], hG.symm⟩) dX13_next_65
      · have hG := gIf_p hG c5
        refine lv_aload_n hx hb dX13_next_21 rfl (lv_at hl 0 rfl) ?_
        refine lv_dup hx hb dX13_next_22 rfl ?_
        refine mG8 C V dX13_next_23 ?_
        refine lv_iconst (v := 1) hx hb dX13_next_26 (by decide) ?_
        refine lv_iadd hx hb dX13_next_27 ?_
        refine mP8 C V hS dX13_next_28 (fun S16 H locs eS16 V hS => ?_)
        have hG := gLt_e hG eS16
        refine lv_goto (tgt := 8) hx hb dX13_next_31 (by decide) ?_
        exact ih8  S16 _ _ _ (by clear hG V hS hl C hts hown hx hb hml hr hlk ih8 hm8; grind [gI_sI, gI_sJ, gI_sA, gI_sL, gJ_sI, gJ_sJ, gJ_sA, gJ_sL, gA_sI, gA_sJ, gA_sA, gA_sL, gL_sI, gL_sJ, gL_sA, gL_sL]) (msd hm8 (by clear hG V hS hl C hts hown hx hb hml hr hlk ih8 hm8; grind [gI_sI, gI_sJ, gI_sA, gI_sL, gJ_sI, gJ_sJ, gJ_sA, gJ_sL, gA_sI, gA_sJ, gA_sA, gA_sL, gL_sI, gL_sJ, gL_sA, gL_sL]) (by clear hG V hS hl C hts hown hx hb hml hr hlk ih8 hm8; grind [gI_sI, gI_sJ, gI_sA, gI_sL, gJ_sI, gJ_sJ, gJ_sA, gJ_sL, gA_sI, gA_sJ, gA_sA, gA_sL, gL_sI, gL_sJ, gL_sA, gL_sL])) hG V hS (lv_sub hl [0] rfl)
  exact loop8 ((gI S 7 - gI S1 8).toInt.toNat + 1)  S1 _ _ _ (by clear hG V hS hl C hts hown hx hb hml hr hlk; subst_vars; grind [gI_sI, gI_sJ, gI_sA, gI_sL, gJ_sI, gJ_sJ, gJ_sA, gJ_sL, gA_sI, gA_sJ, gA_sA, gA_sL, gL_sI, gL_sJ, gL_sA, gL_sL]) (Nat.lt_succ_self _) hG V hS (lv_sub hl [0] rfl)
def G_word_L75 (S : mS) (v46_1 : Int64) : Nat → Int32 → Int32
  | 0, v75_3 => (0 : Int32)
  | N75 + 1, v75_3 => if 34 ≤ (v75_3 : Int32) then (((-1) : Int32)) else (if ((lg_cmp (gL S 4 v75_3) v46_1) : Int32) = 0 then ((v75_3 : Int32)) else (gLt (v75_3 + (1) : Int32) (fun x6 => G_word_L75 S v46_1 N75 x6 )))
def G_word_L46 (S : mS) : Nat → Int64 → Int32 → Int32
  | 0, v46_1, v46_3 => (0 : Int32)
  | N46 + 1, v46_1, v46_3 => if (gI S 9) ≤ (v46_3 : Int32) then (gLt (0 : Int32) (fun x3 => G_word_L75 S v46_1 ((34 - x3).toInt.toNat + 1) x3 )) else (gLt ((v46_1 : Int64) <<< (Int32.toInt64 8 &&& 63) : Int64) (fun x7 => gLt ((x7 ||| (Int32.toInt64 (gA S 1 v46_3))) : Int64) (fun x8 => gLt (v46_3 + (1) : Int32) (fun x9 => G_word_L46 S N46 x8 x9 ))))
def G_word_J41 (S : mS) (j41_1 : Int64) : Int32 := gLt ((gI S 8) : Int32) (fun x1 => G_word_L46 S ((gI S 9 - x1).toInt.toNat + 1) j41_1 x1 )
def G_word (S : mS)  : Int32 := gLt (0 : Int64) (fun x10 => if 7 < (((gI S 9) - (gI S 8)) : Int32) then (((-1) : Int32)) else (if ((gI S 9) : Int32) ≤ (gI S 8) then (G_word_J41 S x10 ) else (if ((gA S 1 (gI S 8)) : Int32) = 0 then (((-1) : Int32)) else (G_word_J41 S x10 ))))
set_option maxHeartbeats 400000 in
set_option maxRecDepth 100000 in
theorem j_word_41 {p : Program} {e : Env} {s : State} {m : MethodId} {below : List Frame} {meth : Method} {c : Code} (l : Launch) (D : va_G) (cs : ClassId × ClassId × ClassId) (o : Nat) (ad : Nat → Nat) (A : Nat → Prop) (S : mS)   (h1 : 0 ≤ gI S 8 ∧ gI S 8 ≤ gI S 9 ∧ gI S 9 ≤ gI S 7 ∧ gI S 7 ≤ 1600 ∧ (gI S 8 < gI S 7 → gI S 8 < gI S 9)) (C : mC p s m ([.ref o] : List Value).toArray c cX13_word D cs) (hml : c.maxLocals = 4) (hr : meth.sig.returnType = (some .int)) (hlk : meth.locks = false) (j41_1 : Int64)  (H : Heap) (locs : List Loc) (ls : Array Slot) (hj41 : True) (hG : G_word S  = G_word_J41 S j41_1) (V : mV D cs o ad A S H) (hS : va_S A s.heap H locs) (hl : lv_has ls 4 [(0, .ref o), (1, .long j41_1)]) : W p l e ({ frames := 0, cells := 0, slots := 0, locals := 0 } : Room) s m ([.ref o] : List Value).toArray below meth c H locs 0 0 (MQ below (va_Qi (fun r9 S9 => (S9 = S ∧ -1 ≤ r9 ∧ r9 < 34) ∧ r9 = G_word S ) (mB D cs o ad A) A) ([.ref o] : List Value).toArray s 0 0 A) (F0 m 41 ls []) := by
  have hx := C.1
  have hb := C.2.1
  have hown := C.2.2.1
  have hts := C.2.2.2.1
  rw [G_word_J41] at hG
  refine lv_aload_n hx hb dX13_word_41 rfl (lv_at hl 0 rfl) ?_
  refine mG8 C V dX13_word_42 ?_
  refine lv_topi (fun x1 ex1 => ?_)
  have hG := gLt_e hG ex1
  refine lv_istore_n (lv' := [(3, .int x1), (0, .ref o), (1, .long j41_1)]) hx hb dX13_word_45 rfl hl (by decide) rfl (fun ls hl => ?_)
  have loop46 : ∀ (N46 : Nat) (v46_1 : Int64) (v46_3 : Int32)  (H : Heap) (locs : List Loc) (ls : Array Slot), (0 ≤ v46_3 ∧ v46_3 ≤ gI S 9) → ((gI S 9 - v46_3).toInt.toNat) < N46 → (G_word S  = G_word_L46 S N46 v46_1 v46_3) → mV D cs o ad A S H → va_S A s.heap H locs → lv_has ls 4 [(0, .ref o), (1, .long v46_1), (3, .int v46_3)] → W p l e ({ frames := 0, cells := 0, slots := 0, locals := 0 } : Room) s m ([.ref o] : List Value).toArray below meth c H locs 0 0 (MQ below (va_Qi (fun r9 S9 => (S9 = S ∧ -1 ≤ r9 ∧ r9 < 34) ∧ r9 = G_word S ) (mB D cs o ad A) A) ([.ref o] : List Value).toArray s 0 0 A) (F0 m 46 ls []) := by
    intro N46
    induction N46 with
    | zero => intro v46_1 v46_3  H locs ls hi46 hm46; exact absurd hm46 (Nat.not_lt_zero _)
    | succ N46 ih46 =>
      intro v46_1 v46_3  H locs ls hi46 hm46 hG V hS hl
      rw [G_word_L46] at hG
      refine lv_iload_n hx hb dX13_word_46 rfl (lv_at hl 2 rfl) ?_
      refine lv_aload_n hx hb dX13_word_47 rfl (lv_at hl 0 rfl) ?_
      refine mG9 C V dX13_word_48 ?_
      refine lv_icmp_ge (tgt := 73) hx hb dX13_word_51 (by decide) (fun c2 => ?_) (fun c2 => ?_)
      · have hG := gIf_p hG c2
        refine lv_iconst (v := 0) hx hb dX13_word_73 (by decide) ?_
        refine lv_topi (fun x3 ex3 => ?_)
        have hG := gLt_e hG ex3
        refine lv_istore_n (lv' := [(3, .int x3), (0, .ref o), (1, .long v46_1)]) hx hb dX13_word_74 rfl hl (by decide) rfl (fun ls hl => ?_)
        have loop75 : ∀ (N75 : Nat) (v75_3 : Int32)  (H : Heap) (locs : List Loc) (ls : Array Slot), (0 ≤ v75_3 ∧ v75_3 ≤ 34) → ((34 - v75_3).toInt.toNat) < N75 → (G_word S  = G_word_L75 S v46_1 N75 v75_3) → mV D cs o ad A S H → va_S A s.heap H locs → lv_has ls 4 [(0, .ref o), (1, .long v46_1), (3, .int v75_3)] → W p l e ({ frames := 0, cells := 0, slots := 0, locals := 0 } : Room) s m ([.ref o] : List Value).toArray below meth c H locs 0 0 (MQ below (va_Qi (fun r9 S9 => (S9 = S ∧ -1 ≤ r9 ∧ r9 < 34) ∧ r9 = G_word S ) (mB D cs o ad A) A) ([.ref o] : List Value).toArray s 0 0 A) (F0 m 75 ls []) := by
          intro N75
          induction N75 with
          | zero => intro v75_3  H locs ls hi75 hm75; exact absurd hm75 (Nat.not_lt_zero _)
          | succ N75 ih75 =>
            intro v75_3  H locs ls hi75 hm75 hG V hS hl
            rw [G_word_L75] at hG
            refine lv_iload_n hx hb dX13_word_75 rfl (lv_at hl 2 rfl) ?_
            refine lv_bipush (v := 34) hx hb dX13_word_76 (by decide) ?_
            refine lv_icmp_ge (tgt := 100) hx hb dX13_word_78 (by decide) (fun c4 => ?_) (fun c4 => ?_)
            · have hG := gIf_p hG c4
              refine lv_iconst (v := (-1)) hx hb dX13_word_100 (by decide) ?_
              exact mRetI C hr hlk V hS (⟨⟨rfl, by grind⟩, hG.symm⟩) dX13_word_101
            · have hG := gIf_n hG c4
              refine lv_aload_n hx hb dX13_word_81 rfl (lv_at hl 0 rfl) ?_
              refine mG4 C V dX13_word_82 ?_
              refine lv_iload_n hx hb dX13_word_85 rfl (lv_at hl 2 rfl) ?_
              refine mLd4 C V (vin (N := 34) rfl (by clear hG V hS hl C hts hown hx hb hml hr hlk ih46 ih75 hm46 hm75; grind) (by clear hG V hS hl C hts hown hx hb hml hr hlk ih46 ih75 hm46 hm75; grind)) dX13_word_86 ?_
              refine lv_lload_n hx hb dX13_word_87 rfl (lv_at hl 1 rfl) ?_
              refine W.lcmp hx hb dX13_word_88 ?_
              refine lv_if_ne (tgt := 94) hx hb dX13_word_89 (by decide) (fun c5 => ?_) (fun c5 => ?_)
              · have hG := gIf_n hG c5
                obtain ⟨x6, ex6⟩ : ∃ y : Int32, y = v75_3 + (1) := ⟨_, rfl⟩
                have hG := gLt_e hG ex6
                refine lv_iinc (v := x6) (lv' := [(3, .int x6), (0, .ref o), (1, .long v46_1)]) hx hb dX13_word_94 hl (k := 2) rfl (by rw [ex6]; rfl) (by decide) rfl (fun ls hl => ?_)
                refine lv_goto (tgt := 75) hx hb dX13_word_97 (by decide) ?_
                exact ih75 x6  _ _ _ (by clear hG V hS hl C hts hown hx hb hml hr hlk ih46 ih75 hm46 hm75; subst_vars; grind) (msd hm75 (by clear hG V hS hl C hts hown hx hb hml hr hlk ih46 ih75 hm46 hm75; subst_vars; grind) (by clear hG V hS hl C hts hown hx hb hml hr hlk ih46 ih75 hm46 hm75; subst_vars; grind)) hG V hS (lv_sub hl [1, 2, 0] rfl)
              · have hG := gIf_p hG c5
                refine lv_iload_n hx hb dX13_word_92 rfl (lv_at hl 2 rfl) ?_
                exact mRetI C hr hlk V hS (⟨⟨rfl, by grind⟩, hG.symm⟩) dX13_word_93
        exact loop75 ((34 - x3).toInt.toNat + 1) x3  _ _ _ (by clear hG V hS hl C hts hown hx hb hml hr hlk ih46 hm46; subst_vars; grind) (Nat.lt_succ_self _) hG V hS (lv_sub hl [1, 2, 0] rfl)
      · have hG := gIf_n hG c2
        refine lv_lload_n hx hb dX13_word_54 rfl (lv_at hl 1 rfl) ?_
        refine lv_bipush (v := 8) hx hb dX13_word_55 (by decide) ?_
        refine lv_lshl hx hb dX13_word_57 rfl ?_
        refine lv_topl (fun x7 ex7 => ?_)
        have hG := gLt_e hG ex7
        refine lv_aload_n hx hb dX13_word_58 rfl (lv_at hl 0 rfl) ?_
        refine mG1 C V dX13_word_59 ?_
        refine lv_iload_n hx hb dX13_word_62 rfl (lv_at hl 2 rfl) ?_
        refine mLd1 C V (vin (N := 1600) rfl (by clear hG V hS hl C hts hown hx hb hml hr hlk ih46 hm46; grind) (by clear hG V hS hl C hts hown hx hb hml hr hlk ih46 hm46; grind)) dX13_word_63 ?_
        refine lv_i2l hx hb dX13_word_64 rfl ?_
        refine lv_lor hx hb dX13_word_65 ?_
        refine lv_topl (fun x8 ex8 => ?_)
        have hG := gLt_e hG ex8
        refine lv_lstore_n (lv' := [(1, .long x8), (0, .ref o), (3, .int v46_3)]) hx hb dX13_word_66 rfl hl (by decide) rfl (fun ls hl => ?_)
        obtain ⟨x9, ex9⟩ : ∃ y : Int32, y = v46_3 + (1) := ⟨_, rfl⟩
        have hG := gLt_e hG ex9
        refine lv_iinc (v := x9) (lv' := [(3, .int x9), (1, .long x8), (0, .ref o)]) hx hb dX13_word_67 hl (k := 2) rfl (by rw [ex9]; rfl) (by decide) rfl (fun ls hl => ?_)
        refine lv_goto (tgt := 46) hx hb dX13_word_70 (by decide) ?_
        exact ih46 x8 x9  _ _ _ (by clear hG V hS hl C hts hown hx hb hml hr hlk ih46 hm46; subst_vars; grind) (msd hm46 (by clear hG V hS hl C hts hown hx hb hml hr hlk ih46 hm46; subst_vars; grind) (by clear hG V hS hl C hts hown hx hb hml hr hlk ih46 hm46; subst_vars; grind)) hG V hS (lv_sub hl [2, 1, 0] rfl)
  exact loop46 ((gI S 9 - x1).toInt.toNat + 1) j41_1 x1  _ _ _ (by clear hG V hS hl C hts hown hx hb hml hr hlk; subst_vars; grind) (Nat.lt_succ_self _) hG V hS (lv_sub hl [1, 2, 0] rfl)
set_option maxHeartbeats 400000 in
set_option maxRecDepth 100000 in
theorem c_word (l : Launch) (D : va_G) (cs : ClassId × ClassId × ClassId) (o : Nat) (ad : Nat → Nat) (A : Nat → Prop) (S : mS)   (h1 : 0 ≤ gI S 8 ∧ gI S 8 ≤ gI S 9 ∧ gI S 9 ≤ gI S 7 ∧ gI S 7 ≤ 1600 ∧ (gI S 8 < gI S 7 → gI S 8 < gI S 9)) : Met l yX13_word (Cond.code yX13_word cX13_word 4 (some .int) :: tM) ({ frames := 0, cells := 0, slots := 0, locals := 0 }) (va_Pc [.ref o] (mB D cs o ad A S)) (va_Qi (fun r9 S9 => (S9 = S ∧ -1 ≤ r9 ∧ r9 < 34) ∧ r9 = G_word S ) (mB D cs o ad A) A) 0 0 A := by
  refine mMet (by decide) rfl (Nat.le_of_ble_eq_true rfl) ?_
  intro p e s m below meth c ls C hml hr hlk V hl
  have hx := C.1
  have hb := C.2.1
  have hown := C.2.2.1
  have hts := C.2.2.2.1
  have hS : va_S A s.heap s.heap [] := va_S.rf
  have hl : lv_has ls 4 [(0, .ref o)] := hl
  have hG := G_word.eq_1 S 
  refine lv_lconst (v := 0) hx hb dX13_word_0 (by decide) ?_
  refine lv_topl (fun x10 ex10 => ?_)
  have hG := gLt_e hG ex10
  refine lv_lstore_n (lv' := [(1, .long x10), (0, .ref o)]) hx hb dX13_word_1 rfl hl (by decide) rfl (fun ls hl => ?_)
  refine lv_aload_n hx hb dX13_word_2 rfl (lv_at hl 1 rfl) ?_
  refine mG9 C V dX13_word_3 ?_
  refine lv_aload_n hx hb dX13_word_6 rfl (lv_at hl 1 rfl) ?_
  refine mG8 C V dX13_word_7 ?_
  refine lv_isub hx hb dX13_word_10 ?_
  refine lv_bipush (v := 7) hx hb dX13_word_11 (by decide) ?_
  refine lv_icmp_gt (tgt := 39) hx hb dX13_word_13 (by decide) (fun c11 => ?_) (fun c11 => ?_)
  · have hG := gIf_p hG c11
    refine lv_iconst (v := (-1)) hx hb dX13_word_39 (by decide) ?_
    exact mRetI C hr hlk V hS (⟨⟨rfl, by grind⟩, hG.symm⟩) dX13_word_40
  · have hG := gIf_n hG c11
    refine lv_aload_n hx hb dX13_word_16 rfl (lv_at hl 1 rfl) ?_
    refine mG9 C V dX13_word_17 ?_
    refine lv_aload_n hx hb dX13_word_20 rfl (lv_at hl 1 rfl) ?_
    refine mG8 C V dX13_word_21 ?_
    refine lv_icmp_le (tgt := 41) hx hb dX13_word_24 (by decide) (fun c12 => ?_) (fun c12 => ?_)
    · have hG := gIf_p hG c12
      exact j_word_41 l D cs o ad A S  h1 C hml hr hlk x10  _ _ _ (trivial) hG V hS (lv_sub hl [1, 0] rfl)
    · have hG := gIf_n hG c12
      refine lv_aload_n hx hb dX13_word_27 rfl (lv_at hl 1 rfl) ?_
      refine mG1 C V dX13_word_28 ?_
      refine lv_aload_n hx hb dX13_word_31 rfl (lv_at hl 1 rfl) ?_
      refine mG8 C V dX13_word_32 ?_
      refine mLd1 C V (vin (N := 1600) rfl (by clear hG V hS hl C hts hown hx hb hml hr hlk; grind) (by clear hG V hS hl C hts hown hx hb hml hr hlk; grind)) dX13_word_35 ?_
      refine lv_if_ne (tgt := 41) hx hb dX13_word_36 (by decide) (fun c13 => ?_) (fun c13 => ?_)
      · have hG := gIf_n hG c13
        exact j_word_41 l D cs o ad A S  h1 C hml hr hlk x10  _ _ _ (trivial) hG V hS (lv_sub hl [1, 0] rfl)
      · have hG := gIf_p hG c13
        refine lv_iconst (v := (-1)) hx hb dX13_word_39 (by decide) ?_
        exact mRetI C hr hlk V hS (⟨⟨rfl, by grind⟩, hG.symm⟩) dX13_word_40

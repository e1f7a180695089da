def G_step (S : mS) (t : Int32) : Int32 × mS := gLt (G_in S t 0 7 : Int32) (fun r2 => if (r2 : Int32) = 0 then (gC (G_refuse S 1) (fun r11 S10 => ((r11 : Int32), S10))) else (gLt (sI S 0 0 : mS) (fun S5 => if ((gA S5 13 t) : Int32) = 1 then (gLt (G_one S5 t : mS) (fun S7 => (((gA S7 13 t) : Int32), S7))) else ((((gA S5 13 t) : Int32), S5)))))
set_option maxHeartbeats 400000 in
set_option maxRecDepth 100000 in
theorem c_step (l : Launch) (D : va_G) (cs : ClassId × ClassId × ClassId) (o : Nat) (ad : Nat → Nat) (A : Nat → Prop) (S : mS) (t : Int32)  (h1 : mInv S) : Met l yX13_step (Cond.code yX13_step cX13_step 2 (some .int) :: tM) ({ frames := 7, cells := 0, slots := 0, locals := 167 }) (va_Pc [.ref o, .int t] (mB D cs o ad A S)) (va_Qi (fun r9 S9 => (mInv S9 ∧ gI S9 2 = gI S 2) ∧ (r9, S9) = G_step S t) (mB D cs o ad A) A) 0 0 A := by
  refine mMet (by decide) rfl (Nat.le_of_ble_eq_true rfl) ?_
  intro p e s m below meth c ls C hml hr hlk V hl
  have hx := C.1
  have hb := C.2.1
  have hown := C.2.2.1
  have hts := C.2.2.2.1
  have hS : va_S A s.heap s.heap [] := va_S.rf
  have hl : lv_has ls 2 [(0, .ref o), (1, .int t)] := hl
  have hG := G_step.eq_1 S t
  refine lv_iload_n hx hb dX13_step_0 rfl (lv_at hl 1 rfl) ?_
  refine lv_iconst (v := 0) hx hb dX13_step_1 (by decide) ?_
  refine lv_bipush (v := 7) hx hb dX13_step_2 (by decide) ?_
  refine mGoQ (mRunS (As := [.int t, .int 0, .int 7]) (rest := []) C hml V (c_in l D cs o ad A S t 0 7  ) gM_in okM_in ⟨rfl, rfl, Nat.le_of_ble_eq_true rfl, Nat.le_of_ble_eq_true rfl⟩ hl.1 rfl (Nat.le_of_ble_eq_true rfl) dX13_step_4 ⟨Nat.zero_le _, Nat.zero_le _⟩) hS (fun r2 H locs hq3 V hS => ?_)
  obtain ⟨hq3, ghq3⟩ := hq3
  replace hG := gLt_e hG ghq3
  refine lv_if_ne (tgt := 16) hx hb dX13_step_7 (by decide) (fun c4 => ?_) (fun c4 => ?_)
  · replace hG := gIf_n hG c4
    have ht : 0 ≤ t ∧ t < 8 := t8 (in_y hq3 c4)
    refine lv_aload_n hx hb dX13_step_16 rfl (lv_at hl 0 rfl) ?_
    refine lv_iconst (v := 0) hx hb dX13_step_17 (by decide) ?_
    refine mP0 C V hS dX13_step_18 (fun S5 H locs eS5 V hS => ?_)
    replace hG := gLt_e hG eS5
    have p1 := pb_I h1 eS5 (by decide) (by decide)
    refine lv_aload_n hx hb dX13_step_21 rfl (lv_at hl 0 rfl) ?_
    refine mG13 C V dX13_step_22 ?_
    refine lv_iload_n hx hb dX13_step_25 rfl (lv_at hl 1 rfl) ?_
    refine mLd13 C V (vin (N := 8) rfl (ht.1) (ht.2)) dX13_step_26 ?_
    refine lv_iconst (v := 1) hx hb dX13_step_27 (by decide) ?_
    refine lv_icmp_ne (tgt := 36) hx hb dX13_step_28 (by decide) (fun c6 => ?_) (fun c6 => ?_)
    · replace hG := gIf_n hG c6
      refine lv_aload_n hx hb dX13_step_36 rfl (lv_at hl 0 rfl) ?_
      refine mG13 C V dX13_step_37 ?_
      refine lv_iload_n hx hb dX13_step_40 rfl (lv_at hl 1 rfl) ?_
      refine mLd13 C V (vin (N := 8) rfl (ht.1) (ht.2)) dX13_step_41 ?_
      exact mRetI C hr hlk V hS (⟨by clear hG V hS hl C hts hown hx hb hml hr hlk; first | exact pb_t p1 nope9 | exact p1, hG.symm⟩) dX13_step_42
    · replace hG := gIf_p hG c6
      refine lv_aload_n hx hb dX13_step_31 rfl (lv_at hl 0 rfl) ?_
      refine lv_iload_n hx hb dX13_step_32 rfl (lv_at hl 1 rfl) ?_
      refine mGoV (mRunV (As := [.int t]) (rest := []) C hml V (c_one l D cs o ad A S5 t  (ht) (p1.1) (c6)) gM_one okM_one ⟨rfl, rfl, Nat.le_of_ble_eq_true rfl, Nat.le_of_ble_eq_true rfl⟩ hl.1 rfl (Nat.le_of_ble_eq_true rfl) dX13_step_33 ⟨Nat.zero_le _, Nat.zero_le _⟩) hS (fun S7 H locs hq9 V hS => ?_)
      obtain ⟨hq9, ghq9⟩ := hq9
      replace hG := gLt_e hG ghq9
      refine lv_aload_n hx hb dX13_step_36 rfl (lv_at hl 0 rfl) ?_
      refine mG13 C V dX13_step_37 ?_
      refine lv_iload_n hx hb dX13_step_40 rfl (lv_at hl 1 rfl) ?_
      refine mLd13 C V (vin (N := 8) rfl (ht.1) (ht.2)) dX13_step_41 ?_
      exact mRetI C hr hlk V hS (⟨by clear hG V hS hl C hts hown hx hb hml hr hlk; first | exact pb_t p1 hq9 | exact p1, hG.symm⟩) dX13_step_42
  · replace hG := gIf_p hG c4
    refine lv_aload_n hx hb dX13_step_10 rfl (lv_at hl 0 rfl) ?_
    refine lv_iconst (v := 1) hx hb dX13_step_11 (by decide) ?_
    refine mGoI (mRunV (As := [.int 1]) (rest := []) C hml V (c_refuse l D cs o ad A S 1  ) gM_refuse okM_refuse ⟨rfl, rfl, Nat.le_of_ble_eq_true rfl, Nat.le_of_ble_eq_true rfl⟩ hl.1 rfl (Nat.le_of_ble_eq_true rfl) dX13_step_12 ⟨Nat.zero_le _, Nat.zero_le _⟩) hS (fun r11 S10 H locs hq12 V hS => ?_)
    obtain ⟨hq12, ghq12⟩ := hq12
    replace hG := gC_e hG ghq12
    exact mRetI C hr hlk V hS (⟨pb_I h1 hq12.2 (by clear hG V hS hl C hts hown hx hb hml hr hlk; decide) (by clear hG V hS hl C hts hown hx hb hml hr hlk; decide), hG.symm⟩) dX13_step_15
def G_tick_L30  : Nat → Int32 → Int32 → mS → Int32 × mS
  | 0, v30_2, v30_3, SL30 => ((0 : Int32), SL30)
  | N30 + 1, v30_2, v30_3, SL30 => if 8 ≤ (v30_3 : Int32) then (((v30_2 : Int32), SL30)) else (if ((gA SL30 13 v30_3) : Int32) = 3 then (if ((lg_cmp (gL SL30 23 v30_3) (gJ SL30 24)) : Int32) ≤ 0 then (gLt (G_goesOn SL30 v30_3 : mS) (fun S10 => gLt (v30_2 + (1) : Int32) (fun x13 => gLt (v30_3 + (1) : Int32) (fun x14 => G_tick_L30  N30 x13 x14 S10)))) else (gLt (v30_3 + (1) : Int32) (fun x15 => G_tick_L30  N30 v30_2 x15 SL30))) else (gLt (v30_3 + (1) : Int32) (fun x8 => G_tick_L30  N30 v30_2 x8 SL30)))
def G_tick (S : mS) (n : Int32) : Int32 × mS := if 0 ≤ (n : Int32) then (gLt (sI S 0 0 : mS) (fun S2 => gLt (sJ S2 24 ((gJ S2 24) + (Int32.toInt64 n)) : mS) (fun S3 => gLt (0 : Int32) (fun x4 => gLt (0 : Int32) (fun x5 => G_tick_L30  ((8 - x5).toInt.toNat + 1) x4 x5 S3))))) else (gC (G_refuse S 1) (fun r17 S16 => ((r17 : Int32), S16)))
set_option maxHeartbeats 400000 in
set_option maxRecDepth 100000 in
theorem c_tick (l : Launch) (D : va_G) (cs : ClassId × ClassId × ClassId) (o : Nat) (ad : Nat → Nat) (A : Nat → Prop) (S : mS) (n : Int32)  (h1 : mInv S) : Met l yX13_tick (Cond.code yX13_tick cX13_tick 4 (some .int) :: tM) ({ frames := 1, cells := 0, slots := 0, locals := 21 }) (va_Pc [.ref o, .int n] (mB D cs o ad A S)) (va_Qi (fun r9 S9 => (mInv S9 ∧ gI S9 2 = gI S 2) ∧ (r9, S9) = G_tick S n) (mB D cs o ad A) A) 0 0 A := by
  refine mMet (by decide) rfl (Nat.le_of_ble_eq_true rfl) ?_
  intro p e s m below meth c ls C hml hr hlk V hl
  have hx := C.1
  have hb := C.2.1
  have hown := C.2.2.1
  have hts := C.2.2.2.1
  have hS : va_S A s.heap s.heap [] := va_S.rf
  have hl : lv_has ls 4 [(0, .ref o), (1, .int n)] := hl
  have hG := G_tick.eq_1 S n
  refine lv_iload_n hx hb dX13_tick_0 rfl (lv_at hl 1 rfl) ?_
  refine lv_if_ge (tgt := 10) hx hb dX13_tick_1 (by decide) (fun c1 => ?_) (fun c1 => ?_)
  · replace hG := gIf_p hG c1
    refine lv_aload_n hx hb dX13_tick_10 rfl (lv_at hl 0 rfl) ?_
    refine lv_iconst (v := 0) hx hb dX13_tick_11 (by decide) ?_
    refine mP0 C V hS dX13_tick_12 (fun S2 H locs eS2 V hS => ?_)
    replace hG := gLt_e hG eS2
    have p1 := pb_I h1 eS2 (by decide) (by decide)
    refine lv_aload_n hx hb dX13_tick_15 rfl (lv_at hl 0 rfl) ?_
    refine lv_dup hx hb dX13_tick_16 rfl ?_
    refine mG24 C V dX13_tick_17 ?_
    refine lv_iload_n hx hb dX13_tick_20 rfl (lv_at hl 1 rfl) ?_
    refine lv_i2l hx hb dX13_tick_21 rfl ?_
    refine lv_ladd hx hb dX13_tick_22 ?_
    refine mP24 C V hS dX13_tick_23 (fun S3 H locs eS3 V hS => ?_)
    replace hG := gLt_e hG eS3
    have p2 := pb_t p1 (pb_J p1.1 eS3)
    refine lv_iconst (v := 0) hx hb dX13_tick_26 (by decide) ?_
    refine lv_topi (fun x4 ex4 => ?_)
    replace hG := gLt_e hG ex4
    refine lv_istore_n (lv' := [(2, .int x4), (0, .ref o), (1, .int n)]) hx hb dX13_tick_27 rfl hl (by decide) rfl (fun ls hl => ?_)
    refine lv_iconst (v := 0) hx hb dX13_tick_28 (by decide) ?_
    refine lv_topi (fun x5 ex5 => ?_)
    replace hG := gLt_e hG ex5
    refine lv_istore_n (lv' := [(3, .int x5), (2, .int x4), (0, .ref o), (1, .int n)]) hx hb dX13_tick_29 rfl hl (by decide) rfl (fun ls hl => ?_)
    have loop30 : ∀ (N30 : Nat) (v30_2 : Int32) (v30_3 : Int32) (SL30 : mS) (H : Heap) (locs : List Loc) (ls : Array Slot), ((mInv SL30 ∧ gI SL30 2 = gI S 2) ∧ 0 ≤ v30_3 ∧ v30_3 ≤ 8) → ((8 - v30_3).toInt.toNat) < N30 → (G_tick S n = G_tick_L30  N30 v30_2 v30_3 SL30) → mV D cs o ad A SL30 H → va_S A s.heap H locs → lv_has ls 4 [(0, .ref o), (1, .int n), (2, .int v30_2), (3, .int v30_3)] → W p l e ({ frames := 1, cells := 0, slots := 0, locals := 21 } : Room) s m ([.ref o, .int n] : List Value).toArray below meth c H locs 0 0 (MQ below (va_Qi (fun r9 S9 => (mInv S9 ∧ gI S9 2 = gI S 2) ∧ (r9, S9) = G_tick S n) (mB D cs o ad A) A) ([.ref o, .int n] : List Value).toArray s 0 0 A) (F0 m 30 ls []) := by
      intro N30
      induction N30 with
      | zero => intro v30_2 v30_3 SL30 H locs ls hi30 hm30; exact absurd hm30 (Nat.not_lt_zero _)
      | succ N30 ih30 =>
        intro v30_2 v30_3 SL30 H locs ls hi30 hm30 hG V hS hl
        rw [G_tick_L30] at hG
        refine lv_iload_n hx hb dX13_tick_30 rfl (lv_at hl 3 rfl) ?_
        refine lv_bipush (v := 8) hx hb dX13_tick_31 (by decide) ?_
        refine lv_icmp_ge (tgt := 77) hx hb dX13_tick_33 (by decide) (fun c6 => ?_) (fun c6 => ?_)
        · replace hG := gIf_p hG c6
          refine lv_iload_n hx hb dX13_tick_77 rfl (lv_at hl 2 rfl) ?_
          exact mRetI C hr hlk V hS (⟨hi30.1, hG.symm⟩) dX13_tick_78
        · replace hG := gIf_n hG c6
          refine lv_aload_n hx hb dX13_tick_36 rfl (lv_at hl 0 rfl) ?_
          refine mG13 C V dX13_tick_37 ?_
          refine lv_iload_n hx hb dX13_tick_40 rfl (lv_at hl 3 rfl) ?_
          refine mLd13 C V (vin (N := 8) rfl (hi30.2.1) (i_lt c6)) dX13_tick_41 ?_
          refine lv_iconst (v := 3) hx hb dX13_tick_42 (by decide) ?_
          refine lv_icmp_ne (tgt := 71) hx hb dX13_tick_43 (by decide) (fun c7 => ?_) (fun c7 => ?_)
          · replace hG := gIf_n hG c7
            obtain ⟨x8, ex8⟩ : ∃ y : Int32, y = v30_3 + (1) := ⟨_, rfl⟩
            replace hG := gLt_e hG ex8
            refine lv_iinc (v := x8) (lv' := [(3, .int x8), (0, .ref o), (1, .int n), (2, .int v30_2)]) hx hb dX13_tick_71 hl (k := 3) rfl (by rw [ex8]; rfl) (by decide) rfl (fun ls hl => ?_)
            refine lv_goto (tgt := 30) hx hb dX13_tick_74 (by decide) ?_
            exact ih30 v30_2 x8 SL30 _ _ _ (by clear hG V hS hl C hts hown hx hb hml hr hlk ih30 hm30; first | exact ⟨pb_t hi30.1 (tk_g hi30.1.1 ⟨hi30.2.1, i_lt c6⟩ c7 nope9), a_up ex8 hi30.2.1 (i_lt c6)⟩ | exact ⟨hi30.1, a_up ex8 hi30.2.1 (i_lt c6)⟩) (msd hm30 (a_dec ex8 hi30.2.1 (i_lt c6)).1 (a_dec ex8 hi30.2.1 (i_lt c6)).2) hG V hS (lv_sub hl [1, 2, 3, 0] rfl)
          · replace hG := gIf_p hG c7
            refine lv_aload_n hx hb dX13_tick_46 rfl (lv_at hl 0 rfl) ?_
            refine mG23 C V dX13_tick_47 ?_
            refine lv_iload_n hx hb dX13_tick_50 rfl (lv_at hl 3 rfl) ?_
            refine mLd23 C V (vin (N := 8) rfl (hi30.2.1) (i_lt c6)) dX13_tick_51 ?_
            refine lv_aload_n hx hb dX13_tick_52 rfl (lv_at hl 0 rfl) ?_
            refine mG24 C V dX13_tick_53 ?_
            refine W.lcmp hx hb dX13_tick_56 ?_
            refine lv_if_le (tgt := 63) hx hb dX13_tick_57 (by decide) (fun c9 => ?_) (fun c9 => ?_)
            · replace hG := gIf_p hG c9
              refine lv_aload_n hx hb dX13_tick_63 rfl (lv_at hl 0 rfl) ?_
              refine lv_iload_n hx hb dX13_tick_64 rfl (lv_at hl 3 rfl) ?_
              refine mGoV (mRunV (As := [.int v30_3]) (rest := []) C hml V (c_goesOn l D cs o ad A SL30 v30_3  (⟨hi30.2.1, i_lt c6⟩)) gM_goesOn okM_goesOn ⟨rfl, rfl, Nat.le_of_ble_eq_true rfl, Nat.le_of_ble_eq_true rfl⟩ hl.1 rfl (Nat.le_of_ble_eq_true rfl) dX13_tick_65 ⟨Nat.zero_le _, Nat.zero_le _⟩) hS (fun S10 H locs hq12 V hS => ?_)
              obtain ⟨hq12, ghq12⟩ := hq12
              replace hG := gLt_e hG ghq12
              obtain ⟨x13, ex13⟩ : ∃ y : Int32, y = v30_2 + (1) := ⟨_, rfl⟩
              replace hG := gLt_e hG ex13
              refine lv_iinc (v := x13) (lv' := [(2, .int x13), (0, .ref o), (1, .int n), (3, .int v30_3)]) hx hb dX13_tick_68 hl (k := 2) rfl (by rw [ex13]; rfl) (by decide) rfl (fun ls hl => ?_)
              obtain ⟨x14, ex14⟩ : ∃ y : Int32, y = v30_3 + (1) := ⟨_, rfl⟩
              replace hG := gLt_e hG ex14
              refine lv_iinc (v := x14) (lv' := [(3, .int x14), (2, .int x13), (0, .ref o), (1, .int n)]) hx hb dX13_tick_71 hl (k := 3) rfl (by rw [ex14]; rfl) (by decide) rfl (fun ls hl => ?_)
              refine lv_goto (tgt := 30) hx hb dX13_tick_74 (by decide) ?_
              exact ih30 x13 x14 S10 _ _ _ (by clear hG V hS hl C hts hown hx hb hml hr hlk ih30 hm30; first | exact ⟨pb_t hi30.1 (tk_g hi30.1.1 ⟨hi30.2.1, i_lt c6⟩ c7 hq12), a_up ex14 hi30.2.1 (i_lt c6)⟩ | exact ⟨hi30.1, a_up ex14 hi30.2.1 (i_lt c6)⟩) (msd hm30 (a_dec ex14 hi30.2.1 (i_lt c6)).1 (a_dec ex14 hi30.2.1 (i_lt c6)).2) hG V hS (lv_sub hl [2, 3, 1, 0] rfl)
            · replace hG := gIf_n hG c9
              refine lv_goto (tgt := 71) hx hb dX13_tick_60 (by decide) ?_
              obtain ⟨x15, ex15⟩ : ∃ y : Int32, y = v30_3 + (1) := ⟨_, rfl⟩
              replace hG := gLt_e hG ex15
              refine lv_iinc (v := x15) (lv' := [(3, .int x15), (0, .ref o), (1, .int n), (2, .int v30_2)]) hx hb dX13_tick_71 hl (k := 3) rfl (by rw [ex15]; rfl) (by decide) rfl (fun ls hl => ?_)
              refine lv_goto (tgt := 30) hx hb dX13_tick_74 (by decide) ?_
              exact ih30 v30_2 x15 SL30 _ _ _ (by clear hG V hS hl C hts hown hx hb hml hr hlk ih30 hm30; first | exact ⟨pb_t hi30.1 (tk_g hi30.1.1 ⟨hi30.2.1, i_lt c6⟩ c7 nope9), a_up ex15 hi30.2.1 (i_lt c6)⟩ | exact ⟨hi30.1, a_up ex15 hi30.2.1 (i_lt c6)⟩) (msd hm30 (a_dec ex15 hi30.2.1 (i_lt c6)).1 (a_dec ex15 hi30.2.1 (i_lt c6)).2) hG V hS (lv_sub hl [1, 2, 3, 0] rfl)
    exact loop30 ((8 - x5).toInt.toNat + 1) x4 x5 S3 _ _ _ (⟨p2, by rw [ex5]; decide, by rw [ex5]; decide⟩) (Nat.lt_succ_self _) hG V hS (lv_sub hl [2, 3, 1, 0] rfl)
  · replace hG := gIf_n hG c1
    refine lv_aload_n hx hb dX13_tick_4 rfl (lv_at hl 0 rfl) ?_
    refine lv_iconst (v := 1) hx hb dX13_tick_5 (by decide) ?_
    refine mGoI (mRunV (As := [.int 1]) (rest := []) C hml V (c_refuse l D cs o ad A S 1  ) gM_refuse okM_refuse ⟨rfl, rfl, Nat.le_of_ble_eq_true rfl, Nat.le_of_ble_eq_true rfl⟩ hl.1 rfl (Nat.le_of_ble_eq_true rfl) dX13_tick_6 ⟨Nat.zero_le _, Nat.zero_le _⟩) hS (fun r17 S16 H locs hq18 V hS => ?_)
    obtain ⟨hq18, ghq18⟩ := hq18
    replace hG := gC_e hG ghq18
    exact mRetI C hr hlk V hS (⟨pb_I h1 hq18.2 (by clear hG V hS hl C hts hown hx hb hml hr hlk; decide) (by clear hG V hS hl C hts hown hx hb hml hr hlk; decide), hG.symm⟩) dX13_tick_9
def G_interrupt_J111 (t : Int32) (SJ111 : mS) : Int32 × mS := if ((gA SJ111 13 t) : Int32) = 2 then (gLt (G_leaves SJ111 (gA SJ111 16 t) t : mS) (fun S6 => gLt (sA S6 14 t ((-2)) : mS) (fun S9 => gLt (G_goesOn S9 t : mS) (fun S10 => ((1 : Int32), S10))))) else (gLt (sA SJ111 14 t ((-2)) : mS) (fun S2 => gLt (G_goesOn S2 t : mS) (fun S3 => ((1 : Int32), S3))))
def G_interrupt_J62 (t : Int32) (SJ62 : mS) : Int32 × mS := if ((gA SJ62 13 t) : Int32) = 2 then (if ((gA SJ62 22 t) : Int32) = 0 then (G_interrupt_J111 t  SJ62) else (gLt (sA SJ62 19 t ((-2)) : mS) (fun S15 => if ((gA S15 21 t) : Int32) = 0 then (((1 : Int32), S15)) else (gLt (G_signalled S15 (gA S15 16 t) t : mS) (fun S17 => ((1 : Int32), S17)))))) else (G_interrupt_J111 t  SJ62)
def G_interrupt (S : mS) (t : Int32) : Int32 × mS := gLt (G_in S t 0 7 : Int32) (fun r21 => if (r21 : Int32) = 0 then (gC (G_refuse S 1) (fun r30 S29 => ((r30 : Int32), S29))) else (gLt (sI S 0 0 : mS) (fun S24 => if ((gA S24 13 t) : Int32) = 1 then (gLt (sA S24 20 t (vp_nar .boolean 1) : mS) (fun S28 => ((1 : Int32), S28))) else (if ((gA S24 13 t) : Int32) = 2 then (G_interrupt_J62 t  S24) else (if ((gA S24 13 t) : Int32) = 3 then (G_interrupt_J62 t  S24) else (((0 : Int32), S24)))))))
set_option maxHeartbeats 400000 in
set_option maxRecDepth 100000 in
theorem j_interrupt_111 {p : Program} {e : Env} {s : State} {m : MethodId} {below : List Frame} {meth : Method} {c : Code} (l : Launch) (D : va_G) (cs : ClassId × ClassId × ClassId) (o : Nat) (ad : Nat → Nat) (A : Nat → Prop) (S : mS) (t : Int32)  (h1 : mInv S) (C : mC p s m ([.ref o, .int t] : List Value).toArray c cX13_interrupt D cs) (hml : c.maxLocals = 2) (hr : meth.sig.returnType = (some .int)) (hlk : meth.locks = false)  (SJ111 : mS) (H : Heap) (locs : List Loc) (ls : Array Slot) (hj111 : (0 ≤ t ∧ t < 8) ∧ (mInv SJ111 ∧ gI SJ111 2 = gI S 2) ∧ ((gA SJ111 13 t = 2 ∧ gA SJ111 22 t = 0) ∨ gA SJ111 13 t = 3)) (hG : G_interrupt S t = G_interrupt_J111 t  SJ111) (V : mV D cs o ad A SJ111 H) (hS : va_S A s.heap H locs) (hl : lv_has ls 2 [(0, .ref o), (1, .int t)]) : W p l e ({ frames := 4, cells := 0, slots := 0, locals := 92 } : Room) s m ([.ref o, .int t] : List Value).toArray below meth c H locs 0 0 (MQ below (va_Qi (fun r9 S9 => (mInv S9 ∧ gI S9 2 = gI S 2) ∧ (r9, S9) = G_interrupt S t) (mB D cs o ad A) A) ([.ref o, .int t] : List Value).toArray s 0 0 A) (F0 m 111 ls []) := by
  have hx := C.1
  have hb := C.2.1
  have hown := C.2.2.1
  have hts := C.2.2.2.1
  obtain ⟨ht, p1, p13⟩ := id hj111
  rw [G_interrupt_J111] at hG
  refine lv_aload_n hx hb dX13_interrupt_111 rfl (lv_at hl 0 rfl) ?_
  refine mG13 C V dX13_interrupt_112 ?_
  refine lv_iload_n hx hb dX13_interrupt_115 rfl (lv_at hl 1 rfl) ?_
  refine mLd13 C V (vin (N := 8) rfl (ht.1) (ht.2)) dX13_interrupt_116 ?_
  refine lv_iconst (v := 2) hx hb dX13_interrupt_117 (by decide) ?_
  refine lv_icmp_ne (tgt := 132) hx hb dX13_interrupt_118 (by decide) (fun c1 => ?_) (fun c1 => ?_)
  · replace hG := gIf_n hG c1
    refine lv_aload_n hx hb dX13_interrupt_132 rfl (lv_at hl 0 rfl) ?_
    refine mG14 C V dX13_interrupt_133 ?_
    refine lv_iload_n hx hb dX13_interrupt_136 rfl (lv_at hl 1 rfl) ?_
    refine lv_bipush (v := (-2)) hx hb dX13_interrupt_137 (by decide) ?_
    refine mSt14 C V hS (vin (N := 8) rfl (ht.1) (ht.2)) dX13_interrupt_139 (fun S2 H locs eS2 V hS => ?_)
    replace hG := gLt_e hG eS2
    refine lv_aload_n hx hb dX13_interrupt_140 rfl (lv_at hl 0 rfl) ?_
    refine lv_iload_n hx hb dX13_interrupt_141 rfl (lv_at hl 1 rfl) ?_
    refine mGoV (mRunV (As := [.int t]) (rest := []) C hml V (c_goesOn l D cs o ad A S2 t  (ht)) gM_goesOn okM_goesOn ⟨rfl, rfl, Nat.le_of_ble_eq_true rfl, Nat.le_of_ble_eq_true rfl⟩ hl.1 rfl (Nat.le_of_ble_eq_true rfl) dX13_interrupt_142 ⟨Nat.zero_le _, Nat.zero_le _⟩) hS (fun S3 H locs hq5 V hS => ?_)
    obtain ⟨hq5, ghq5⟩ := hq5
    replace hG := gLt_e hG ghq5
    refine lv_iconst (v := 1) hx hb dX13_interrupt_145 (by decide) ?_
    exact mRetI C hr hlk V hS (⟨by clear hG V hS hl C hts hown hx hb hml hr hlk; first | exact pb_t p1 (it_l p1.1 ht c1 (by rcases p13 with q | q; exact q.2; rw [c1] at q; exact absurd q (by decide)) nope9 eS2 hq5) | exact pb_t p1 (it_g p1.1 ht (by rcases p13 with q | q; exact absurd q.1 c1; exact q) eS2 hq5), hG.symm⟩) dX13_interrupt_146
  · replace hG := gIf_p hG c1
    refine lv_aload_n hx hb dX13_interrupt_121 rfl (lv_at hl 0 rfl) ?_
    refine lv_aload_n hx hb dX13_interrupt_122 rfl (lv_at hl 0 rfl) ?_
    refine mG16 C V dX13_interrupt_123 ?_
    refine lv_iload_n hx hb dX13_interrupt_126 rfl (lv_at hl 1 rfl) ?_
    refine mLd16 C V (vin (N := 8) rfl (ht.1) (ht.2)) dX13_interrupt_127 ?_
    refine lv_iload_n hx hb dX13_interrupt_128 rfl (lv_at hl 1 rfl) ?_
    refine mGoV (mRunV (As := [.int (gA SJ111 16 t), .int t]) (rest := []) C hml V (c_leaves l D cs o ad A SJ111 (gA SJ111 16 t) t  ((p1.1.2.1 t ht.1 ht.2).2.1 c1) (pre_lv ((p1.1.2.1 t ht.1 ht.2).2.1 c1) p1.1) (rd_lv ((p1.1.2.1 t ht.1 ht.2).2.1 c1) p1.1)) gM_leaves okM_leaves ⟨rfl, rfl, Nat.le_of_ble_eq_true rfl, Nat.le_of_ble_eq_true rfl⟩ hl.1 rfl (Nat.le_of_ble_eq_true rfl) dX13_interrupt_129 ⟨Nat.zero_le _, Nat.zero_le _⟩) hS (fun S6 H locs hq8 V hS => ?_)
    obtain ⟨hq8, ghq8⟩ := hq8
    replace hG := gLt_e hG ghq8
    refine lv_aload_n hx hb dX13_interrupt_132 rfl (lv_at hl 0 rfl) ?_
    refine mG14 C V dX13_interrupt_133 ?_
    refine lv_iload_n hx hb dX13_interrupt_136 rfl (lv_at hl 1 rfl) ?_
    refine lv_bipush (v := (-2)) hx hb dX13_interrupt_137 (by decide) ?_
    refine mSt14 C V hS (vin (N := 8) rfl (ht.1) (ht.2)) dX13_interrupt_139 (fun S9 H locs eS9 V hS => ?_)
    replace hG := gLt_e hG eS9
    refine lv_aload_n hx hb dX13_interrupt_140 rfl (lv_at hl 0 rfl) ?_
    refine lv_iload_n hx hb dX13_interrupt_141 rfl (lv_at hl 1 rfl) ?_
    refine mGoV (mRunV (As := [.int t]) (rest := []) C hml V (c_goesOn l D cs o ad A S9 t  (ht)) gM_goesOn okM_goesOn ⟨rfl, rfl, Nat.le_of_ble_eq_true rfl, Nat.le_of_ble_eq_true rfl⟩ hl.1 rfl (Nat.le_of_ble_eq_true rfl) dX13_interrupt_142 ⟨Nat.zero_le _, Nat.zero_le _⟩) hS (fun S10 H locs hq12 V hS => ?_)
    obtain ⟨hq12, ghq12⟩ := hq12
    replace hG := gLt_e hG ghq12
    refine lv_iconst (v := 1) hx hb dX13_interrupt_145 (by decide) ?_
    exact mRetI C hr hlk V hS (⟨by clear hG V hS hl C hts hown hx hb hml hr hlk; first | exact pb_t p1 (it_l p1.1 ht c1 (by rcases p13 with q | q; exact q.2; rw [c1] at q; exact absurd q (by decide)) hq8 eS9 hq12) | exact pb_t p1 (it_g p1.1 ht (by rcases p13 with q | q; exact absurd q.1 c1; exact q) eS9 hq12), hG.symm⟩) dX13_interrupt_146
set_option maxHeartbeats 400000 in
set_option maxRecDepth 100000 in
theorem j_interrupt_62 {p : Program} {e : Env} {s : State} {m : MethodId} {below : List Frame} {meth : Method} {c : Code} (l : Launch) (D : va_G) (cs : ClassId × ClassId × ClassId) (o : Nat) (ad : Nat → Nat) (A : Nat → Prop) (S : mS) (t : Int32)  (h1 : mInv S) (C : mC p s m ([.ref o, .int t] : List Value).toArray c cX13_interrupt D cs) (hml : c.maxLocals = 2) (hr : meth.sig.returnType = (some .int)) (hlk : meth.locks = false)  (SJ62 : mS) (H : Heap) (locs : List Loc) (ls : Array Slot) (hj62 : (0 ≤ t ∧ t < 8) ∧ (mInv SJ62 ∧ gI SJ62 2 = gI S 2) ∧ (gA SJ62 13 t = 2 ∨ gA SJ62 13 t = 3)) (hG : G_interrupt S t = G_interrupt_J62 t  SJ62) (V : mV D cs o ad A SJ62 H) (hS : va_S A s.heap H locs) (hl : lv_has ls 2 [(0, .ref o), (1, .int t)]) : W p l e ({ frames := 4, cells := 0, slots := 0, locals := 92 } : Room) s m ([.ref o, .int t] : List Value).toArray below meth c H locs 0 0 (MQ below (va_Qi (fun r9 S9 => (mInv S9 ∧ gI S9 2 = gI S 2) ∧ (r9, S9) = G_interrupt S t) (mB D cs o ad A) A) ([.ref o, .int t] : List Value).toArray s 0 0 A) (F0 m 62 ls []) := by
  have hx := C.1
  have hb := C.2.1
  have hown := C.2.2.1
  have hts := C.2.2.2.1
  obtain ⟨ht, p1, p13⟩ := id hj62
  rw [G_interrupt_J62] at hG
  refine lv_aload_n hx hb dX13_interrupt_62 rfl (lv_at hl 0 rfl) ?_
  refine mG13 C V dX13_interrupt_63 ?_
  refine lv_iload_n hx hb dX13_interrupt_66 rfl (lv_at hl 1 rfl) ?_
  refine mLd13 C V (vin (N := 8) rfl (ht.1) (ht.2)) dX13_interrupt_67 ?_
  refine lv_iconst (v := 2) hx hb dX13_interrupt_68 (by decide) ?_
  refine lv_icmp_ne (tgt := 111) hx hb dX13_interrupt_69 (by decide) (fun c13 => ?_) (fun c13 => ?_)
  · replace hG := gIf_n hG c13
    exact j_interrupt_111 l D cs o ad A S t h1 C hml hr hlk  SJ62 _ _ _ (⟨ht, p1, by first | exact Or.inl ⟨c13, nope9⟩ | exact Or.inr (p13.resolve_left c13)⟩) hG V hS (lv_sub hl [0, 1] rfl)
  · replace hG := gIf_p hG c13
    refine lv_aload_n hx hb dX13_interrupt_72 rfl (lv_at hl 0 rfl) ?_
    refine mG22 C V dX13_interrupt_73 ?_
    refine lv_iload_n hx hb dX13_interrupt_76 rfl (lv_at hl 1 rfl) ?_
    refine mLd22 C V (vin (N := 8) rfl (ht.1) (ht.2)) dX13_interrupt_77 ?_
    refine lv_if_eq (tgt := 111) hx hb dX13_interrupt_78 (by decide) (fun c14 => ?_) (fun c14 => ?_)
    · replace hG := gIf_p hG c14
      exact j_interrupt_111 l D cs o ad A S t h1 C hml hr hlk  SJ62 _ _ _ (⟨ht, p1, by first | exact Or.inl ⟨c13, c14⟩ | exact Or.inr (p13.resolve_left c13)⟩) hG V hS (lv_sub hl [0, 1] rfl)
    · replace hG := gIf_n hG c14
      refine lv_aload_n hx hb dX13_interrupt_81 rfl (lv_at hl 0 rfl) ?_
      refine mG19 C V dX13_interrupt_82 ?_
      refine lv_iload_n hx hb dX13_interrupt_85 rfl (lv_at hl 1 rfl) ?_
      refine lv_bipush (v := (-2)) hx hb dX13_interrupt_86 (by decide) ?_
      refine mSt19 C V hS (vin (N := 8) rfl (ht.1) (ht.2)) dX13_interrupt_88 (fun S15 H locs eS15 V hS => ?_)
      replace hG := gLt_e hG eS15
      refine lv_aload_n hx hb dX13_interrupt_89 rfl (lv_at hl 0 rfl) ?_
      refine mG21 C V dX13_interrupt_90 ?_
      refine lv_iload_n hx hb dX13_interrupt_93 rfl (lv_at hl 1 rfl) ?_
      refine mLd21 C V (vin (N := 8) rfl (ht.1) (ht.2)) dX13_interrupt_94 ?_
      refine lv_if_eq (tgt := 109) hx hb dX13_interrupt_95 (by decide) (fun c16 => ?_) (fun c16 => ?_)
      · replace hG := gIf_p hG c16
        refine lv_iconst (v := 1) hx hb dX13_interrupt_109 (by decide) ?_
        exact mRetI C hr hlk V hS (⟨by clear hG V hS hl C hts hown hx hb hml hr hlk; first | exact pb_t p1 (pb_t (pb_s (st_irr (stp_rf p1.1) eS15 (by simp [smK]))) (pb_s nope9.1)) | exact pb_t p1 (pb_s (st_irr (stp_rf p1.1) eS15 (by simp [smK]))), hG.symm⟩) dX13_interrupt_110
      · replace hG := gIf_n hG c16
        have s1 := st_irr (stp_rf p1.1) eS15 (by simp [smK])
        have z21 : gA S15 21 t ≠ 0 := c16
        have z16 := (s1.1.2.1 t ht.1 ht.2).2.1 ((s1.1.2.1 t ht.1 ht.2).2.2 z21).1
        refine lv_aload_n hx hb dX13_interrupt_98 rfl (lv_at hl 0 rfl) ?_
        refine lv_aload_n hx hb dX13_interrupt_99 rfl (lv_at hl 0 rfl) ?_
        refine mG16 C V dX13_interrupt_100 ?_
        refine lv_iload_n hx hb dX13_interrupt_103 rfl (lv_at hl 1 rfl) ?_
        refine mLd16 C V (vin (N := 8) rfl (ht.1) (ht.2)) dX13_interrupt_104 ?_
        refine lv_iload_n hx hb dX13_interrupt_105 rfl (lv_at hl 1 rfl) ?_
        refine mGoV (mRunV (As := [.int (gA S15 16 t), .int t]) (rest := []) C hml V (c_signalled l D cs o ad A S15 (gA S15 16 t) t  (z16) (s1.1) (ht) (z21) (rfl)) gM_signalled okM_signalled ⟨rfl, rfl, Nat.le_of_ble_eq_true rfl, Nat.le_of_ble_eq_true rfl⟩ hl.1 rfl (Nat.le_of_ble_eq_true rfl) dX13_interrupt_106 ⟨Nat.zero_le _, Nat.zero_le _⟩) hS (fun S17 H locs hq19 V hS => ?_)
        obtain ⟨hq19, ghq19⟩ := hq19
        replace hG := gLt_e hG ghq19
        refine lv_iconst (v := 1) hx hb dX13_interrupt_109 (by decide) ?_
        exact mRetI C hr hlk V hS (⟨by clear hG V hS hl C hts hown hx hb hml hr hlk; first | exact pb_t p1 (pb_t (pb_s (st_irr (stp_rf p1.1) eS15 (by simp [smK]))) (pb_s hq19.1)) | exact pb_t p1 (pb_s (st_irr (stp_rf p1.1) eS15 (by simp [smK]))), hG.symm⟩) dX13_interrupt_110
set_option maxHeartbeats 400000 in
set_option maxRecDepth 100000 in
theorem c_interrupt (l : Launch) (D : va_G) (cs : ClassId × ClassId × ClassId) (o : Nat) (ad : Nat → Nat) (A : Nat → Prop) (S : mS) (t : Int32)  (h1 : mInv S) : Met l yX13_interrupt (Cond.code yX13_interrupt cX13_interrupt 2 (some .int) :: tM) ({ frames := 4, cells := 0, slots := 0, locals := 92 }) (va_Pc [.ref o, .int t] (mB D cs o ad A S)) (va_Qi (fun r9 S9 => (mInv S9 ∧ gI S9 2 = gI S 2) ∧ (r9, S9) = G_interrupt S t) (mB D cs o ad A) A) 0 0 A := by
  refine mMet (by decide) rfl (Nat.le_of_ble_eq_true rfl) ?_
  intro p e s m below meth c ls C hml hr hlk V hl
  have hx := C.1
  have hb := C.2.1
  have hown := C.2.2.1
  have hts := C.2.2.2.1
  have hS : va_S A s.heap s.heap [] := va_S.rf
  have hl : lv_has ls 2 [(0, .ref o), (1, .int t)] := hl
  have hG := G_interrupt.eq_1 S t
  refine lv_iload_n hx hb dX13_interrupt_0 rfl (lv_at hl 1 rfl) ?_
  refine lv_iconst (v := 0) hx hb dX13_interrupt_1 (by decide) ?_
  refine lv_bipush (v := 7) hx hb dX13_interrupt_2 (by decide) ?_
  refine mGoQ (mRunS (As := [.int t, .int 0, .int 7]) (rest := []) C hml V (c_in l D cs o ad A S t 0 7  ) gM_in okM_in ⟨rfl, rfl, Nat.le_of_ble_eq_true rfl, Nat.le_of_ble_eq_true rfl⟩ hl.1 rfl (Nat.le_of_ble_eq_true rfl) dX13_interrupt_4 ⟨Nat.zero_le _, Nat.zero_le _⟩) hS (fun r21 H locs hq22 V hS => ?_)
  obtain ⟨hq22, ghq22⟩ := hq22
  replace hG := gLt_e hG ghq22
  refine lv_if_ne (tgt := 16) hx hb dX13_interrupt_7 (by decide) (fun c23 => ?_) (fun c23 => ?_)
  · replace hG := gIf_n hG c23
    have ht : 0 ≤ t ∧ t < 8 := t8 (in_y hq22 c23)
    refine lv_aload_n hx hb dX13_interrupt_16 rfl (lv_at hl 0 rfl) ?_
    refine lv_iconst (v := 0) hx hb dX13_interrupt_17 (by decide) ?_
    refine mP0 C V hS dX13_interrupt_18 (fun S24 H locs eS24 V hS => ?_)
    replace hG := gLt_e hG eS24
    have p1 := pb_I h1 eS24 (by decide) (by decide)
    refine lv_aload_n hx hb dX13_interrupt_21 rfl (lv_at hl 0 rfl) ?_
    refine mG13 C V dX13_interrupt_22 ?_
    refine lv_iload_n hx hb dX13_interrupt_25 rfl (lv_at hl 1 rfl) ?_
    refine mLd13 C V (vin (N := 8) rfl (ht.1) (ht.2)) dX13_interrupt_26 ?_
    refine lv_iconst (v := 1) hx hb dX13_interrupt_27 (by decide) ?_
    refine lv_icmp_ne (tgt := 40) hx hb dX13_interrupt_28 (by decide) (fun c25 => ?_) (fun c25 => ?_)
    · replace hG := gIf_n hG c25
      refine lv_aload_n hx hb dX13_interrupt_40 rfl (lv_at hl 0 rfl) ?_
      refine mG13 C V dX13_interrupt_41 ?_
      refine lv_iload_n hx hb dX13_interrupt_44 rfl (lv_at hl 1 rfl) ?_
      refine mLd13 C V (vin (N := 8) rfl (ht.1) (ht.2)) dX13_interrupt_45 ?_
      refine lv_iconst (v := 2) hx hb dX13_interrupt_46 (by decide) ?_
      refine lv_icmp_eq (tgt := 62) hx hb dX13_interrupt_47 (by decide) (fun c26 => ?_) (fun c26 => ?_)
      · replace hG := gIf_p hG c26
        exact j_interrupt_62 l D cs o ad A S t h1 C hml hr hlk  S24 _ _ _ (⟨ht, p1, by first | exact Or.inl c26 | exact Or.inr nope9⟩) hG V hS (lv_sub hl [0, 1] rfl)
      · replace hG := gIf_n hG c26
        refine lv_aload_n hx hb dX13_interrupt_50 rfl (lv_at hl 0 rfl) ?_
        refine mG13 C V dX13_interrupt_51 ?_
        refine lv_iload_n hx hb dX13_interrupt_54 rfl (lv_at hl 1 rfl) ?_
        refine mLd13 C V (vin (N := 8) rfl (ht.1) (ht.2)) dX13_interrupt_55 ?_
        refine lv_iconst (v := 3) hx hb dX13_interrupt_56 (by decide) ?_
        refine lv_icmp_eq (tgt := 62) hx hb dX13_interrupt_57 (by decide) (fun c27 => ?_) (fun c27 => ?_)
        · replace hG := gIf_p hG c27
          exact j_interrupt_62 l D cs o ad A S t h1 C hml hr hlk  S24 _ _ _ (⟨ht, p1, by first | exact Or.inl c26 | exact Or.inr c27⟩) hG V hS (lv_sub hl [0, 1] rfl)
        · replace hG := gIf_n hG c27
          refine lv_iconst (v := 0) hx hb dX13_interrupt_60 (by decide) ?_
          exact mRetI C hr hlk V hS (⟨p1, hG.symm⟩) dX13_interrupt_61
    · replace hG := gIf_p hG c25
      refine lv_aload_n hx hb dX13_interrupt_31 rfl (lv_at hl 0 rfl) ?_
      refine mG20 C V dX13_interrupt_32 ?_
      refine lv_iload_n hx hb dX13_interrupt_35 rfl (lv_at hl 1 rfl) ?_
      refine lv_iconst (v := 1) hx hb dX13_interrupt_36 (by decide) ?_
      refine mSt20 C V hS (vin (N := 8) rfl (ht.1) (ht.2)) dX13_interrupt_37 (fun S28 H locs eS28 V hS => ?_)
      replace hG := gLt_e hG eS28
      refine lv_iconst (v := 1) hx hb dX13_interrupt_38 (by decide) ?_
      exact mRetI C hr hlk V hS (⟨pb_t p1 (pb_s (st_irr (stp_rf p1.1) eS28 (by clear hG V hS hl C hts hown hx hb hml hr hlk; simp [smK]))), hG.symm⟩) dX13_interrupt_39
  · replace hG := gIf_p hG c23
    refine lv_aload_n hx hb dX13_interrupt_10 rfl (lv_at hl 0 rfl) ?_
    refine lv_iconst (v := 1) hx hb dX13_interrupt_11 (by decide) ?_
    refine mGoI (mRunV (As := [.int 1]) (rest := []) C hml V (c_refuse l D cs o ad A S 1  ) gM_refuse okM_refuse ⟨rfl, rfl, Nat.le_of_ble_eq_true rfl, Nat.le_of_ble_eq_true rfl⟩ hl.1 rfl (Nat.le_of_ble_eq_true rfl) dX13_interrupt_12 ⟨Nat.zero_le _, Nat.zero_le _⟩) hS (fun r30 S29 H locs hq31 V hS => ?_)
    obtain ⟨hq31, ghq31⟩ := hq31
    replace hG := gC_e hG ghq31
    exact mRetI C hr hlk V hS (⟨pb_I h1 hq31.2 (by clear hG V hS hl C hts hown hx hb hml hr hlk; decide) (by clear hG V hS hl C hts hown hx hb hml hr hlk; decide), hG.symm⟩) dX13_interrupt_15
def G_nextOf (S : mS) (t : Int32) : Int32 := if ((gA S 13 t) : Int32) = 2 then (if ((gA S 21 t) : Int32) = 0 then (if ((gA S 28 (gA S 16 t)) : Int32) = 1 then (((gA S 31 (gA S 16 t)) : Int32)) else (((-1) : Int32))) else (((-1) : Int32))) else (((-1) : Int32))
set_option maxHeartbeats 400000 in
set_option maxRecDepth 100000 in
theorem c_nextOf (l : Launch) (D : va_G) (cs : ClassId × ClassId × ClassId) (o : Nat) (ad : Nat → Nat) (A : Nat → Prop) (S : mS) (t : Int32)  (h1 : mInv S) (h2 : 0 ≤ t ∧ t < 8) : Met l yX13_nextOf (Cond.code yX13_nextOf cX13_nextOf 2 (some .int) :: tM) ({ frames := 0, cells := 0, slots := 0, locals := 0 }) (va_Pc [.ref o, .int t] (mB D cs o ad A S)) (va_Qi (fun r9 S9 => (S9 = S ∧ -1 ≤ r9 ∧ r9 < 8) ∧ r9 = G_nextOf S t) (mB D cs o ad A) A) 0 0 A := by
  refine mMet (by decide) rfl (Nat.le_of_ble_eq_true rfl) ?_
  intro p e s m below meth c ls C hml hr hlk V hl
  have hx := C.1
  have hb := C.2.1
  have hown := C.2.2.1
  have hts := C.2.2.2.1
  have hS : va_S A s.heap s.heap [] := va_S.rf
  have hl : lv_has ls 2 [(0, .ref o), (1, .int t)] := hl
  have hG := G_nextOf.eq_1 S t
  refine lv_aload_n hx hb dX13_nextOf_0 rfl (lv_at hl 0 rfl) ?_
  refine mG13 C V dX13_nextOf_1 ?_
  refine lv_iload_n hx hb dX13_nextOf_4 rfl (lv_at hl 1 rfl) ?_
  refine mLd13 C V (vin (N := 8) rfl (h2.1) (h2.2)) dX13_nextOf_5 ?_
  refine lv_iconst (v := 2) hx hb dX13_nextOf_6 (by decide) ?_
  refine lv_icmp_ne (tgt := 34) hx hb dX13_nextOf_7 (by decide) (fun c1 => ?_) (fun c1 => ?_)
  · replace hG := gIf_n hG c1
    refine lv_iconst (v := (-1)) hx hb dX13_nextOf_34 (by decide) ?_
    exact mRetI C hr hlk V hS (⟨⟨rfl, by decide, by decide⟩, hG.symm⟩) dX13_nextOf_35
  · replace hG := gIf_p hG c1
    refine lv_aload_n hx hb dX13_nextOf_10 rfl (lv_at hl 0 rfl) ?_
    refine mG21 C V dX13_nextOf_11 ?_
    refine lv_iload_n hx hb dX13_nextOf_14 rfl (lv_at hl 1 rfl) ?_
    refine mLd21 C V (vin (N := 8) rfl (h2.1) (h2.2)) dX13_nextOf_15 ?_
    refine lv_if_ne (tgt := 34) hx hb dX13_nextOf_16 (by decide) (fun c2 => ?_) (fun c2 => ?_)
    · replace hG := gIf_n hG c2
      refine lv_iconst (v := (-1)) hx hb dX13_nextOf_34 (by decide) ?_
      exact mRetI C hr hlk V hS (⟨⟨rfl, by decide, by decide⟩, hG.symm⟩) dX13_nextOf_35
    · replace hG := gIf_p hG c2
      refine lv_aload_n hx hb dX13_nextOf_19 rfl (lv_at hl 0 rfl) ?_
      refine mG28 C V dX13_nextOf_20 ?_
      refine lv_aload_n hx hb dX13_nextOf_23 rfl (lv_at hl 0 rfl) ?_
      refine mG16 C V dX13_nextOf_24 ?_
      refine lv_iload_n hx hb dX13_nextOf_27 rfl (lv_at hl 1 rfl) ?_
      refine mLd16 C V (vin (N := 8) rfl (h2.1) (h2.2)) dX13_nextOf_28 ?_
      refine mLd28 C V (vin (N := 24) rfl (((h1.2.1 t h2.1 h2.2).2.1 c1).1) (((h1.2.1 t h2.1 h2.2).2.1 c1).2)) dX13_nextOf_29 ?_
      refine lv_iconst (v := 1) hx hb dX13_nextOf_30 (by decide) ?_
      refine lv_icmp_eq (tgt := 36) hx hb dX13_nextOf_31 (by decide) (fun c3 => ?_) (fun c3 => ?_)
      · replace hG := gIf_p hG c3
        refine lv_aload_n hx hb dX13_nextOf_36 rfl (lv_at hl 0 rfl) ?_
        refine mG31 C V dX13_nextOf_37 ?_
        refine lv_aload_n hx hb dX13_nextOf_40 rfl (lv_at hl 0 rfl) ?_
        refine mG16 C V dX13_nextOf_41 ?_
        refine lv_iload_n hx hb dX13_nextOf_44 rfl (lv_at hl 1 rfl) ?_
        refine mLd16 C V (vin (N := 8) rfl (h2.1) (h2.2)) dX13_nextOf_45 ?_
        refine mLd31 C V (vin (N := 24) rfl (((h1.2.1 t h2.1 h2.2).2.1 c1).1) (((h1.2.1 t h2.1 h2.2).2.1 c1).2)) dX13_nextOf_46 ?_
        exact mRetI C hr hlk V hS (⟨⟨rfl, (h1.2.2.2.1 _ ((h1.2.1 t h2.1 h2.2).2.1 c1).1 ((h1.2.1 t h2.1 h2.2).2.1 c1).2).2.2.1⟩, hG.symm⟩) dX13_nextOf_47
      · replace hG := gIf_n hG c3
        refine lv_iconst (v := (-1)) hx hb dX13_nextOf_34 (by decide) ?_
        exact mRetI C hr hlk V hS (⟨⟨rfl, by decide, by decide⟩, hG.symm⟩) dX13_nextOf_35
def G_dead_L17 (S1 : mS) (v7_1 : Int32) (K7 : Int32 → Int32 × mS) : Nat → Int32 → Int32 → Int32 × mS
  | 0, v17_2, v17_3 => ((0 : Int32), S1)
  | N17 + 1, v17_2, v17_3 => if 8 ≤ (v17_3 : Int32) then (gLt (v7_1 + (1) : Int32) (fun x6 => K7 x6 )) else (if (v17_2 : Int32) < 0 then (gLt (v7_1 + (1) : Int32) (fun x8 => K7 x8 )) else (gLt (G_nextOf S1 v17_2 : Int32) (fun r10 => if (r10 : Int32) = v7_1 then (((v7_1 : Int32), S1)) else (gLt (v17_3 + (1) : Int32) (fun x13 => G_dead_L17 S1 v7_1 K7 N17 r10 x13 )))))
def G_dead_L7 (S1 : mS) : Nat → Int32 → Int32 × mS
  | 0, v7_1 => ((0 : Int32), S1)
  | N7 + 1, v7_1 => if 8 ≤ (v7_1 : Int32) then ((((-1) : Int32), S1)) else (gLt (0 : Int32) (fun x4 => G_dead_L17 S1 v7_1 (fun z0 => G_dead_L7 S1 N7 z0) ((8 - x4).toInt.toNat + 1) v7_1 x4 ))
def G_dead (S : mS)  : Int32 × mS := gLt (sI S 0 0 : mS) (fun S1 => gLt (0 : Int32) (fun x2 => G_dead_L7 S1 ((8 - x2).toInt.toNat + 1) x2 ))
set_option maxHeartbeats 400000 in
set_option maxRecDepth 100000 in
theorem c_dead (l : Launch) (D : va_G) (cs : ClassId × ClassId × ClassId) (o : Nat) (ad : Nat → Nat) (A : Nat → Prop) (S : mS)   (h1 : mInv S) : Met l yX13_dead (Cond.code yX13_dead cX13_dead 4 (some .int) :: tM) ({ frames := 1, cells := 0, slots := 0, locals := 21 }) (va_Pc [.ref o] (mB D cs o ad A S)) (va_Qi (fun r9 S9 => (mInv S9 ∧ gI S9 2 = gI S 2) ∧ (r9, S9) = G_dead S ) (mB D cs o ad A) A) 0 0 A := by
  refine mMet (by decide) rfl (Nat.le_of_ble_eq_true rfl) ?_
  intro p e s m below meth c ls C hml hr hlk V hl
  have hx := C.1
  have hb := C.2.1
  have hown := C.2.2.1
  have hts := C.2.2.2.1
  have hS : va_S A s.heap s.heap [] := va_S.rf
  have hl : lv_has ls 4 [(0, .ref o)] := hl
  have hG := G_dead.eq_1 S 
  refine lv_aload_n hx hb dX13_dead_0 rfl (lv_at hl 0 rfl) ?_
  refine lv_iconst (v := 0) hx hb dX13_dead_1 (by decide) ?_
  refine mP0 C V hS dX13_dead_2 (fun S1 H locs eS1 V hS => ?_)
  replace hG := gLt_e hG eS1
  have p1 := pb_I h1 eS1 (by decide) (by decide)
  refine lv_iconst (v := 0) hx hb dX13_dead_5 (by decide) ?_
  refine lv_topi (fun x2 ex2 => ?_)
  replace hG := gLt_e hG ex2
  refine lv_istore_n (lv' := [(1, .int x2), (0, .ref o)]) hx hb dX13_dead_6 rfl hl (by decide) rfl (fun ls hl => ?_)
  have loop7 : ∀ (N7 : Nat) (v7_1 : Int32)  (H : Heap) (locs : List Loc) (ls : Array Slot), (0 ≤ v7_1 ∧ v7_1 ≤ 8) → ((8 - v7_1).toInt.toNat) < N7 → (G_dead S  = G_dead_L7 S1 N7 v7_1) → mV D cs o ad A S1 H → va_S A s.heap H locs → lv_has ls 4 [(0, .ref o), (1, .int v7_1)] → W p l e ({ frames := 1, cells := 0, slots := 0, locals := 21 } : Room) s m ([.ref o] : List Value).toArray below meth c H locs 0 0 (MQ below (va_Qi (fun r9 S9 => (mInv S9 ∧ gI S9 2 = gI S 2) ∧ (r9, S9) = G_dead S ) (mB D cs o ad A) A) ([.ref o] : List Value).toArray s 0 0 A) (F0 m 7 ls []) := by
    intro N7
    induction N7 with
    | zero => intro v7_1  H locs ls hi7 hm7; exact absurd hm7 (Nat.not_lt_zero _)
    | succ N7 ih7 =>
      intro v7_1  H locs ls hi7 hm7 hG V hS hl
      rw [G_dead_L7] at hG
      refine lv_iload_n hx hb dX13_dead_7 rfl (lv_at hl 1 rfl) ?_
      refine lv_bipush (v := 8) hx hb dX13_dead_8 (by decide) ?_
      refine lv_icmp_ge (tgt := 52) hx hb dX13_dead_10 (by decide) (fun c3 => ?_) (fun c3 => ?_)
      · replace hG := gIf_p hG c3
        refine lv_iconst (v := (-1)) hx hb dX13_dead_52 (by decide) ?_
        exact mRetI C hr hlk V hS (⟨p1, hG.symm⟩) dX13_dead_53
      · replace hG := gIf_n hG c3
        refine lv_iload_n hx hb dX13_dead_13 rfl (lv_at hl 1 rfl) ?_
        refine lv_istore_n (lv' := [(2, .int v7_1), (0, .ref o), (1, .int v7_1)]) hx hb dX13_dead_14 rfl hl (by decide) rfl (fun ls hl => ?_)
        refine lv_iconst (v := 0) hx hb dX13_dead_15 (by decide) ?_
        refine lv_topi (fun x4 ex4 => ?_)
        replace hG := gLt_e hG ex4
        refine lv_istore_n (lv' := [(3, .int x4), (2, .int v7_1), (0, .ref o), (1, .int v7_1)]) hx hb dX13_dead_16 rfl hl (by decide) rfl (fun ls hl => ?_)
        have loop17 : ∀ (N17 : Nat) (v17_2 : Int32) (v17_3 : Int32)  (H : Heap) (locs : List Loc) (ls : Array Slot), (0 ≤ v17_3 ∧ v17_3 ≤ 8 ∧ v17_2 < 8) → ((8 - v17_3).toInt.toNat) < N17 → (G_dead S  = G_dead_L17 S1 v7_1 (fun z0 => G_dead_L7 S1 N7 z0) N17 v17_2 v17_3) → mV D cs o ad A S1 H → va_S A s.heap H locs → lv_has ls 4 [(0, .ref o), (1, .int v7_1), (2, .int v17_2), (3, .int v17_3)] → W p l e ({ frames := 1, cells := 0, slots := 0, locals := 21 } : Room) s m ([.ref o] : List Value).toArray below meth c H locs 0 0 (MQ below (va_Qi (fun r9 S9 => (mInv S9 ∧ gI S9 2 = gI S 2) ∧ (r9, S9) = G_dead S ) (mB D cs o ad A) A) ([.ref o] : List Value).toArray s 0 0 A) (F0 m 17 ls []) := by
          intro N17
          induction N17 with
          | zero => intro v17_2 v17_3  H locs ls hi17 hm17; exact absurd hm17 (Nat.not_lt_zero _)
          | succ N17 ih17 =>
            intro v17_2 v17_3  H locs ls hi17 hm17 hG V hS hl
            rw [G_dead_L17] at hG
            refine lv_iload_n hx hb dX13_dead_17 rfl (lv_at hl 3 rfl) ?_
            refine lv_bipush (v := 8) hx hb dX13_dead_18 (by decide) ?_
            refine lv_icmp_ge (tgt := 46) hx hb dX13_dead_20 (by decide) (fun c5 => ?_) (fun c5 => ?_)
            · replace hG := gIf_p hG c5
              obtain ⟨x6, ex6⟩ : ∃ y : Int32, y = v7_1 + (1) := ⟨_, rfl⟩
              replace hG := gLt_e hG ex6
              refine lv_iinc (v := x6) (lv' := [(1, .int x6), (0, .ref o), (2, .int v17_2), (3, .int v17_3)]) hx hb dX13_dead_46 hl (k := 1) rfl (by rw [ex6]; rfl) (by decide) rfl (fun ls hl => ?_)
              refine lv_goto (tgt := 7) hx hb dX13_dead_49 (by decide) ?_
              exact ih7 x6  _ _ _ (a_up ex6 hi7.1 (i_lt c3)) (msd hm7 (a_dec ex6 hi7.1 (i_lt c3)).1 (a_dec ex6 hi7.1 (i_lt c3)).2) hG V hS (lv_sub hl [1, 0] rfl)
            · replace hG := gIf_n hG c5
              refine lv_iload_n hx hb dX13_dead_23 rfl (lv_at hl 2 rfl) ?_
              refine lv_if_lt (tgt := 46) hx hb dX13_dead_24 (by decide) (fun c7 => ?_) (fun c7 => ?_)
              · replace hG := gIf_p hG c7
                obtain ⟨x8, ex8⟩ : ∃ y : Int32, y = v7_1 + (1) := ⟨_, rfl⟩
                replace hG := gLt_e hG ex8
                refine lv_iinc (v := x8) (lv' := [(1, .int x8), (0, .ref o), (2, .int v17_2), (3, .int v17_3)]) hx hb dX13_dead_46 hl (k := 1) rfl (by rw [ex8]; rfl) (by decide) rfl (fun ls hl => ?_)
                refine lv_goto (tgt := 7) hx hb dX13_dead_49 (by decide) ?_
                exact ih7 x8  _ _ _ (a_up ex8 hi7.1 (i_lt c3)) (msd hm7 (a_dec ex8 hi7.1 (i_lt c3)).1 (a_dec ex8 hi7.1 (i_lt c3)).2) hG V hS (lv_sub hl [1, 0] rfl)
              · replace hG := gIf_n hG c7
                refine lv_aload_n hx hb dX13_dead_27 rfl (lv_at hl 0 rfl) ?_
                refine lv_iload_n hx hb dX13_dead_28 rfl (lv_at hl 2 rfl) ?_
                refine mGoQ (mRunV (As := [.int v17_2]) (rest := []) C hml V (c_nextOf l D cs o ad A S1 v17_2  (p1.1) (⟨i_le c7, hi17.2.2⟩)) gM_nextOf okM_nextOf ⟨rfl, rfl, Nat.le_of_ble_eq_true rfl, Nat.le_of_ble_eq_true rfl⟩ hl.1 rfl (Nat.le_of_ble_eq_true rfl) dX13_dead_29 ⟨Nat.zero_le _, Nat.zero_le _⟩) hS (fun r10 H locs hq11 V hS => ?_)
                obtain ⟨hq11, ghq11⟩ := hq11
                replace hG := gLt_e hG ghq11
                refine lv_istore_n (lv' := [(2, .int r10), (0, .ref o), (1, .int v7_1), (3, .int v17_3)]) hx hb dX13_dead_32 rfl hl (by decide) rfl (fun ls hl => ?_)
                refine lv_iload_n hx hb dX13_dead_33 rfl (lv_at hl 0 rfl) ?_
                refine lv_iload_n hx hb dX13_dead_34 rfl (lv_at hl 2 rfl) ?_
                refine lv_icmp_ne (tgt := 40) hx hb dX13_dead_35 (by decide) (fun c12 => ?_) (fun c12 => ?_)
                · replace hG := gIf_n hG c12
                  obtain ⟨x13, ex13⟩ : ∃ y : Int32, y = v17_3 + (1) := ⟨_, rfl⟩
                  replace hG := gLt_e hG ex13
                  refine lv_iinc (v := x13) (lv' := [(3, .int x13), (2, .int r10), (0, .ref o), (1, .int v7_1)]) hx hb dX13_dead_40 hl (k := 3) rfl (by rw [ex13]; rfl) (by decide) rfl (fun ls hl => ?_)
                  refine lv_goto (tgt := 17) hx hb dX13_dead_43 (by decide) ?_
                  exact ih17 r10 x13  _ _ _ (⟨(a_up ex13 hi17.1 (i_lt c5)).1, (a_up ex13 hi17.1 (i_lt c5)).2, hq11.2⟩) (msd hm17 (a_dec ex13 hi17.1 (i_lt c5)).1 (a_dec ex13 hi17.1 (i_lt c5)).2) hG V hS (lv_sub hl [2, 3, 1, 0] rfl)
                · replace hG := gIf_p hG c12
                  refine lv_iload_n hx hb dX13_dead_38 rfl (lv_at hl 2 rfl) ?_
                  exact mRetI C hr hlk V hS (⟨p1, hG.symm⟩) dX13_dead_39
        exact loop17 ((8 - x4).toInt.toNat + 1) v7_1 x4  _ _ _ (by clear hG V hS hl C hts hown hx hb hml hr hlk ih7 hm7; rw [ex4]; exact ⟨by decide, by decide, i_lt c3⟩) (Nat.lt_succ_self _) hG V hS (lv_sub hl [2, 3, 1, 0] rfl)
  exact loop7 ((8 - x2).toInt.toNat + 1) x2  _ _ _ (by clear hG V hS hl C hts hown hx hb hml hr hlk; rw [ex2]; decide) (Nat.lt_succ_self _) hG V hS (lv_sub hl [1, 0] rfl)
def G_drop (S : mS) (b : Int32) : Int32 × mS := gLt (G_isThere S b : Int32) (fun r2 => if (r2 : Int32) = 0 then (gC (G_refuse S 1) (fun r19 S18 => ((r19 : Int32), S18))) else (if 0 < ((gA S 33 b) : Int32) then (gC (G_refuse S 2) (fun r7 S6 => ((r7 : Int32), S6))) else (if ((gA S 35 b) : Int32) ≤ 0 then (gLt (sI S 0 0 : mS) (fun S10 => gLt (sA S10 28 b (0) : mS) (fun S11 => gLt (G_objects S11  : Int32) (fun r13 => ((r13 : Int32), S11))))) else (gC (G_refuse S 2) (fun r16 S15 => ((r16 : Int32), S15))))))
set_option maxHeartbeats 400000 in
set_option maxRecDepth 100000 in
theorem c_drop (l : Launch) (D : va_G) (cs : ClassId × ClassId × ClassId) (o : Nat) (ad : Nat → Nat) (A : Nat → Prop) (S : mS) (b : Int32)  (h1 : mInv S) : Met l yX13_drop (Cond.code yX13_drop cX13_drop 2 (some .int) :: tM) ({ frames := 2, cells := 0, slots := 0, locals := 43 }) (va_Pc [.ref o, .int b] (mB D cs o ad A S)) (va_Qi (fun r9 S9 => (mInv S9 ∧ gI S9 2 = gI S 2) ∧ (r9, S9) = G_drop S b) (mB D cs o ad A) A) 0 0 A := by
  refine mMet (by decide) rfl (Nat.le_of_ble_eq_true rfl) ?_
  intro p e s m below meth c ls C hml hr hlk V hl
  have hx := C.1
  have hb := C.2.1
  have hown := C.2.2.1
  have hts := C.2.2.2.1
  have hS : va_S A s.heap s.heap [] := va_S.rf
  have hl : lv_has ls 2 [(0, .ref o), (1, .int b)] := hl
  have hG := G_drop.eq_1 S b
  refine lv_aload_n hx hb dX13_drop_0 rfl (lv_at hl 0 rfl) ?_
  refine lv_iload_n hx hb dX13_drop_1 rfl (lv_at hl 1 rfl) ?_
  refine mGoQ (mRunV (As := [.int b]) (rest := []) C hml V (c_isThere l D cs o ad A S b  ) gM_isThere okM_isThere ⟨rfl, rfl, Nat.le_of_ble_eq_true rfl, Nat.le_of_ble_eq_true rfl⟩ hl.1 rfl (Nat.le_of_ble_eq_true rfl) dX13_drop_2 ⟨Nat.zero_le _, Nat.zero_le _⟩) hS (fun r2 H locs hq3 V hS => ?_)
  obtain ⟨hq3, ghq3⟩ := hq3
  replace hG := gLt_e hG ghq3
  refine lv_if_ne (tgt := 14) hx hb dX13_drop_5 (by decide) (fun c4 => ?_) (fun c4 => ?_)
  · replace hG := gIf_n hG c4
    have hb9 : 0 ≤ b ∧ b < 24 := by rcases hq3 with z | z; exact ⟨z.2.1, z.2.2.1⟩; exact absurd z.1 c4
    refine lv_aload_n hx hb dX13_drop_14 rfl (lv_at hl 0 rfl) ?_
    refine mG33 C V dX13_drop_15 ?_
    refine lv_iload_n hx hb dX13_drop_18 rfl (lv_at hl 1 rfl) ?_
    refine mLd33 C V (vin (N := 24) rfl (hb9.1) (hb9.2)) dX13_drop_19 ?_
    refine lv_if_gt (tgt := 32) hx hb dX13_drop_20 (by decide) (fun c5 => ?_) (fun c5 => ?_)
    · replace hG := gIf_p hG c5
      refine lv_aload_n hx hb dX13_drop_32 rfl (lv_at hl 0 rfl) ?_
      refine lv_iconst (v := 2) hx hb dX13_drop_33 (by decide) ?_
      refine mGoI (mRunV (As := [.int 2]) (rest := []) C hml V (c_refuse l D cs o ad A S 2  ) gM_refuse okM_refuse ⟨rfl, rfl, Nat.le_of_ble_eq_true rfl, Nat.le_of_ble_eq_true rfl⟩ hl.1 rfl (Nat.le_of_ble_eq_true rfl) dX13_drop_34 ⟨Nat.zero_le _, Nat.zero_le _⟩) hS (fun r7 S6 H locs hq8 V hS => ?_)
      obtain ⟨hq8, ghq8⟩ := hq8
      replace hG := gC_e hG ghq8
      exact mRetI C hr hlk V hS (⟨pb_I h1 hq8.2 (by clear hG V hS hl C hts hown hx hb hml hr hlk; decide) (by clear hG V hS hl C hts hown hx hb hml hr hlk; decide), hG.symm⟩) dX13_drop_37
    · replace hG := gIf_n hG c5
      refine lv_aload_n hx hb dX13_drop_23 rfl (lv_at hl 0 rfl) ?_
      refine mG35 C V dX13_drop_24 ?_
      refine lv_iload_n hx hb dX13_drop_27 rfl (lv_at hl 1 rfl) ?_
      refine mLd35 C V (vin (N := 24) rfl (hb9.1) (hb9.2)) dX13_drop_28 ?_
      refine lv_if_le (tgt := 38) hx hb dX13_drop_29 (by decide) (fun c9 => ?_) (fun c9 => ?_)
      · replace hG := gIf_p hG c9
        refine lv_aload_n hx hb dX13_drop_38 rfl (lv_at hl 0 rfl) ?_
        refine lv_iconst (v := 0) hx hb dX13_drop_39 (by decide) ?_
        refine mP0 C V hS dX13_drop_40 (fun S10 H locs eS10 V hS => ?_)
        replace hG := gLt_e hG eS10
        have p1 := pb_I h1 eS10 (by decide) (by decide)
        refine lv_aload_n hx hb dX13_drop_43 rfl (lv_at hl 0 rfl) ?_
        refine mG28 C V dX13_drop_44 ?_
        refine lv_iload_n hx hb dX13_drop_47 rfl (lv_at hl 1 rfl) ?_
        refine lv_iconst (v := 0) hx hb dX13_drop_48 (by decide) ?_
        refine mSt28 C V hS (vin (N := 24) rfl (hb9.1) (hb9.2)) dX13_drop_49 (fun S11 H locs eS11 V hS => ?_)
        replace hG := gLt_e hG eS11
        refine lv_aload_n hx hb dX13_drop_50 rfl (lv_at hl 0 rfl) ?_
        refine mGoQ (mRunV (As := []) (rest := []) C hml V (c_objects l D cs o ad A S11   ) gM_objects okM_objects ⟨rfl, rfl, Nat.le_of_ble_eq_true rfl, Nat.le_of_ble_eq_true rfl⟩ hl.1 rfl (Nat.le_of_ble_eq_true rfl) dX13_drop_51 ⟨Nat.zero_le _, Nat.zero_le _⟩) hS (fun r13 H locs hq14 V hS => ?_)
        obtain ⟨hq14, ghq14⟩ := hq14
        replace hG := gLt_e hG ghq14
        exact mRetI C hr hlk V hS (⟨dr_inv h1 hb9 c5 c9 eS10 eS11, hG.symm⟩) dX13_drop_54
      · replace hG := gIf_n hG c9
        refine lv_aload_n hx hb dX13_drop_32 rfl (lv_at hl 0 rfl) ?_
        refine lv_iconst (v := 2) hx hb dX13_drop_33 (by decide) ?_
        refine mGoI (mRunV (As := [.int 2]) (rest := []) C hml V (c_refuse l D cs o ad A S 2  ) gM_refuse okM_refuse ⟨rfl, rfl, Nat.le_of_ble_eq_true rfl, Nat.le_of_ble_eq_true rfl⟩ hl.1 rfl (Nat.le_of_ble_eq_true rfl) dX13_drop_34 ⟨Nat.zero_le _, Nat.zero_le _⟩) hS (fun r16 S15 H locs hq17 V hS => ?_)
        obtain ⟨hq17, ghq17⟩ := hq17
        replace hG := gC_e hG ghq17
        exact mRetI C hr hlk V hS (⟨pb_I h1 hq17.2 (by clear hG V hS hl C hts hown hx hb hml hr hlk; decide) (by clear hG V hS hl C hts hown hx hb hml hr hlk; decide), hG.symm⟩) dX13_drop_37
  · replace hG := gIf_p hG c4
    refine lv_aload_n hx hb dX13_drop_8 rfl (lv_at hl 0 rfl) ?_
    refine lv_iconst (v := 1) hx hb dX13_drop_9 (by decide) ?_
    refine mGoI (mRunV (As := [.int 1]) (rest := []) C hml V (c_refuse l D cs o ad A S 1  ) gM_refuse okM_refuse ⟨rfl, rfl, Nat.le_of_ble_eq_true rfl, Nat.le_of_ble_eq_true rfl⟩ hl.1 rfl (Nat.le_of_ble_eq_true rfl) dX13_drop_10 ⟨Nat.zero_le _, Nat.zero_le _⟩) hS (fun r19 S18 H locs hq20 V hS => ?_)
    obtain ⟨hq20, ghq20⟩ := hq20
    replace hG := gC_e hG ghq20
    exact mRetI C hr hlk V hS (⟨pb_I h1 hq20.2 (by clear hG V hS hl C hts hown hx hb hml hr hlk; decide) (by clear hG V hS hl C hts hown hx hb hml hr hlk; decide), hG.symm⟩) dX13_drop_13
def G_make_L73 (S : mS) (k : Int32) (x : Int32) : Nat → Int32 → Int32 × mS
  | 0, v73_4 => ((0 : Int32), S)
  | N73 + 1, v73_4 => if 24 ≤ (v73_4 : Int32) then (if (v73_4 : Int32) = 24 then (gC (G_refuse S 2) (fun r59 S58 => ((r59 : Int32), S58))) else (gLt (sI S 0 0 : mS) (fun S5 => gLt (sA S5 28 v73_4 ((k + 1)) : mS) (fun S6 => if (k : Int32) = 0 then (gLt (sA S6 29 v73_4 (0) : mS) (fun S8 => if (k : Int32) = 0 then (gLt (sA S8 30 v73_4 (x) : mS) (fun S15 => gLt (sA S15 31 v73_4 ((-1)) : mS) (fun S16 => gLt (sA S16 33 v73_4 (0) : mS) (fun S17 => gLt (sA S17 35 v73_4 (0) : mS) (fun S18 => gLt (sA S18 37 v73_4 (0) : mS) (fun S19 => ((v73_4 : Int32), S19))))))) else (gLt (sA S8 30 v73_4 (0) : mS) (fun S10 => gLt (sA S10 31 v73_4 ((-1)) : mS) (fun S11 => gLt (sA S11 33 v73_4 (0) : mS) (fun S12 => gLt (sA S12 35 v73_4 (0) : mS) (fun S13 => gLt (sA S13 37 v73_4 (0) : mS) (fun S14 => ((v73_4 : Int32), S14))))))))) else (if (k : Int32) = 6 then (gLt (sA S6 29 v73_4 (0) : mS) (fun S21 => if (k : Int32) = 0 then (gLt (sA S21 30 v73_4 (x) : mS) (fun S28 => gLt (sA S28 31 v73_4 ((-1)) : mS) (fun S29 => gLt (sA S29 33 v73_4 (0) : mS) (fun S30 => gLt (sA S30 35 v73_4 (0) : mS) (fun S31 => gLt (sA S31 37 v73_4 (0) : mS) (fun S32 => ((v73_4 : Int32), S32))))))) else (gLt (sA S21 30 v73_4 (0) : mS) (fun S23 => gLt (sA S23 31 v73_4 ((-1)) : mS) (fun S24 => gLt (sA S24 33 v73_4 (0) : mS) (fun S25 => gLt (sA S25 35 v73_4 (0) : mS) (fun S26 => gLt (sA S26 37 v73_4 (0) : mS) (fun S27 => ((v73_4 : Int32), S27))))))))) else (if (k : Int32) = 7 then (gLt (sA S6 29 v73_4 (0) : mS) (fun S46 => if (k : Int32) = 0 then (gLt (sA S46 30 v73_4 (x) : mS) (fun S53 => gLt (sA S53 31 v73_4 ((-1)) : mS) (fun S54 => gLt (sA S54 33 v73_4 (0) : mS) (fun S55 => gLt (sA S55 35 v73_4 (0) : mS) (fun S56 => gLt (sA S56 37 v73_4 (0) : mS) (fun S57 => ((v73_4 : Int32), S57))))))) else (gLt (sA S46 30 v73_4 (0) : mS) (fun S48 => gLt (sA S48 31 v73_4 ((-1)) : mS) (fun S49 => gLt (sA S49 33 v73_4 (0) : mS) (fun S50 => gLt (sA S50 35 v73_4 (0) : mS) (fun S51 => gLt (sA S51 37 v73_4 (0) : mS) (fun S52 => ((v73_4 : Int32), S52))))))))) else (gLt (sA S6 29 v73_4 (x) : mS) (fun S34 => if (k : Int32) = 0 then (gLt (sA S34 30 v73_4 (x) : mS) (fun S41 => gLt (sA S41 31 v73_4 ((-1)) : mS) (fun S42 => gLt (sA S42 33 v73_4 (0) : mS) (fun S43 => gLt (sA S43 35 v73_4 (0) : mS) (fun S44 => gLt (sA S44 37 v73_4 (0) : mS) (fun S45 => ((v73_4 : Int32), S45))))))) else (gLt (sA S34 30 v73_4 (0) : mS) (fun S36 => gLt (sA S36 31 v73_4 ((-1)) : mS) (fun S37 => gLt (sA S37 33 v73_4 (0) : mS) (fun S38 => gLt (sA S38 35 v73_4 (0) : mS) (fun S39 => gLt (sA S39 37 v73_4 (0) : mS) (fun S40 => ((v73_4 : Int32), S40))))))))))))))) else (if ((gA S 28 v73_4) : Int32) = 0 then (if (v73_4 : Int32) = 24 then (gC (G_refuse S 2) (fun r117 S116 => ((r117 : Int32), S116))) else (gLt (sI S 0 0 : mS) (fun S63 => gLt (sA S63 28 v73_4 ((k + 1)) : mS) (fun S64 => if (k : Int32) = 0 then (gLt (sA S64 29 v73_4 (0) : mS) (fun S66 => if (k : Int32) = 0 then (gLt (sA S66 30 v73_4 (x) : mS) (fun S73 => gLt (sA S73 31 v73_4 ((-1)) : mS) (fun S74 => gLt (sA S74 33 v73_4 (0) : mS) (fun S75 => gLt (sA S75 35 v73_4 (0) : mS) (fun S76 => gLt (sA S76 37 v73_4 (0) : mS) (fun S77 => ((v73_4 : Int32), S77))))))) else (gLt (sA S66 30 v73_4 (0) : mS) (fun S68 => gLt (sA S68 31 v73_4 ((-1)) : mS) (fun S69 => gLt (sA S69 33 v73_4 (0) : mS) (fun S70 => gLt (sA S70 35 v73_4 (0) : mS) (fun S71 => gLt (sA S71 37 v73_4 (0) : mS) (fun S72 => ((v73_4 : Int32), S72))))))))) else (if (k : Int32) = 6 then (gLt (sA S64 29 v73_4 (0) : mS) (fun S79 => if (k : Int32) = 0 then (gLt (sA S79 30 v73_4 (x) : mS) (fun S86 => gLt (sA S86 31 v73_4 ((-1)) : mS) (fun S87 => gLt (sA S87 33 v73_4 (0) : mS) (fun S88 => gLt (sA S88 35 v73_4 (0) : mS) (fun S89 => gLt (sA S89 37 v73_4 (0) : mS) (fun S90 => ((v73_4 : Int32), S90))))))) else (gLt (sA S79 30 v73_4 (0) : mS) (fun S81 => gLt (sA S81 31 v73_4 ((-1)) : mS) (fun S82 => gLt (sA S82 33 v73_4 (0) : mS) (fun S83 => gLt (sA S83 35 v73_4 (0) : mS) (fun S84 => gLt (sA S84 37 v73_4 (0) : mS) (fun S85 => ((v73_4 : Int32), S85))))))))) else (if (k : Int32) = 7 then (gLt (sA S64 29 v73_4 (0) : mS) (fun S104 => if (k : Int32) = 0 then (gLt (sA S104 30 v73_4 (x) : mS) (fun S111 => gLt (sA S111 31 v73_4 ((-1)) : mS) (fun S112 => gLt (sA S112 33 v73_4 (0) : mS) (fun S113 => gLt (sA S113 35 v73_4 (0) : mS) (fun S114 => gLt (sA S114 37 v73_4 (0) : mS) (fun S115 => ((v73_4 : Int32), S115))))))) else (gLt (sA S104 30 v73_4 (0) : mS) (fun S106 => gLt (sA S106 31 v73_4 ((-1)) : mS) (fun S107 => gLt (sA S107 33 v73_4 (0) : mS) (fun S108 => gLt (sA S108 35 v73_4 (0) : mS) (fun S109 => gLt (sA S109 37 v73_4 (0) : mS) (fun S110 => ((v73_4 : Int32), S110))))))))) else (gLt (sA S64 29 v73_4 (x) : mS) (fun S92 => if (k : Int32) = 0 then (gLt (sA S92 30 v73_4 (x) : mS) (fun S99 => gLt (sA S99 31 v73_4 ((-1)) : mS) (fun S100 => gLt (sA S100 33 v73_4 (0) : mS) (fun S101 => gLt (sA S101 35 v73_4 (0) : mS) (fun S102 => gLt (sA S102 37 v73_4 (0) : mS) (fun S103 => ((v73_4 : Int32), S103))))))) else (gLt (sA S92 30 v73_4 (0) : mS) (fun S94 => gLt (sA S94 31 v73_4 ((-1)) : mS) (fun S95 => gLt (sA S95 33 v73_4 (0) : mS) (fun S96 => gLt (sA S96 35 v73_4 (0) : mS) (fun S97 => gLt (sA S97 37 v73_4 (0) : mS) (fun S98 => ((v73_4 : Int32), S98))))))))))))))) else (gLt (v73_4 + (1) : Int32) (fun x119 => G_make_L73 S k x N73 x119 )))
def G_make_J60 (S : mS) (k : Int32) (x : Int32) (j60_3 : Int32) : Int32 × mS := if (j60_3 : Int32) = 0 then (gC (G_refuse S 1) (fun r121 S120 => ((r121 : Int32), S120))) else (gLt (0 : Int32) (fun x2 => G_make_L73 S k x ((24 - x2).toInt.toNat + 1) x2 ))
def G_make_J47 (S : mS) (k : Int32) (x : Int32) (j47_3 : Int32) : Int32 × mS := if (k : Int32) = 4 then (gLt (G_in S x 1 100 : Int32) (fun r125 => G_make_J60 S k x r125 )) else (G_make_J60 S k x j47_3 )
def G_make_J34 (S : mS) (k : Int32) (x : Int32) (j34_3 : Int32) : Int32 × mS := if (k : Int32) = 3 then (gLt (G_in S x 1 8 : Int32) (fun r129 => G_make_J47 S k x r129 )) else (G_make_J47 S k x j34_3 )
def G_make_J33 (S : mS) (k : Int32) (x : Int32) (j33_s0 : Int32) : Int32 × mS := G_make_J34 S k x j33_s0 
def G_make_J19 (S : mS) (k : Int32) (x : Int32) (j19_3 : Int32) : Int32 × mS := if (k : Int32) = 2 then (if (x : Int32) < 0 then (G_make_J33 S k x 0 ) else (G_make_J33 S k x 1 )) else (G_make_J34 S k x j19_3 )
def G_make (S : mS) (k : Int32) (x : Int32) : Int32 × mS := gLt (G_in S k 0 7 : Int32) (fun r134 => if (k : Int32) = 0 then (gLt (G_in S x 0 1 : Int32) (fun r138 => G_make_J19 S k x r138 )) else (G_make_J19 S k x r134 ))
set_option maxHeartbeats 400000 in
set_option maxRecDepth 100000 in
theorem j_make_60 {p : Program} {e : Env} {s : State} {m : MethodId} {below : List Frame} {meth : Method} {c : Code} (l : Launch) (D : va_G) (cs : ClassId × ClassId × ClassId) (o : Nat) (ad : Nat → Nat) (A : Nat → Prop) (S : mS) (k : Int32) (x : Int32)  (h1 : mInv S) (C : mC p s m ([.ref o, .int k, .int x] : List Value).toArray c cX13_make D cs) (hml : c.maxLocals = 5) (hr : meth.sig.returnType = (some .int)) (hlk : meth.locks = false) (j60_3 : Int32)  (H : Heap) (locs : List Loc) (ls : Array Slot) (hj60 : k = 4 → ¬ j60_3 = 0 → 1 ≤ x ∧ x ≤ 100) (hG : G_make S k x = G_make_J60 S k x j60_3) (V : mV D cs o ad A S H) (hS : va_S A s.heap H locs) (hl : lv_has ls 5 [(0, .ref o), (1, .int k), (2, .int x), (3, .int j60_3)]) : W p l e ({ frames := 1, cells := 0, slots := 0, locals := 22 } : Room) s m ([.ref o, .int k, .int x] : List Value).toArray below meth c H locs 0 0 (MQ below (va_Qi (fun r9 S9 => (mInv S9 ∧ gI S9 2 = gI S 2) ∧ (r9, S9) = G_make S k x) (mB D cs o ad A) A) ([.ref o, .int k, .int x] : List Value).toArray s 0 0 A) (F0 m 60 ls []) := by
  have hx := C.1
  have hb := C.2.1
  have hown := C.2.2.1
  have hts := C.2.2.2.1
  rw [G_make_J60] at hG
  refine lv_iload_n hx hb dX13_make_60 rfl (lv_at hl 3 rfl) ?_
  refine lv_if_ne (tgt := 70) hx hb dX13_make_61 (by decide) (fun c1 => ?_) (fun c1 => ?_)
  · replace hG := gIf_n hG c1
    refine lv_iconst (v := 0) hx hb dX13_make_70 (by decide) ?_
    refine lv_topi (fun x2 ex2 => ?_)
    replace hG := gLt_e hG ex2
    refine lv_istore (lv' := [(4, .int x2), (0, .ref o), (1, .int k), (2, .int x), (3, .int j60_3)]) hx hb dX13_make_71 hl (by decide) rfl (fun ls hl => ?_)
    have loop73 : ∀ (N73 : Nat) (v73_4 : Int32)  (H : Heap) (locs : List Loc) (ls : Array Slot), (0 ≤ v73_4 ∧ v73_4 ≤ 24) → ((24 - v73_4).toInt.toNat) < N73 → (G_make S k x = G_make_L73 S k x N73 v73_4) → mV D cs o ad A S H → va_S A s.heap H locs → lv_has ls 5 [(0, .ref o), (1, .int k), (2, .int x), (4, .int v73_4)] → W p l e ({ frames := 1, cells := 0, slots := 0, locals := 22 } : Room) s m ([.ref o, .int k, .int x] : List Value).toArray below meth c H locs 0 0 (MQ below (va_Qi (fun r9 S9 => (mInv S9 ∧ gI S9 2 = gI S 2) ∧ (r9, S9) = G_make S k x) (mB D cs o ad A) A) ([.ref o, .int k, .int x] : List Value).toArray s 0 0 A) (F0 m 73 ls []) := by
      intro N73
      induction N73 with
      | zero => intro v73_4  H locs ls hi73 hm73; exact absurd hm73 (Nat.not_lt_zero _)
      | succ N73 ih73 =>
        intro v73_4  H locs ls hi73 hm73 hG V hS hl
        rw [G_make_L73] at hG
        refine lv_iload hx hb dX13_make_73 (lv_at hl 3 rfl) ?_
        refine lv_bipush (v := 24) hx hb dX13_make_75 (by decide) ?_
        refine lv_icmp_ge (tgt := 96) hx hb dX13_make_77 (by decide) (fun c3 => ?_) (fun c3 => ?_)
        · replace hG := gIf_p hG c3
          refine lv_iload hx hb dX13_make_96 (lv_at hl 3 rfl) ?_
          refine lv_bipush (v := 24) hx hb dX13_make_98 (by decide) ?_
          refine lv_icmp_ne (tgt := 109) hx hb dX13_make_100 (by decide) (fun c4 => ?_) (fun c4 => ?_)
          · replace hG := gIf_n hG c4
            have hb9 : 0 ≤ v73_4 ∧ v73_4 < 24 := a_24 hi73.1 hi73.2 c4
            have hk9 : gA S 28 v73_4 = 0 := by first | exact nope9 | exact absurd (a_e24 hi73.2 c3) c4
            refine lv_aload_n hx hb dX13_make_109 rfl (lv_at hl 0 rfl) ?_
            refine lv_iconst (v := 0) hx hb dX13_make_110 (by decide) ?_
            refine mP0 C V hS dX13_make_111 (fun S5 H locs eS5 V hS => ?_)
            replace hG := gLt_e hG eS5
            refine lv_aload_n hx hb dX13_make_114 rfl (lv_at hl 0 rfl) ?_
            refine mG28 C V dX13_make_115 ?_
            refine lv_iload hx hb dX13_make_118 (lv_at hl 3 rfl) ?_
            refine lv_iload_n hx hb dX13_make_120 rfl (lv_at hl 1 rfl) ?_
            refine lv_iconst (v := 1) hx hb dX13_make_121 (by decide) ?_
            refine lv_iadd hx hb dX13_make_122 ?_
            refine mSt28 C V hS (vin (N := 24) rfl (hb9.1) (hb9.2)) dX13_make_123 (fun S6 H locs eS6 V hS => ?_)
            replace hG := gLt_e hG eS6
            refine lv_aload_n hx hb dX13_make_124 rfl (lv_at hl 0 rfl) ?_
            refine mG29 C V dX13_make_125 ?_
            refine lv_iload hx hb dX13_make_128 (lv_at hl 3 rfl) ?_
            refine lv_iload_n hx hb dX13_make_130 rfl (lv_at hl 1 rfl) ?_
            refine lv_if_eq (tgt := 146) hx hb dX13_make_131 (by decide) (fun c7 => ?_) (fun c7 => ?_)
            · replace hG := gIf_p hG c7
              refine lv_iconst (v := 0) hx hb dX13_make_146 (by decide) ?_
              refine lv_goto (tgt := 151) hx hb dX13_make_147 (by decide) ?_
              refine mSt29 C V hS (vin (N := 24) rfl (hb9.1) (hb9.2)) dX13_make_151 (fun S8 H locs eS8 V hS => ?_)
              replace hG := gLt_e hG eS8
              refine lv_aload_n hx hb dX13_make_152 rfl (lv_at hl 0 rfl) ?_
              refine mG30 C V dX13_make_153 ?_
              refine lv_iload hx hb dX13_make_156 (lv_at hl 3 rfl) ?_
              refine lv_iload_n hx hb dX13_make_158 rfl (lv_at hl 1 rfl) ?_
              refine lv_if_ne (tgt := 166) hx hb dX13_make_159 (by decide) (fun c9 => ?_) (fun c9 => ?_)
              · replace hG := gIf_n hG c9
                refine lv_iconst (v := 0) hx hb dX13_make_166 (by decide) ?_
                refine mSt30 C V hS (vin (N := 24) rfl (hb9.1) (hb9.2)) dX13_make_167 (fun S10 H locs eS10 V hS => ?_)
                replace hG := gLt_e hG eS10
                refine lv_aload_n hx hb dX13_make_168 rfl (lv_at hl 0 rfl) ?_
                refine mG31 C V dX13_make_169 ?_
                refine lv_iload hx hb dX13_make_172 (lv_at hl 3 rfl) ?_
                refine lv_iconst (v := (-1)) hx hb dX13_make_174 (by decide) ?_
                refine mSt31 C V hS (vin (N := 24) rfl (hb9.1) (hb9.2)) dX13_make_175 (fun S11 H locs eS11 V hS => ?_)
                replace hG := gLt_e hG eS11
                refine lv_aload_n hx hb dX13_make_176 rfl (lv_at hl 0 rfl) ?_
                refine mG33 C V dX13_make_177 ?_
                refine lv_iload hx hb dX13_make_180 (lv_at hl 3 rfl) ?_
                refine lv_iconst (v := 0) hx hb dX13_make_182 (by decide) ?_
                refine mSt33 C V hS (vin (N := 24) rfl (hb9.1) (hb9.2)) dX13_make_183 (fun S12 H locs eS12 V hS => ?_)
                replace hG := gLt_e hG eS12
                refine lv_aload_n hx hb dX13_make_184 rfl (lv_at hl 0 rfl) ?_
                refine mG35 C V dX13_make_185 ?_
                refine lv_iload hx hb dX13_make_188 (lv_at hl 3 rfl) ?_
                refine lv_iconst (v := 0) hx hb dX13_make_190 (by decide) ?_
                refine mSt35 C V hS (vin (N := 24) rfl (hb9.1) (hb9.2)) dX13_make_191 (fun S13 H locs eS13 V hS => ?_)
                replace hG := gLt_e hG eS13
                refine lv_aload_n hx hb dX13_make_192 rfl (lv_at hl 0 rfl) ?_
                refine mG37 C V dX13_make_193 ?_
                refine lv_iload hx hb dX13_make_196 (lv_at hl 3 rfl) ?_
                refine lv_iconst (v := 0) hx hb dX13_make_198 (by decide) ?_
                refine mSt37 C V hS (vin (N := 24) rfl (hb9.1) (hb9.2)) dX13_make_199 (fun S14 H locs eS14 V hS => ?_)
                replace hG := gLt_e hG eS14
                refine lv_iload hx hb dX13_make_200 (lv_at hl 3 rfl) ?_
                exact mRetI C hr hlk V hS (⟨mk_inv h1 hb9 hk9 (by clear hG V hS hl C hts hown hx hb hml hr hlk ih73 hm73; first | exact fun z9 => a_100 (hj60 z9 c1) | exact fun _ => by decide) eS5 eS6 eS8 eS10 eS11 eS12 eS13 eS14, hG.symm⟩) dX13_make_202
              · replace hG := gIf_p hG c9
                refine lv_iload_n hx hb dX13_make_162 rfl (lv_at hl 2 rfl) ?_
                refine lv_goto (tgt := 167) hx hb dX13_make_163 (by decide) ?_
                refine mSt30 C V hS (vin (N := 24) rfl (hb9.1) (hb9.2)) dX13_make_167 (fun S15 H locs eS15 V hS => ?_)
                replace hG := gLt_e hG eS15
                refine lv_aload_n hx hb dX13_make_168 rfl (lv_at hl 0 rfl) ?_
                refine mG31 C V dX13_make_169 ?_
                refine lv_iload hx hb dX13_make_172 (lv_at hl 3 rfl) ?_
                refine lv_iconst (v := (-1)) hx hb dX13_make_174 (by decide) ?_
                refine mSt31 C V hS (vin (N := 24) rfl (hb9.1) (hb9.2)) dX13_make_175 (fun S16 H locs eS16 V hS => ?_)
                replace hG := gLt_e hG eS16
                refine lv_aload_n hx hb dX13_make_176 rfl (lv_at hl 0 rfl) ?_
                refine mG33 C V dX13_make_177 ?_
                refine lv_iload hx hb dX13_make_180 (lv_at hl 3 rfl) ?_
                refine lv_iconst (v := 0) hx hb dX13_make_182 (by decide) ?_
                refine mSt33 C V hS (vin (N := 24) rfl (hb9.1) (hb9.2)) dX13_make_183 (fun S17 H locs eS17 V hS => ?_)
                replace hG := gLt_e hG eS17
                refine lv_aload_n hx hb dX13_make_184 rfl (lv_at hl 0 rfl) ?_
                refine mG35 C V dX13_make_185 ?_
                refine lv_iload hx hb dX13_make_188 (lv_at hl 3 rfl) ?_
                refine lv_iconst (v := 0) hx hb dX13_make_190 (by decide) ?_
                refine mSt35 C V hS (vin (N := 24) rfl (hb9.1) (hb9.2)) dX13_make_191 (fun S18 H locs eS18 V hS => ?_)
                replace hG := gLt_e hG eS18
                refine lv_aload_n hx hb dX13_make_192 rfl (lv_at hl 0 rfl) ?_
                refine mG37 C V dX13_make_193 ?_
                refine lv_iload hx hb dX13_make_196 (lv_at hl 3 rfl) ?_
                refine lv_iconst (v := 0) hx hb dX13_make_198 (by decide) ?_
                refine mSt37 C V hS (vin (N := 24) rfl (hb9.1) (hb9.2)) dX13_make_199 (fun S19 H locs eS19 V hS => ?_)
                replace hG := gLt_e hG eS19
                refine lv_iload hx hb dX13_make_200 (lv_at hl 3 rfl) ?_
                exact mRetI C hr hlk V hS (⟨mk_inv h1 hb9 hk9 (by clear hG V hS hl C hts hown hx hb hml hr hlk ih73 hm73; first | exact fun z9 => a_100 (hj60 z9 c1) | exact fun _ => by decide) eS5 eS6 eS8 eS15 eS16 eS17 eS18 eS19, hG.symm⟩) dX13_make_202
            · replace hG := gIf_n hG c7
              refine lv_iload_n hx hb dX13_make_134 rfl (lv_at hl 1 rfl) ?_
              refine lv_bipush (v := 6) hx hb dX13_make_135 (by decide) ?_
              refine lv_icmp_eq (tgt := 146) hx hb dX13_make_137 (by decide) (fun c20 => ?_) (fun c20 => ?_)
              · replace hG := gIf_p hG c20
                refine lv_iconst (v := 0) hx hb dX13_make_146 (by decide) ?_
                refine lv_goto (tgt := 151) hx hb dX13_make_147 (by decide) ?_
                refine mSt29 C V hS (vin (N := 24) rfl (hb9.1) (hb9.2)) dX13_make_151 (fun S21 H locs eS21 V hS => ?_)
                replace hG := gLt_e hG eS21
                refine lv_aload_n hx hb dX13_make_152 rfl (lv_at hl 0 rfl) ?_
                refine mG30 C V dX13_make_153 ?_
                refine lv_iload hx hb dX13_make_156 (lv_at hl 3 rfl) ?_
                refine lv_iload_n hx hb dX13_make_158 rfl (lv_at hl 1 rfl) ?_
                refine lv_if_ne (tgt := 166) hx hb dX13_make_159 (by decide) (fun c22 => ?_) (fun c22 => ?_)
                · replace hG := gIf_n hG c22
                  refine lv_iconst (v := 0) hx hb dX13_make_166 (by decide) ?_
                  refine mSt30 C V hS (vin (N := 24) rfl (hb9.1) (hb9.2)) dX13_make_167 (fun S23 H locs eS23 V hS => ?_)
                  replace hG := gLt_e hG eS23
                  refine lv_aload_n hx hb dX13_make_168 rfl (lv_at hl 0 rfl) ?_
                  refine mG31 C V dX13_make_169 ?_
                  refine lv_iload hx hb dX13_make_172 (lv_at hl 3 rfl) ?_
                  refine lv_iconst (v := (-1)) hx hb dX13_make_174 (by decide) ?_
                  refine mSt31 C V hS (vin (N := 24) rfl (hb9.1) (hb9.2)) dX13_make_175 (fun S24 H locs eS24 V hS => ?_)
                  replace hG := gLt_e hG eS24
                  refine lv_aload_n hx hb dX13_make_176 rfl (lv_at hl 0 rfl) ?_
                  refine mG33 C V dX13_make_177 ?_
                  refine lv_iload hx hb dX13_make_180 (lv_at hl 3 rfl) ?_
                  refine lv_iconst (v := 0) hx hb dX13_make_182 (by decide) ?_
                  refine mSt33 C V hS (vin (N := 24) rfl (hb9.1) (hb9.2)) dX13_make_183 (fun S25 H locs eS25 V hS => ?_)
                  replace hG := gLt_e hG eS25
                  refine lv_aload_n hx hb dX13_make_184 rfl (lv_at hl 0 rfl) ?_
                  refine mG35 C V dX13_make_185 ?_
                  refine lv_iload hx hb dX13_make_188 (lv_at hl 3 rfl) ?_
                  refine lv_iconst (v := 0) hx hb dX13_make_190 (by decide) ?_
                  refine mSt35 C V hS (vin (N := 24) rfl (hb9.1) (hb9.2)) dX13_make_191 (fun S26 H locs eS26 V hS => ?_)
                  replace hG := gLt_e hG eS26
                  refine lv_aload_n hx hb dX13_make_192 rfl (lv_at hl 0 rfl) ?_
                  refine mG37 C V dX13_make_193 ?_
                  refine lv_iload hx hb dX13_make_196 (lv_at hl 3 rfl) ?_
                  refine lv_iconst (v := 0) hx hb dX13_make_198 (by decide) ?_
                  refine mSt37 C V hS (vin (N := 24) rfl (hb9.1) (hb9.2)) dX13_make_199 (fun S27 H locs eS27 V hS => ?_)
                  replace hG := gLt_e hG eS27
                  refine lv_iload hx hb dX13_make_200 (lv_at hl 3 rfl) ?_
                  exact mRetI C hr hlk V hS (⟨mk_inv h1 hb9 hk9 (by clear hG V hS hl C hts hown hx hb hml hr hlk ih73 hm73; first | exact fun z9 => a_100 (hj60 z9 c1) | exact fun _ => by decide) eS5 eS6 eS21 eS23 eS24 eS25 eS26 eS27, hG.symm⟩) dX13_make_202
                · replace hG := gIf_p hG c22
                  refine lv_iload_n hx hb dX13_make_162 rfl (lv_at hl 2 rfl) ?_
                  refine lv_goto (tgt := 167) hx hb dX13_make_163 (by decide) ?_
                  refine mSt30 C V hS (vin (N := 24) rfl (hb9.1) (hb9.2)) dX13_make_167 (fun S28 H locs eS28 V hS => ?_)
                  replace hG := gLt_e hG eS28
                  refine lv_aload_n hx hb dX13_make_168 rfl (lv_at hl 0 rfl) ?_
                  refine mG31 C V dX13_make_169 ?_
                  refine lv_iload hx hb dX13_make_172 (lv_at hl 3 rfl) ?_
                  refine lv_iconst (v := (-1)) hx hb dX13_make_174 (by decide) ?_
                  refine mSt31 C V hS (vin (N := 24) rfl (hb9.1) (hb9.2)) dX13_make_175 (fun S29 H locs eS29 V hS => ?_)
                  replace hG := gLt_e hG eS29
                  refine lv_aload_n hx hb dX13_make_176 rfl (lv_at hl 0 rfl) ?_
                  refine mG33 C V dX13_make_177 ?_
                  refine lv_iload hx hb dX13_make_180 (lv_at hl 3 rfl) ?_
                  refine lv_iconst (v := 0) hx hb dX13_make_182 (by decide) ?_
                  refine mSt33 C V hS (vin (N := 24) rfl (hb9.1) (hb9.2)) dX13_make_183 (fun S30 H locs eS30 V hS => ?_)
                  replace hG := gLt_e hG eS30
                  refine lv_aload_n hx hb dX13_make_184 rfl (lv_at hl 0 rfl) ?_
                  refine mG35 C V dX13_make_185 ?_
                  refine lv_iload hx hb dX13_make_188 (lv_at hl 3 rfl) ?_
                  refine lv_iconst (v := 0) hx hb dX13_make_190 (by decide) ?_
                  refine mSt35 C V hS (vin (N := 24) rfl (hb9.1) (hb9.2)) dX13_make_191 (fun S31 H locs eS31 V hS => ?_)
                  replace hG := gLt_e hG eS31
                  refine lv_aload_n hx hb dX13_make_192 rfl (lv_at hl 0 rfl) ?_
                  refine mG37 C V dX13_make_193 ?_
                  refine lv_iload hx hb dX13_make_196 (lv_at hl 3 rfl) ?_
                  refine lv_iconst (v := 0) hx hb dX13_make_198 (by decide) ?_
                  refine mSt37 C V hS (vin (N := 24) rfl (hb9.1) (hb9.2)) dX13_make_199 (fun S32 H locs eS32 V hS => ?_)
                  replace hG := gLt_e hG eS32
                  refine lv_iload hx hb dX13_make_200 (lv_at hl 3 rfl) ?_
                  exact mRetI C hr hlk V hS (⟨mk_inv h1 hb9 hk9 (by clear hG V hS hl C hts hown hx hb hml hr hlk ih73 hm73; first | exact fun z9 => a_100 (hj60 z9 c1) | exact fun _ => by decide) eS5 eS6 eS21 eS28 eS29 eS30 eS31 eS32, hG.symm⟩) dX13_make_202
              · replace hG := gIf_n hG c20
                refine lv_iload_n hx hb dX13_make_140 rfl (lv_at hl 1 rfl) ?_
                refine lv_bipush (v := 7) hx hb dX13_make_141 (by decide) ?_
                refine lv_icmp_ne (tgt := 150) hx hb dX13_make_143 (by decide) (fun c33 => ?_) (fun c33 => ?_)
                · replace hG := gIf_n hG c33
                  refine lv_iload_n hx hb dX13_make_150 rfl (lv_at hl 2 rfl) ?_
                  refine mSt29 C V hS (vin (N := 24) rfl (hb9.1) (hb9.2)) dX13_make_151 (fun S34 H locs eS34 V hS => ?_)
                  replace hG := gLt_e hG eS34
                  refine lv_aload_n hx hb dX13_make_152 rfl (lv_at hl 0 rfl) ?_
                  refine mG30 C V dX13_make_153 ?_
                  refine lv_iload hx hb dX13_make_156 (lv_at hl 3 rfl) ?_
                  refine lv_iload_n hx hb dX13_make_158 rfl (lv_at hl 1 rfl) ?_
                  refine lv_if_ne (tgt := 166) hx hb dX13_make_159 (by decide) (fun c35 => ?_) (fun c35 => ?_)
                  · replace hG := gIf_n hG c35
                    refine lv_iconst (v := 0) hx hb dX13_make_166 (by decide) ?_
                    refine mSt30 C V hS (vin (N := 24) rfl (hb9.1) (hb9.2)) dX13_make_167 (fun S36 H locs eS36 V hS => ?_)
                    replace hG := gLt_e hG eS36
                    refine lv_aload_n hx hb dX13_make_168 rfl (lv_at hl 0 rfl) ?_
                    refine mG31 C V dX13_make_169 ?_
                    refine lv_iload hx hb dX13_make_172 (lv_at hl 3 rfl) ?_
                    refine lv_iconst (v := (-1)) hx hb dX13_make_174 (by decide) ?_
                    refine mSt31 C V hS (vin (N := 24) rfl (hb9.1) (hb9.2)) dX13_make_175 (fun S37 H locs eS37 V hS => ?_)
                    replace hG := gLt_e hG eS37
                    refine lv_aload_n hx hb dX13_make_176 rfl (lv_at hl 0 rfl) ?_
                    refine mG33 C V dX13_make_177 ?_
                    refine lv_iload hx hb dX13_make_180 (lv_at hl 3 rfl) ?_
                    refine lv_iconst (v := 0) hx hb dX13_make_182 (by decide) ?_
                    refine mSt33 C V hS (vin (N := 24) rfl (hb9.1) (hb9.2)) dX13_make_183 (fun S38 H locs eS38 V hS => ?_)
                    replace hG := gLt_e hG eS38
                    refine lv_aload_n hx hb dX13_make_184 rfl (lv_at hl 0 rfl) ?_
                    refine mG35 C V dX13_make_185 ?_
                    refine lv_iload hx hb dX13_make_188 (lv_at hl 3 rfl) ?_
                    refine lv_iconst (v := 0) hx hb dX13_make_190 (by decide) ?_
                    refine mSt35 C V hS (vin (N := 24) rfl (hb9.1) (hb9.2)) dX13_make_191 (fun S39 H locs eS39 V hS => ?_)
                    replace hG := gLt_e hG eS39
                    refine lv_aload_n hx hb dX13_make_192 rfl (lv_at hl 0 rfl) ?_
                    refine mG37 C V dX13_make_193 ?_
                    refine lv_iload hx hb dX13_make_196 (lv_at hl 3 rfl) ?_
                    refine lv_iconst (v := 0) hx hb dX13_make_198 (by decide) ?_
                    refine mSt37 C V hS (vin (N := 24) rfl (hb9.1) (hb9.2)) dX13_make_199 (fun S40 H locs eS40 V hS => ?_)
                    replace hG := gLt_e hG eS40
                    refine lv_iload hx hb dX13_make_200 (lv_at hl 3 rfl) ?_
                    exact mRetI C hr hlk V hS (⟨mk_inv h1 hb9 hk9 (by clear hG V hS hl C hts hown hx hb hml hr hlk ih73 hm73; first | exact fun z9 => a_100 (hj60 z9 c1) | exact fun _ => by decide) eS5 eS6 eS34 eS36 eS37 eS38 eS39 eS40, hG.symm⟩) dX13_make_202
                  · replace hG := gIf_p hG c35
                    refine lv_iload_n hx hb dX13_make_162 rfl (lv_at hl 2 rfl) ?_
                    refine lv_goto (tgt := 167) hx hb dX13_make_163 (by decide) ?_
                    refine mSt30 C V hS (vin (N := 24) rfl (hb9.1) (hb9.2)) dX13_make_167 (fun S41 H locs eS41 V hS => ?_)
                    replace hG := gLt_e hG eS41
                    refine lv_aload_n hx hb dX13_make_168 rfl (lv_at hl 0 rfl) ?_
                    refine mG31 C V dX13_make_169 ?_
                    refine lv_iload hx hb dX13_make_172 (lv_at hl 3 rfl) ?_
                    refine lv_iconst (v := (-1)) hx hb dX13_make_174 (by decide) ?_
                    refine mSt31 C V hS (vin (N := 24) rfl (hb9.1) (hb9.2)) dX13_make_175 (fun S42 H locs eS42 V hS => ?_)
                    replace hG := gLt_e hG eS42
                    refine lv_aload_n hx hb dX13_make_176 rfl (lv_at hl 0 rfl) ?_
                    refine mG33 C V dX13_make_177 ?_
                    refine lv_iload hx hb dX13_make_180 (lv_at hl 3 rfl) ?_
                    refine lv_iconst (v := 0) hx hb dX13_make_182 (by decide) ?_
                    refine mSt33 C V hS (vin (N := 24) rfl (hb9.1) (hb9.2)) dX13_make_183 (fun S43 H locs eS43 V hS => ?_)
                    replace hG := gLt_e hG eS43
                    refine lv_aload_n hx hb dX13_make_184 rfl (lv_at hl 0 rfl) ?_
                    refine mG35 C V dX13_make_185 ?_
                    refine lv_iload hx hb dX13_make_188 (lv_at hl 3 rfl) ?_
                    refine lv_iconst (v := 0) hx hb dX13_make_190 (by decide) ?_
                    refine mSt35 C V hS (vin (N := 24) rfl (hb9.1) (hb9.2)) dX13_make_191 (fun S44 H locs eS44 V hS => ?_)
                    replace hG := gLt_e hG eS44
                    refine lv_aload_n hx hb dX13_make_192 rfl (lv_at hl 0 rfl) ?_
                    refine mG37 C V dX13_make_193 ?_
                    refine lv_iload hx hb dX13_make_196 (lv_at hl 3 rfl) ?_
                    refine lv_iconst (v := 0) hx hb dX13_make_198 (by decide) ?_
                    refine mSt37 C V hS (vin (N := 24) rfl (hb9.1) (hb9.2)) dX13_make_199 (fun S45 H locs eS45 V hS => ?_)
                    replace hG := gLt_e hG eS45
                    refine lv_iload hx hb dX13_make_200 (lv_at hl 3 rfl) ?_
                    exact mRetI C hr hlk V hS (⟨mk_inv h1 hb9 hk9 (by clear hG V hS hl C hts hown hx hb hml hr hlk ih73 hm73; first | exact fun z9 => a_100 (hj60 z9 c1) | exact fun _ => by decide) eS5 eS6 eS34 eS41 eS42 eS43 eS44 eS45, hG.symm⟩) dX13_make_202
                · replace hG := gIf_p hG c33
                  refine lv_iconst (v := 0) hx hb dX13_make_146 (by decide) ?_
                  refine lv_goto (tgt := 151) hx hb dX13_make_147 (by decide) ?_
                  refine mSt29 C V hS (vin (N := 24) rfl (hb9.1) (hb9.2)) dX13_make_151 (fun S46 H locs eS46 V hS => ?_)
                  replace hG := gLt_e hG eS46
                  refine lv_aload_n hx hb dX13_make_152 rfl (lv_at hl 0 rfl) ?_
                  refine mG30 C V dX13_make_153 ?_
                  refine lv_iload hx hb dX13_make_156 (lv_at hl 3 rfl) ?_
                  refine lv_iload_n hx hb dX13_make_158 rfl (lv_at hl 1 rfl) ?_
                  refine lv_if_ne (tgt := 166) hx hb dX13_make_159 (by decide) (fun c47 => ?_) (fun c47 => ?_)
                  · replace hG := gIf_n hG c47
                    refine lv_iconst (v := 0) hx hb dX13_make_166 (by decide) ?_
                    refine mSt30 C V hS (vin (N := 24) rfl (hb9.1) (hb9.2)) dX13_make_167 (fun S48 H locs eS48 V hS => ?_)
                    replace hG := gLt_e hG eS48
                    refine lv_aload_n hx hb dX13_make_168 rfl (lv_at hl 0 rfl) ?_
                    refine mG31 C V dX13_make_169 ?_
                    refine lv_iload hx hb dX13_make_172 (lv_at hl 3 rfl) ?_
                    refine lv_iconst (v := (-1)) hx hb dX13_make_174 (by decide) ?_
                    refine mSt31 C V hS (vin (N := 24) rfl (hb9.1) (hb9.2)) dX13_make_175 (fun S49 H locs eS49 V hS => ?_)
                    replace hG := gLt_e hG eS49
                    refine lv_aload_n hx hb dX13_make_176 rfl (lv_at hl 0 rfl) ?_
                    refine mG33 C V dX13_make_177 ?_
                    refine lv_iload hx hb dX13_make_180 (lv_at hl 3 rfl) ?_
                    refine lv_iconst (v := 0) hx hb dX13_make_182 (by decide) ?_
                    refine mSt33 C V hS (vin (N := 24) rfl (hb9.1) (hb9.2)) dX13_make_183 (fun S50 H locs eS50 V hS => ?_)
                    replace hG := gLt_e hG eS50
                    refine lv_aload_n hx hb dX13_make_184 rfl (lv_at hl 0 rfl) ?_
                    refine mG35 C V dX13_make_185 ?_
                    refine lv_iload hx hb dX13_make_188 (lv_at hl 3 rfl) ?_
                    refine lv_iconst (v := 0) hx hb dX13_make_190 (by decide) ?_
                    refine mSt35 C V hS (vin (N := 24) rfl (hb9.1) (hb9.2)) dX13_make_191 (fun S51 H locs eS51 V hS => ?_)
                    replace hG := gLt_e hG eS51
                    refine lv_aload_n hx hb dX13_make_192 rfl (lv_at hl 0 rfl) ?_
                    refine mG37 C V dX13_make_193 ?_
                    refine lv_iload hx hb dX13_make_196 (lv_at hl 3 rfl) ?_
                    refine lv_iconst (v := 0) hx hb dX13_make_198 (by decide) ?_
                    refine mSt37 C V hS (vin (N := 24) rfl (hb9.1) (hb9.2)) dX13_make_199 (fun S52 H locs eS52 V hS => ?_)
                    replace hG := gLt_e hG eS52
                    refine lv_iload hx hb dX13_make_200 (lv_at hl 3 rfl) ?_
                    exact mRetI C hr hlk V hS (⟨mk_inv h1 hb9 hk9 (by clear hG V hS hl C hts hown hx hb hml hr hlk ih73 hm73; first | exact fun z9 => a_100 (hj60 z9 c1) | exact fun _ => by decide) eS5 eS6 eS46 eS48 eS49 eS50 eS51 eS52, hG.symm⟩) dX13_make_202
                  · replace hG := gIf_p hG c47
                    refine lv_iload_n hx hb dX13_make_162 rfl (lv_at hl 2 rfl) ?_
                    refine lv_goto (tgt := 167) hx hb dX13_make_163 (by decide) ?_
                    refine mSt30 C V hS (vin (N := 24) rfl (hb9.1) (hb9.2)) dX13_make_167 (fun S53 H locs eS53 V hS => ?_)
                    replace hG := gLt_e hG eS53
                    refine lv_aload_n hx hb dX13_make_168 rfl (lv_at hl 0 rfl) ?_
                    refine mG31 C V dX13_make_169 ?_
                    refine lv_iload hx hb dX13_make_172 (lv_at hl 3 rfl) ?_
                    refine lv_iconst (v := (-1)) hx hb dX13_make_174 (by decide) ?_
                    refine mSt31 C V hS (vin (N := 24) rfl (hb9.1) (hb9.2)) dX13_make_175 (fun S54 H locs eS54 V hS => ?_)
                    replace hG := gLt_e hG eS54
                    refine lv_aload_n hx hb dX13_make_176 rfl (lv_at hl 0 rfl) ?_
                    refine mG33 C V dX13_make_177 ?_
                    refine lv_iload hx hb dX13_make_180 (lv_at hl 3 rfl) ?_
                    refine lv_iconst (v := 0) hx hb dX13_make_182 (by decide) ?_
                    refine mSt33 C V hS (vin (N := 24) rfl (hb9.1) (hb9.2)) dX13_make_183 (fun S55 H locs eS55 V hS => ?_)
                    replace hG := gLt_e hG eS55
                    refine lv_aload_n hx hb dX13_make_184 rfl (lv_at hl 0 rfl) ?_
                    refine mG35 C V dX13_make_185 ?_
                    refine lv_iload hx hb dX13_make_188 (lv_at hl 3 rfl) ?_
                    refine lv_iconst (v := 0) hx hb dX13_make_190 (by decide) ?_
                    refine mSt35 C V hS (vin (N := 24) rfl (hb9.1) (hb9.2)) dX13_make_191 (fun S56 H locs eS56 V hS => ?_)
                    replace hG := gLt_e hG eS56
                    refine lv_aload_n hx hb dX13_make_192 rfl (lv_at hl 0 rfl) ?_
                    refine mG37 C V dX13_make_193 ?_
                    refine lv_iload hx hb dX13_make_196 (lv_at hl 3 rfl) ?_
                    refine lv_iconst (v := 0) hx hb dX13_make_198 (by decide) ?_
                    refine mSt37 C V hS (vin (N := 24) rfl (hb9.1) (hb9.2)) dX13_make_199 (fun S57 H locs eS57 V hS => ?_)
                    replace hG := gLt_e hG eS57
                    refine lv_iload hx hb dX13_make_200 (lv_at hl 3 rfl) ?_
                    exact mRetI C hr hlk V hS (⟨mk_inv h1 hb9 hk9 (by clear hG V hS hl C hts hown hx hb hml hr hlk ih73 hm73; first | exact fun z9 => a_100 (hj60 z9 c1) | exact fun _ => by decide) eS5 eS6 eS46 eS53 eS54 eS55 eS56 eS57, hG.symm⟩) dX13_make_202
          · replace hG := gIf_p hG c4
            refine lv_aload_n hx hb dX13_make_103 rfl (lv_at hl 0 rfl) ?_
            refine lv_iconst (v := 2) hx hb dX13_make_104 (by decide) ?_
            refine mGoI (mRunV (As := [.int 2]) (rest := []) C hml V (c_refuse l D cs o ad A S 2  ) gM_refuse okM_refuse ⟨rfl, rfl, Nat.le_of_ble_eq_true rfl, Nat.le_of_ble_eq_true rfl⟩ hl.1 rfl (Nat.le_of_ble_eq_true rfl) dX13_make_105 ⟨Nat.zero_le _, Nat.zero_le _⟩) hS (fun r59 S58 H locs hq60 V hS => ?_)
            obtain ⟨hq60, ghq60⟩ := hq60
            replace hG := gC_e hG ghq60
            exact mRetI C hr hlk V hS (⟨pb_I h1 hq60.2 (by clear hG V hS hl C hts hown hx hb hml hr hlk ih73 hm73; decide) (by clear hG V hS hl C hts hown hx hb hml hr hlk ih73 hm73; decide), hG.symm⟩) dX13_make_108
        · replace hG := gIf_n hG c3
          refine lv_aload_n hx hb dX13_make_80 rfl (lv_at hl 0 rfl) ?_
          refine mG28 C V dX13_make_81 ?_
          refine lv_iload hx hb dX13_make_84 (lv_at hl 3 rfl) ?_
          refine mLd28 C V (vin (N := 24) rfl (hi73.1) (i_lt c3)) dX13_make_86 ?_
          refine lv_if_eq (tgt := 96) hx hb dX13_make_87 (by decide) (fun c61 => ?_) (fun c61 => ?_)
          · replace hG := gIf_p hG c61
            refine lv_iload hx hb dX13_make_96 (lv_at hl 3 rfl) ?_
            refine lv_bipush (v := 24) hx hb dX13_make_98 (by decide) ?_
            refine lv_icmp_ne (tgt := 109) hx hb dX13_make_100 (by decide) (fun c62 => ?_) (fun c62 => ?_)
            · replace hG := gIf_n hG c62
              have hb9 : 0 ≤ v73_4 ∧ v73_4 < 24 := a_24 hi73.1 hi73.2 c62
              have hk9 : gA S 28 v73_4 = 0 := by first | exact c61 | exact absurd (a_e24 hi73.2 c3) c62
              refine lv_aload_n hx hb dX13_make_109 rfl (lv_at hl 0 rfl) ?_
              refine lv_iconst (v := 0) hx hb dX13_make_110 (by decide) ?_
              refine mP0 C V hS dX13_make_111 (fun S63 H locs eS63 V hS => ?_)
              replace hG := gLt_e hG eS63
              refine lv_aload_n hx hb dX13_make_114 rfl (lv_at hl 0 rfl) ?_
              refine mG28 C V dX13_make_115 ?_
              refine lv_iload hx hb dX13_make_118 (lv_at hl 3 rfl) ?_
              refine lv_iload_n hx hb dX13_make_120 rfl (lv_at hl 1 rfl) ?_
              refine lv_iconst (v := 1) hx hb dX13_make_121 (by decide) ?_
              refine lv_iadd hx hb dX13_make_122 ?_
              refine mSt28 C V hS (vin (N := 24) rfl (hb9.1) (hb9.2)) dX13_make_123 (fun S64 H locs eS64 V hS => ?_)
              replace hG := gLt_e hG eS64
              refine lv_aload_n hx hb dX13_make_124 rfl (lv_at hl 0 rfl) ?_
              refine mG29 C V dX13_make_125 ?_
              refine lv_iload hx hb dX13_make_128 (lv_at hl 3 rfl) ?_
              refine lv_iload_n hx hb dX13_make_130 rfl (lv_at hl 1 rfl) ?_
              refine lv_if_eq (tgt := 146) hx hb dX13_make_131 (by decide) (fun c65 => ?_) (fun c65 => ?_)
              · replace hG := gIf_p hG c65
                refine lv_iconst (v := 0) hx hb dX13_make_146 (by decide) ?_
                refine lv_goto (tgt := 151) hx hb dX13_make_147 (by decide) ?_
                refine mSt29 C V hS (vin (N := 24) rfl (hb9.1) (hb9.2)) dX13_make_151 (fun S66 H locs eS66 V hS => ?_)
                replace hG := gLt_e hG eS66
                refine lv_aload_n hx hb dX13_make_152 rfl (lv_at hl 0 rfl) ?_
                refine mG30 C V dX13_make_153 ?_
                refine lv_iload hx hb dX13_make_156 (lv_at hl 3 rfl) ?_
                refine lv_iload_n hx hb dX13_make_158 rfl (lv_at hl 1 rfl) ?_
                refine lv_if_ne (tgt := 166) hx hb dX13_make_159 (by decide) (fun c67 => ?_) (fun c67 => ?_)
                · replace hG := gIf_n hG c67
                  refine lv_iconst (v := 0) hx hb dX13_make_166 (by decide) ?_
                  refine mSt30 C V hS (vin (N := 24) rfl (hb9.1) (hb9.2)) dX13_make_167 (fun S68 H locs eS68 V hS => ?_)
                  replace hG := gLt_e hG eS68
                  refine lv_aload_n hx hb dX13_make_168 rfl (lv_at hl 0 rfl) ?_
                  refine mG31 C V dX13_make_169 ?_
                  refine lv_iload hx hb dX13_make_172 (lv_at hl 3 rfl) ?_
                  refine lv_iconst (v := (-1)) hx hb dX13_make_174 (by decide) ?_
                  refine mSt31 C V hS (vin (N := 24) rfl (hb9.1) (hb9.2)) dX13_make_175 (fun S69 H locs eS69 V hS => ?_)
                  replace hG := gLt_e hG eS69
                  refine lv_aload_n hx hb dX13_make_176 rfl (lv_at hl 0 rfl) ?_
                  refine mG33 C V dX13_make_177 ?_
                  refine lv_iload hx hb dX13_make_180 (lv_at hl 3 rfl) ?_
                  refine lv_iconst (v := 0) hx hb dX13_make_182 (by decide) ?_
                  refine mSt33 C V hS (vin (N := 24) rfl (hb9.1) (hb9.2)) dX13_make_183 (fun S70 H locs eS70 V hS => ?_)
                  replace hG := gLt_e hG eS70
                  refine lv_aload_n hx hb dX13_make_184 rfl (lv_at hl 0 rfl) ?_
                  refine mG35 C V dX13_make_185 ?_
                  refine lv_iload hx hb dX13_make_188 (lv_at hl 3 rfl) ?_
                  refine lv_iconst (v := 0) hx hb dX13_make_190 (by decide) ?_
                  refine mSt35 C V hS (vin (N := 24) rfl (hb9.1) (hb9.2)) dX13_make_191 (fun S71 H locs eS71 V hS => ?_)
                  replace hG := gLt_e hG eS71
                  refine lv_aload_n hx hb dX13_make_192 rfl (lv_at hl 0 rfl) ?_
                  refine mG37 C V dX13_make_193 ?_
                  refine lv_iload hx hb dX13_make_196 (lv_at hl 3 rfl) ?_
                  refine lv_iconst (v := 0) hx hb dX13_make_198 (by decide) ?_
                  refine mSt37 C V hS (vin (N := 24) rfl (hb9.1) (hb9.2)) dX13_make_199 (fun S72 H locs eS72 V hS => ?_)
                  replace hG := gLt_e hG eS72
                  refine lv_iload hx hb dX13_make_200 (lv_at hl 3 rfl) ?_
                  exact mRetI C hr hlk V hS (⟨mk_inv h1 hb9 hk9 (by clear hG V hS hl C hts hown hx hb hml hr hlk ih73 hm73; first | exact fun z9 => a_100 (hj60 z9 c1) | exact fun _ => by decide) eS63 eS64 eS66 eS68 eS69 eS70 eS71 eS72, hG.symm⟩) dX13_make_202
                · replace hG := gIf_p hG c67
                  refine lv_iload_n hx hb dX13_make_162 rfl (lv_at hl 2 rfl) ?_
                  refine lv_goto (tgt := 167) hx hb dX13_make_163 (by decide) ?_
                  refine mSt30 C V hS (vin (N := 24) rfl (hb9.1) (hb9.2)) dX13_make_167 (fun S73 H locs eS73 V hS => ?_)
                  replace hG := gLt_e hG eS73
                  refine lv_aload_n hx hb dX13_make_168 rfl (lv_at hl 0 rfl) ?_
                  refine mG31 C V dX13_make_169 ?_
                  refine lv_iload hx hb dX13_make_172 (lv_at hl 3 rfl) ?_
                  refine lv_iconst (v := (-1)) hx hb dX13_make_174 (by decide) ?_
                  refine mSt31 C V hS (vin (N := 24) rfl (hb9.1) (hb9.2)) dX13_make_175 (fun S74 H locs eS74 V hS => ?_)
                  replace hG := gLt_e hG eS74
                  refine lv_aload_n hx hb dX13_make_176 rfl (lv_at hl 0 rfl) ?_
                  refine mG33 C V dX13_make_177 ?_
                  refine lv_iload hx hb dX13_make_180 (lv_at hl 3 rfl) ?_
                  refine lv_iconst (v := 0) hx hb dX13_make_182 (by decide) ?_
                  refine mSt33 C V hS (vin (N := 24) rfl (hb9.1) (hb9.2)) dX13_make_183 (fun S75 H locs eS75 V hS => ?_)
                  replace hG := gLt_e hG eS75
                  refine lv_aload_n hx hb dX13_make_184 rfl (lv_at hl 0 rfl) ?_
                  refine mG35 C V dX13_make_185 ?_
                  refine lv_iload hx hb dX13_make_188 (lv_at hl 3 rfl) ?_
                  refine lv_iconst (v := 0) hx hb dX13_make_190 (by decide) ?_
                  refine mSt35 C V hS (vin (N := 24) rfl (hb9.1) (hb9.2)) dX13_make_191 (fun S76 H locs eS76 V hS => ?_)
                  replace hG := gLt_e hG eS76
                  refine lv_aload_n hx hb dX13_make_192 rfl (lv_at hl 0 rfl) ?_
                  refine mG37 C V dX13_make_193 ?_
                  refine lv_iload hx hb dX13_make_196 (lv_at hl 3 rfl) ?_
                  refine lv_iconst (v := 0) hx hb dX13_make_198 (by decide) ?_
                  refine mSt37 C V hS (vin (N := 24) rfl (hb9.1) (hb9.2)) dX13_make_199 (fun S77 H locs eS77 V hS => ?_)
                  replace hG := gLt_e hG eS77
                  refine lv_iload hx hb dX13_make_200 (lv_at hl 3 rfl) ?_
                  exact mRetI C hr hlk V hS (⟨mk_inv h1 hb9 hk9 (by clear hG V hS hl C hts hown hx hb hml hr hlk ih73 hm73; first | exact fun z9 => a_100 (hj60 z9 c1) | exact fun _ => by decide) eS63 eS64 eS66 eS73 eS74 eS75 eS76 eS77, hG.symm⟩) dX13_make_202
              · replace hG := gIf_n hG c65
                refine lv_iload_n hx hb dX13_make_134 rfl (lv_at hl 1 rfl) ?_
                refine lv_bipush (v := 6) hx hb dX13_make_135 (by decide) ?_
                refine lv_icmp_eq (tgt := 146) hx hb dX13_make_137 (by decide) (fun c78 => ?_) (fun c78 => ?_)
                · replace hG := gIf_p hG c78
                  refine lv_iconst (v := 0) hx hb dX13_make_146 (by decide) ?_
                  refine lv_goto (tgt := 151) hx hb dX13_make_147 (by decide) ?_
                  refine mSt29 C V hS (vin (N := 24) rfl (hb9.1) (hb9.2)) dX13_make_151 (fun S79 H locs eS79 V hS => ?_)
                  replace hG := gLt_e hG eS79
                  refine lv_aload_n hx hb dX13_make_152 rfl (lv_at hl 0 rfl) ?_
                  refine mG30 C V dX13_make_153 ?_
                  refine lv_iload hx hb dX13_make_156 (lv_at hl 3 rfl) ?_
                  refine lv_iload_n hx hb dX13_make_158 rfl (lv_at hl 1 rfl) ?_
                  refine lv_if_ne (tgt := 166) hx hb dX13_make_159 (by decide) (fun c80 => ?_) (fun c80 => ?_)
                  · replace hG := gIf_n hG c80
                    refine lv_iconst (v := 0) hx hb dX13_make_166 (by decide) ?_
                    refine mSt30 C V hS (vin (N := 24) rfl (hb9.1) (hb9.2)) dX13_make_167 (fun S81 H locs eS81 V hS => ?_)
                    replace hG := gLt_e hG eS81
                    refine lv_aload_n hx hb dX13_make_168 rfl (lv_at hl 0 rfl) ?_
                    refine mG31 C V dX13_make_169 ?_
                    refine lv_iload hx hb dX13_make_172 (lv_at hl 3 rfl) ?_
                    refine lv_iconst (v := (-1)) hx hb dX13_make_174 (by decide) ?_
                    refine mSt31 C V hS (vin (N := 24) rfl (hb9.1) (hb9.2)) dX13_make_175 (fun S82 H locs eS82 V hS => ?_)
                    replace hG := gLt_e hG eS82
                    refine lv_aload_n hx hb dX13_make_176 rfl (lv_at hl 0 rfl) ?_
                    refine mG33 C V dX13_make_177 ?_
                    refine lv_iload hx hb dX13_make_180 (lv_at hl 3 rfl) ?_
                    refine lv_iconst (v := 0) hx hb dX13_make_182 (by decide) ?_
                    refine mSt33 C V hS (vin (N := 24) rfl (hb9.1) (hb9.2)) dX13_make_183 (fun S83 H locs eS83 V hS => ?_)
                    replace hG := gLt_e hG eS83
                    refine lv_aload_n hx hb dX13_make_184 rfl (lv_at hl 0 rfl) ?_
                    refine mG35 C V dX13_make_185 ?_
                    refine lv_iload hx hb dX13_make_188 (lv_at hl 3 rfl) ?_
                    refine lv_iconst (v := 0) hx hb dX13_make_190 (by decide) ?_
                    refine mSt35 C V hS (vin (N := 24) rfl (hb9.1) (hb9.2)) dX13_make_191 (fun S84 H locs eS84 V hS => ?_)
                    replace hG := gLt_e hG eS84
                    refine lv_aload_n hx hb dX13_make_192 rfl (lv_at hl 0 rfl) ?_
                    refine mG37 C V dX13_make_193 ?_
                    refine lv_iload hx hb dX13_make_196 (lv_at hl 3 rfl) ?_
                    refine lv_iconst (v := 0) hx hb dX13_make_198 (by decide) ?_
                    refine mSt37 C V hS (vin (N := 24) rfl (hb9.1) (hb9.2)) dX13_make_199 (fun S85 H locs eS85 V hS => ?_)
                    replace hG := gLt_e hG eS85
                    refine lv_iload hx hb dX13_make_200 (lv_at hl 3 rfl) ?_
                    exact mRetI C hr hlk V hS (⟨mk_inv h1 hb9 hk9 (by clear hG V hS hl C hts hown hx hb hml hr hlk ih73 hm73; first | exact fun z9 => a_100 (hj60 z9 c1) | exact fun _ => by decide) eS63 eS64 eS79 eS81 eS82 eS83 eS84 eS85, hG.symm⟩) dX13_make_202
                  · replace hG := gIf_p hG c80
                    refine lv_iload_n hx hb dX13_make_162 rfl (lv_at hl 2 rfl) ?_
                    refine lv_goto (tgt := 167) hx hb dX13_make_163 (by decide) ?_
                    refine mSt30 C V hS (vin (N := 24) rfl (hb9.1) (hb9.2)) dX13_make_167 (fun S86 H locs eS86 V hS => ?_)
                    replace hG := gLt_e hG eS86
                    refine lv_aload_n hx hb dX13_make_168 rfl (lv_at hl 0 rfl) ?_
                    refine mG31 C V dX13_make_169 ?_
                    refine lv_iload hx hb dX13_make_172 (lv_at hl 3 rfl) ?_
                    refine lv_iconst (v := (-1)) hx hb dX13_make_174 (by decide) ?_
                    refine mSt31 C V hS (vin (N := 24) rfl (hb9.1) (hb9.2)) dX13_make_175 (fun S87 H locs eS87 V hS => ?_)
                    replace hG := gLt_e hG eS87
                    refine lv_aload_n hx hb dX13_make_176 rfl (lv_at hl 0 rfl) ?_
                    refine mG33 C V dX13_make_177 ?_
                    refine lv_iload hx hb dX13_make_180 (lv_at hl 3 rfl) ?_
                    refine lv_iconst (v := 0) hx hb dX13_make_182 (by decide) ?_
                    refine mSt33 C V hS (vin (N := 24) rfl (hb9.1) (hb9.2)) dX13_make_183 (fun S88 H locs eS88 V hS => ?_)
                    replace hG := gLt_e hG eS88
                    refine lv_aload_n hx hb dX13_make_184 rfl (lv_at hl 0 rfl) ?_
                    refine mG35 C V dX13_make_185 ?_
                    refine lv_iload hx hb dX13_make_188 (lv_at hl 3 rfl) ?_
                    refine lv_iconst (v := 0) hx hb dX13_make_190 (by decide) ?_
                    refine mSt35 C V hS (vin (N := 24) rfl (hb9.1) (hb9.2)) dX13_make_191 (fun S89 H locs eS89 V hS => ?_)
                    replace hG := gLt_e hG eS89
                    refine lv_aload_n hx hb dX13_make_192 rfl (lv_at hl 0 rfl) ?_
                    refine mG37 C V dX13_make_193 ?_
                    refine lv_iload hx hb dX13_make_196 (lv_at hl 3 rfl) ?_
                    refine lv_iconst (v := 0) hx hb dX13_make_198 (by decide) ?_
                    refine mSt37 C V hS (vin (N := 24) rfl (hb9.1) (hb9.2)) dX13_make_199 (fun S90 H locs eS90 V hS => ?_)
                    replace hG := gLt_e hG eS90
                    refine lv_iload hx hb dX13_make_200 (lv_at hl 3 rfl) ?_
                    exact mRetI C hr hlk V hS (⟨mk_inv h1 hb9 hk9 (by clear hG V hS hl C hts hown hx hb hml hr hlk ih73 hm73; first | exact fun z9 => a_100 (hj60 z9 c1) | exact fun _ => by decide) eS63 eS64 eS79 eS86 eS87 eS88 eS89 eS90, hG.symm⟩) dX13_make_202
                · replace hG := gIf_n hG c78
                  refine lv_iload_n hx hb dX13_make_140 rfl (lv_at hl 1 rfl) ?_
                  refine lv_bipush (v := 7) hx hb dX13_make_141 (by decide) ?_
                  refine lv_icmp_ne (tgt := 150) hx hb dX13_make_143 (by decide) (fun c91 => ?_) (fun c91 => ?_)
                  · replace hG := gIf_n hG c91
                    refine lv_iload_n hx hb dX13_make_150 rfl (lv_at hl 2 rfl) ?_
                    refine mSt29 C V hS (vin (N := 24) rfl (hb9.1) (hb9.2)) dX13_make_151 (fun S92 H locs eS92 V hS => ?_)
                    replace hG := gLt_e hG eS92
                    refine lv_aload_n hx hb dX13_make_152 rfl (lv_at hl 0 rfl) ?_
                    refine mG30 C V dX13_make_153 ?_
                    refine lv_iload hx hb dX13_make_156 (lv_at hl 3 rfl) ?_
                    refine lv_iload_n hx hb dX13_make_158 rfl (lv_at hl 1 rfl) ?_
                    refine lv_if_ne (tgt := 166) hx hb dX13_make_159 (by decide) (fun c93 => ?_) (fun c93 => ?_)
                    · replace hG := gIf_n hG c93
                      refine lv_iconst (v := 0) hx hb dX13_make_166 (by decide) ?_
                      refine mSt30 C V hS (vin (N := 24) rfl (hb9.1) (hb9.2)) dX13_make_167 (fun S94 H locs eS94 V hS => ?_)
                      replace hG := gLt_e hG eS94
                      refine lv_aload_n hx hb dX13_make_168 rfl (lv_at hl 0 rfl) ?_
                      refine mG31 C V dX13_make_169 ?_
                      refine lv_iload hx hb dX13_make_172 (lv_at hl 3 rfl) ?_
                      refine lv_iconst (v := (-1)) hx hb dX13_make_174 (by decide) ?_
                      refine mSt31 C V hS (vin (N := 24) rfl (hb9.1) (hb9.2)) dX13_make_175 (fun S95 H locs eS95 V hS => ?_)
                      replace hG := gLt_e hG eS95
                      refine lv_aload_n hx hb dX13_make_176 rfl (lv_at hl 0 rfl) ?_
                      refine mG33 C V dX13_make_177 ?_
                      refine lv_iload hx hb dX13_make_180 (lv_at hl 3 rfl) ?_
                      refine lv_iconst (v := 0) hx hb dX13_make_182 (by decide) ?_
                      refine mSt33 C V hS (vin (N := 24) rfl (hb9.1) (hb9.2)) dX13_make_183 (fun S96 H locs eS96 V hS => ?_)
                      replace hG := gLt_e hG eS96
                      refine lv_aload_n hx hb dX13_make_184 rfl (lv_at hl 0 rfl) ?_
                      refine mG35 C V dX13_make_185 ?_
                      refine lv_iload hx hb dX13_make_188 (lv_at hl 3 rfl) ?_
                      refine lv_iconst (v := 0) hx hb dX13_make_190 (by decide) ?_
                      refine mSt35 C V hS (vin (N := 24) rfl (hb9.1) (hb9.2)) dX13_make_191 (fun S97 H locs eS97 V hS => ?_)
                      replace hG := gLt_e hG eS97
                      refine lv_aload_n hx hb dX13_make_192 rfl (lv_at hl 0 rfl) ?_
                      refine mG37 C V dX13_make_193 ?_
                      refine lv_iload hx hb dX13_make_196 (lv_at hl 3 rfl) ?_
                      refine lv_iconst (v := 0) hx hb dX13_make_198 (by decide) ?_
                      refine mSt37 C V hS (vin (N := 24) rfl (hb9.1) (hb9.2)) dX13_make_199 (fun S98 H locs eS98 V hS => ?_)
                      replace hG := gLt_e hG eS98
                      refine lv_iload hx hb dX13_make_200 (lv_at hl 3 rfl) ?_
                      exact mRetI C hr hlk V hS (⟨mk_inv h1 hb9 hk9 (by clear hG V hS hl C hts hown hx hb hml hr hlk ih73 hm73; first | exact fun z9 => a_100 (hj60 z9 c1) | exact fun _ => by decide) eS63 eS64 eS92 eS94 eS95 eS96 eS97 eS98, hG.symm⟩) dX13_make_202
                    · replace hG := gIf_p hG c93
                      refine lv_iload_n hx hb dX13_make_162 rfl (lv_at hl 2 rfl) ?_
                      refine lv_goto (tgt := 167) hx hb dX13_make_163 (by decide) ?_
                      refine mSt30 C V hS (vin (N := 24) rfl (hb9.1) (hb9.2)) dX13_make_167 (fun S99 H locs eS99 V hS => ?_)
                      replace hG := gLt_e hG eS99
                      refine lv_aload_n hx hb dX13_make_168 rfl (lv_at hl 0 rfl) ?_
                      refine mG31 C V dX13_make_169 ?_
                      refine lv_iload hx hb dX13_make_172 (lv_at hl 3 rfl) ?_
                      refine lv_iconst (v := (-1)) hx hb dX13_make_174 (by decide) ?_
                      refine mSt31 C V hS (vin (N := 24) rfl (hb9.1) (hb9.2)) dX13_make_175 (fun S100 H locs eS100 V hS => ?_)
                      replace hG := gLt_e hG eS100
                      refine lv_aload_n hx hb dX13_make_176 rfl (lv_at hl 0 rfl) ?_
                      refine mG33 C V dX13_make_177 ?_
                      refine lv_iload hx hb dX13_make_180 (lv_at hl 3 rfl) ?_
                      refine lv_iconst (v := 0) hx hb dX13_make_182 (by decide) ?_
                      refine mSt33 C V hS (vin (N := 24) rfl (hb9.1) (hb9.2)) dX13_make_183 (fun S101 H locs eS101 V hS => ?_)
                      replace hG := gLt_e hG eS101
                      refine lv_aload_n hx hb dX13_make_184 rfl (lv_at hl 0 rfl) ?_
                      refine mG35 C V dX13_make_185 ?_
                      refine lv_iload hx hb dX13_make_188 (lv_at hl 3 rfl) ?_
                      refine lv_iconst (v := 0) hx hb dX13_make_190 (by decide) ?_
                      refine mSt35 C V hS (vin (N := 24) rfl (hb9.1) (hb9.2)) dX13_make_191 (fun S102 H locs eS102 V hS => ?_)
                      replace hG := gLt_e hG eS102
                      refine lv_aload_n hx hb dX13_make_192 rfl (lv_at hl 0 rfl) ?_
                      refine mG37 C V dX13_make_193 ?_
                      refine lv_iload hx hb dX13_make_196 (lv_at hl 3 rfl) ?_
                      refine lv_iconst (v := 0) hx hb dX13_make_198 (by decide) ?_
                      refine mSt37 C V hS (vin (N := 24) rfl (hb9.1) (hb9.2)) dX13_make_199 (fun S103 H locs eS103 V hS => ?_)
                      replace hG := gLt_e hG eS103
                      refine lv_iload hx hb dX13_make_200 (lv_at hl 3 rfl) ?_
                      exact mRetI C hr hlk V hS (⟨mk_inv h1 hb9 hk9 (by clear hG V hS hl C hts hown hx hb hml hr hlk ih73 hm73; first | exact fun z9 => a_100 (hj60 z9 c1) | exact fun _ => by decide) eS63 eS64 eS92 eS99 eS100 eS101 eS102 eS103, hG.symm⟩) dX13_make_202
                  · replace hG := gIf_p hG c91
                    refine lv_iconst (v := 0) hx hb dX13_make_146 (by decide) ?_
                    refine lv_goto (tgt := 151) hx hb dX13_make_147 (by decide) ?_
                    refine mSt29 C V hS (vin (N := 24) rfl (hb9.1) (hb9.2)) dX13_make_151 (fun S104 H locs eS104 V hS => ?_)
                    replace hG := gLt_e hG eS104
                    refine lv_aload_n hx hb dX13_make_152 rfl (lv_at hl 0 rfl) ?_
                    refine mG30 C V dX13_make_153 ?_
                    refine lv_iload hx hb dX13_make_156 (lv_at hl 3 rfl) ?_
                    refine lv_iload_n hx hb dX13_make_158 rfl (lv_at hl 1 rfl) ?_
                    refine lv_if_ne (tgt := 166) hx hb dX13_make_159 (by decide) (fun c105 => ?_) (fun c105 => ?_)
                    · replace hG := gIf_n hG c105
                      refine lv_iconst (v := 0) hx hb dX13_make_166 (by decide) ?_
                      refine mSt30 C V hS (vin (N := 24) rfl (hb9.1) (hb9.2)) dX13_make_167 (fun S106 H locs eS106 V hS => ?_)
                      replace hG := gLt_e hG eS106
                      refine lv_aload_n hx hb dX13_make_168 rfl (lv_at hl 0 rfl) ?_
                      refine mG31 C V dX13_make_169 ?_
                      refine lv_iload hx hb dX13_make_172 (lv_at hl 3 rfl) ?_
                      refine lv_iconst (v := (-1)) hx hb dX13_make_174 (by decide) ?_
                      refine mSt31 C V hS (vin (N := 24) rfl (hb9.1) (hb9.2)) dX13_make_175 (fun S107 H locs eS107 V hS => ?_)
                      replace hG := gLt_e hG eS107
                      refine lv_aload_n hx hb dX13_make_176 rfl (lv_at hl 0 rfl) ?_
                      refine mG33 C V dX13_make_177 ?_
                      refine lv_iload hx hb dX13_make_180 (lv_at hl 3 rfl) ?_
                      refine lv_iconst (v := 0) hx hb dX13_make_182 (by decide) ?_
                      refine mSt33 C V hS (vin (N := 24) rfl (hb9.1) (hb9.2)) dX13_make_183 (fun S108 H locs eS108 V hS => ?_)
                      replace hG := gLt_e hG eS108
                      refine lv_aload_n hx hb dX13_make_184 rfl (lv_at hl 0 rfl) ?_
                      refine mG35 C V dX13_make_185 ?_
                      refine lv_iload hx hb dX13_make_188 (lv_at hl 3 rfl) ?_
                      refine lv_iconst (v := 0) hx hb dX13_make_190 (by decide) ?_
                      refine mSt35 C V hS (vin (N := 24) rfl (hb9.1) (hb9.2)) dX13_make_191 (fun S109 H locs eS109 V hS => ?_)
                      replace hG := gLt_e hG eS109
                      refine lv_aload_n hx hb dX13_make_192 rfl (lv_at hl 0 rfl) ?_
                      refine mG37 C V dX13_make_193 ?_
                      refine lv_iload hx hb dX13_make_196 (lv_at hl 3 rfl) ?_
                      refine lv_iconst (v := 0) hx hb dX13_make_198 (by decide) ?_
                      refine mSt37 C V hS (vin (N := 24) rfl (hb9.1) (hb9.2)) dX13_make_199 (fun S110 H locs eS110 V hS => ?_)
                      replace hG := gLt_e hG eS110
                      refine lv_iload hx hb dX13_make_200 (lv_at hl 3 rfl) ?_
                      exact mRetI C hr hlk V hS (⟨mk_inv h1 hb9 hk9 (by clear hG V hS hl C hts hown hx hb hml hr hlk ih73 hm73; first | exact fun z9 => a_100 (hj60 z9 c1) | exact fun _ => by decide) eS63 eS64 eS104 eS106 eS107 eS108 eS109 eS110, hG.symm⟩) dX13_make_202
                    · replace hG := gIf_p hG c105
                      refine lv_iload_n hx hb dX13_make_162 rfl (lv_at hl 2 rfl) ?_
                      refine lv_goto (tgt := 167) hx hb dX13_make_163 (by decide) ?_
                      refine mSt30 C V hS (vin (N := 24) rfl (hb9.1) (hb9.2)) dX13_make_167 (fun S111 H locs eS111 V hS => ?_)
                      replace hG := gLt_e hG eS111
                      refine lv_aload_n hx hb dX13_make_168 rfl (lv_at hl 0 rfl) ?_
                      refine mG31 C V dX13_make_169 ?_
                      refine lv_iload hx hb dX13_make_172 (lv_at hl 3 rfl) ?_
                      refine lv_iconst (v := (-1)) hx hb dX13_make_174 (by decide) ?_
                      refine mSt31 C V hS (vin (N := 24) rfl (hb9.1) (hb9.2)) dX13_make_175 (fun S112 H locs eS112 V hS => ?_)
                      replace hG := gLt_e hG eS112
                      refine lv_aload_n hx hb dX13_make_176 rfl (lv_at hl 0 rfl) ?_
                      refine mG33 C V dX13_make_177 ?_
                      refine lv_iload hx hb dX13_make_180 (lv_at hl 3 rfl) ?_
                      refine lv_iconst (v := 0) hx hb dX13_make_182 (by decide) ?_
                      refine mSt33 C V hS (vin (N := 24) rfl (hb9.1) (hb9.2)) dX13_make_183 (fun S113 H locs eS113 V hS => ?_)
                      replace hG := gLt_e hG eS113
                      refine lv_aload_n hx hb dX13_make_184 rfl (lv_at hl 0 rfl) ?_
                      refine mG35 C V dX13_make_185 ?_
                      refine lv_iload hx hb dX13_make_188 (lv_at hl 3 rfl) ?_
                      refine lv_iconst (v := 0) hx hb dX13_make_190 (by decide) ?_
                      refine mSt35 C V hS (vin (N := 24) rfl (hb9.1) (hb9.2)) dX13_make_191 (fun S114 H locs eS114 V hS => ?_)
                      replace hG := gLt_e hG eS114
                      refine lv_aload_n hx hb dX13_make_192 rfl (lv_at hl 0 rfl) ?_
                      refine mG37 C V dX13_make_193 ?_
                      refine lv_iload hx hb dX13_make_196 (lv_at hl 3 rfl) ?_
                      refine lv_iconst (v := 0) hx hb dX13_make_198 (by decide) ?_
                      refine mSt37 C V hS (vin (N := 24) rfl (hb9.1) (hb9.2)) dX13_make_199 (fun S115 H locs eS115 V hS => ?_)
                      replace hG := gLt_e hG eS115
                      refine lv_iload hx hb dX13_make_200 (lv_at hl 3 rfl) ?_
                      exact mRetI C hr hlk V hS (⟨mk_inv h1 hb9 hk9 (by clear hG V hS hl C hts hown hx hb hml hr hlk ih73 hm73; first | exact fun z9 => a_100 (hj60 z9 c1) | exact fun _ => by decide) eS63 eS64 eS104 eS111 eS112 eS113 eS114 eS115, hG.symm⟩) dX13_make_202
            · replace hG := gIf_p hG c62
              refine lv_aload_n hx hb dX13_make_103 rfl (lv_at hl 0 rfl) ?_
              refine lv_iconst (v := 2) hx hb dX13_make_104 (by decide) ?_
              refine mGoI (mRunV (As := [.int 2]) (rest := []) C hml V (c_refuse l D cs o ad A S 2  ) gM_refuse okM_refuse ⟨rfl, rfl, Nat.le_of_ble_eq_true rfl, Nat.le_of_ble_eq_true rfl⟩ hl.1 rfl (Nat.le_of_ble_eq_true rfl) dX13_make_105 ⟨Nat.zero_le _, Nat.zero_le _⟩) hS (fun r117 S116 H locs hq118 V hS => ?_)
              obtain ⟨hq118, ghq118⟩ := hq118
              replace hG := gC_e hG ghq118
              exact mRetI C hr hlk V hS (⟨pb_I h1 hq118.2 (by clear hG V hS hl C hts hown hx hb hml hr hlk ih73 hm73; decide) (by clear hG V hS hl C hts hown hx hb hml hr hlk ih73 hm73; decide), hG.symm⟩) dX13_make_108
          · replace hG := gIf_n hG c61
            obtain ⟨x119, ex119⟩ : ∃ y : Int32, y = v73_4 + (1) := ⟨_, rfl⟩
            replace hG := gLt_e hG ex119
            refine lv_iinc (v := x119) (lv' := [(4, .int x119), (0, .ref o), (1, .int k), (2, .int x)]) hx hb dX13_make_90 hl (k := 3) rfl (by rw [ex119]; rfl) (by decide) rfl (fun ls hl => ?_)
            refine lv_goto (tgt := 73) hx hb dX13_make_93 (by decide) ?_
            exact ih73 x119  _ _ _ (a_up ex119 hi73.1 (i_lt c3)) (msd hm73 (a_dec ex119 hi73.1 (i_lt c3)).1 (a_dec ex119 hi73.1 (i_lt c3)).2) hG V hS (lv_sub hl [1, 2, 3, 0] rfl)
    exact loop73 ((24 - x2).toInt.toNat + 1) x2  _ _ _ (by clear hG V hS hl C hts hown hx hb hml hr hlk; rw [ex2]; decide) (Nat.lt_succ_self _) hG V hS (lv_sub hl [1, 2, 3, 0] rfl)
  · replace hG := gIf_p hG c1
    refine lv_aload_n hx hb dX13_make_64 rfl (lv_at hl 0 rfl) ?_
    refine lv_iconst (v := 1) hx hb dX13_make_65 (by decide) ?_
    refine mGoI (mRunV (As := [.int 1]) (rest := []) C hml V (c_refuse l D cs o ad A S 1  ) gM_refuse okM_refuse ⟨rfl, rfl, Nat.le_of_ble_eq_true rfl, Nat.le_of_ble_eq_true rfl⟩ hl.1 rfl (Nat.le_of_ble_eq_true rfl) dX13_make_66 ⟨Nat.zero_le _, Nat.zero_le _⟩) hS (fun r121 S120 H locs hq122 V hS => ?_)
    obtain ⟨hq122, ghq122⟩ := hq122
    replace hG := gC_e hG ghq122
    exact mRetI C hr hlk V hS (⟨pb_I h1 hq122.2 (by clear hG V hS hl C hts hown hx hb hml hr hlk; decide) (by clear hG V hS hl C hts hown hx hb hml hr hlk; decide), hG.symm⟩) dX13_make_69
set_option maxHeartbeats 400000 in
set_option maxRecDepth 100000 in
theorem j_make_47 {p : Program} {e : Env} {s : State} {m : MethodId} {below : List Frame} {meth : Method} {c : Code} (l : Launch) (D : va_G) (cs : ClassId × ClassId × ClassId) (o : Nat) (ad : Nat → Nat) (A : Nat → Prop) (S : mS) (k : Int32) (x : Int32)  (h1 : mInv S) (C : mC p s m ([.ref o, .int k, .int x] : List Value).toArray c cX13_make D cs) (hml : c.maxLocals = 5) (hr : meth.sig.returnType = (some .int)) (hlk : meth.locks = false) (j47_3 : Int32)  (H : Heap) (locs : List Loc) (ls : Array Slot) (hj47 : True) (hG : G_make S k x = G_make_J47 S k x j47_3) (V : mV D cs o ad A S H) (hS : va_S A s.heap H locs) (hl : lv_has ls 5 [(0, .ref o), (1, .int k), (2, .int x), (3, .int j47_3)]) : W p l e ({ frames := 1, cells := 0, slots := 0, locals := 22 } : Room) s m ([.ref o, .int k, .int x] : List Value).toArray below meth c H locs 0 0 (MQ below (va_Qi (fun r9 S9 => (mInv S9 ∧ gI S9 2 = gI S 2) ∧ (r9, S9) = G_make S k x) (mB D cs o ad A) A) ([.ref o, .int k, .int x] : List Value).toArray s 0 0 A) (F0 m 47 ls []) := by
  have hx := C.1
  have hb := C.2.1
  have hown := C.2.2.1
  have hts := C.2.2.2.1
  rw [G_make_J47] at hG
  refine lv_iload_n hx hb dX13_make_47 rfl (lv_at hl 1 rfl) ?_
  refine lv_iconst (v := 4) hx hb dX13_make_48 (by decide) ?_
  refine lv_icmp_ne (tgt := 60) hx hb dX13_make_49 (by decide) (fun c123 => ?_) (fun c123 => ?_)
  · replace hG := gIf_n hG c123
    exact j_make_60 l D cs o ad A S k x h1 C hml hr hlk j47_3  _ _ _ (by clear hG V hS hl C hts hown hx hb hml hr hlk; first | exact fun _ z9 => in_y nope9 z9 | exact fun z9 => absurd z9 c123) hG V hS (lv_sub hl [0, 1, 2, 3] rfl)
  · replace hG := gIf_p hG c123
    refine lv_iload_n hx hb dX13_make_52 rfl (lv_at hl 2 rfl) ?_
    refine lv_iconst (v := 1) hx hb dX13_make_53 (by decide) ?_
    refine lv_bipush (v := 100) hx hb dX13_make_54 (by decide) ?_
    refine mGoQ (mRunS (As := [.int x, .int 1, .int 100]) (rest := []) C hml V (c_in l D cs o ad A S x 1 100  ) gM_in okM_in ⟨rfl, rfl, Nat.le_of_ble_eq_true rfl, Nat.le_of_ble_eq_true rfl⟩ hl.1 rfl (Nat.le_of_ble_eq_true rfl) dX13_make_56 ⟨Nat.zero_le _, Nat.zero_le _⟩) hS (fun r125 H locs hq126 V hS => ?_)
    obtain ⟨hq126, ghq126⟩ := hq126
    replace hG := gLt_e hG ghq126
    refine lv_istore_n (lv' := [(3, .int r125), (0, .ref o), (1, .int k), (2, .int x)]) hx hb dX13_make_59 rfl hl (by decide) rfl (fun ls hl => ?_)
    exact j_make_60 l D cs o ad A S k x h1 C hml hr hlk r125  _ _ _ (by clear hG V hS hl C hts hown hx hb hml hr hlk; first | exact fun _ z9 => in_y hq126 z9 | exact fun z9 => absurd z9 c123) hG V hS (lv_sub hl [1, 2, 3, 0] rfl)
set_option maxHeartbeats 400000 in
set_option maxRecDepth 100000 in
theorem j_make_34 {p : Program} {e : Env} {s : State} {m : MethodId} {below : List Frame} {meth : Method} {c : Code} (l : Launch) (D : va_G) (cs : ClassId × ClassId × ClassId) (o : Nat) (ad : Nat → Nat) (A : Nat → Prop) (S : mS) (k : Int32) (x : Int32)  (h1 : mInv S) (C : mC p s m ([.ref o, .int k, .int x] : List Value).toArray c cX13_make D cs) (hml : c.maxLocals = 5) (hr : meth.sig.returnType = (some .int)) (hlk : meth.locks = false) (j34_3 : Int32)  (H : Heap) (locs : List Loc) (ls : Array Slot) (hj34 : True) (hG : G_make S k x = G_make_J34 S k x j34_3) (V : mV D cs o ad A S H) (hS : va_S A s.heap H locs) (hl : lv_has ls 5 [(0, .ref o), (1, .int k), (2, .int x), (3, .int j34_3)]) : W p l e ({ frames := 1, cells := 0, slots := 0, locals := 22 } : Room) s m ([.ref o, .int k, .int x] : List Value).toArray below meth c H locs 0 0 (MQ below (va_Qi (fun r9 S9 => (mInv S9 ∧ gI S9 2 = gI S 2) ∧ (r9, S9) = G_make S k x) (mB D cs o ad A) A) ([.ref o, .int k, .int x] : List Value).toArray s 0 0 A) (F0 m 34 ls []) := by
  have hx := C.1
  have hb := C.2.1
  have hown := C.2.2.1
  have hts := C.2.2.2.1
  rw [G_make_J34] at hG
  refine lv_iload_n hx hb dX13_make_34 rfl (lv_at hl 1 rfl) ?_
  refine lv_iconst (v := 3) hx hb dX13_make_35 (by decide) ?_
  refine lv_icmp_ne (tgt := 47) hx hb dX13_make_36 (by decide) (fun c127 => ?_) (fun c127 => ?_)
  · replace hG := gIf_n hG c127
    exact j_make_47 l D cs o ad A S k x h1 C hml hr hlk j34_3  _ _ _ (trivial) hG V hS (lv_sub hl [0, 1, 2, 3] rfl)
  · replace hG := gIf_p hG c127
    refine lv_iload_n hx hb dX13_make_39 rfl (lv_at hl 2 rfl) ?_
    refine lv_iconst (v := 1) hx hb dX13_make_40 (by decide) ?_
    refine lv_bipush (v := 8) hx hb dX13_make_41 (by decide) ?_
    refine mGoQ (mRunS (As := [.int x, .int 1, .int 8]) (rest := []) C hml V (c_in l D cs o ad A S x 1 8  ) gM_in okM_in ⟨rfl, rfl, Nat.le_of_ble_eq_true rfl, Nat.le_of_ble_eq_true rfl⟩ hl.1 rfl (Nat.le_of_ble_eq_true rfl) dX13_make_43 ⟨Nat.zero_le _, Nat.zero_le _⟩) hS (fun r129 H locs hq130 V hS => ?_)
    obtain ⟨hq130, ghq130⟩ := hq130
    replace hG := gLt_e hG ghq130
    refine lv_istore_n (lv' := [(3, .int r129), (0, .ref o), (1, .int k), (2, .int x)]) hx hb dX13_make_46 rfl hl (by decide) rfl (fun ls hl => ?_)
    exact j_make_47 l D cs o ad A S k x h1 C hml hr hlk r129  _ _ _ (trivial) hG V hS (lv_sub hl [1, 2, 3, 0] rfl)
set_option maxHeartbeats 400000 in
set_option maxRecDepth 100000 in
theorem j_make_33 {p : Program} {e : Env} {s : State} {m : MethodId} {below : List Frame} {meth : Method} {c : Code} (l : Launch) (D : va_G) (cs : ClassId × ClassId × ClassId) (o : Nat) (ad : Nat → Nat) (A : Nat → Prop) (S : mS) (k : Int32) (x : Int32)  (h1 : mInv S) (C : mC p s m ([.ref o, .int k, .int x] : List Value).toArray c cX13_make D cs) (hml : c.maxLocals = 5) (hr : meth.sig.returnType = (some .int)) (hlk : meth.locks = false) (j33_s0 : Int32)  (H : Heap) (locs : List Loc) (ls : Array Slot) (hj33 : True) (hG : G_make S k x = G_make_J33 S k x j33_s0) (V : mV D cs o ad A S H) (hS : va_S A s.heap H locs) (hl : lv_has ls 5 [(0, .ref o), (1, .int k), (2, .int x)]) : W p l e ({ frames := 1, cells := 0, slots := 0, locals := 22 } : Room) s m ([.ref o, .int k, .int x] : List Value).toArray below meth c H locs 0 0 (MQ below (va_Qi (fun r9 S9 => (mInv S9 ∧ gI S9 2 = gI S 2) ∧ (r9, S9) = G_make S k x) (mB D cs o ad A) A) ([.ref o, .int k, .int x] : List Value).toArray s 0 0 A) (F0 m 33 ls [.int j33_s0]) := by
  have hx := C.1
  have hb := C.2.1
  have hown := C.2.2.1
  have hts := C.2.2.2.1
  rw [G_make_J33] at hG
  refine lv_istore_n (lv' := [(3, .int j33_s0), (0, .ref o), (1, .int k), (2, .int x)]) hx hb dX13_make_33 rfl hl (by decide) rfl (fun ls hl => ?_)
  exact j_make_34 l D cs o ad A S k x h1 C hml hr hlk j33_s0  _ _ _ (trivial) hG V hS (lv_sub hl [1, 2, 3, 0] rfl)
set_option maxHeartbeats 400000 in
set_option maxRecDepth 100000 in
theorem j_make_19 {p : Program} {e : Env} {s : State} {m : MethodId} {below : List Frame} {meth : Method} {c : Code} (l : Launch) (D : va_G) (cs : ClassId × ClassId × ClassId) (o : Nat) (ad : Nat → Nat) (A : Nat → Prop) (S : mS) (k : Int32) (x : Int32)  (h1 : mInv S) (C : mC p s m ([.ref o, .int k, .int x] : List Value).toArray c cX13_make D cs) (hml : c.maxLocals = 5) (hr : meth.sig.returnType = (some .int)) (hlk : meth.locks = false) (j19_3 : Int32)  (H : Heap) (locs : List Loc) (ls : Array Slot) (hj19 : True) (hG : G_make S k x = G_make_J19 S k x j19_3) (V : mV D cs o ad A S H) (hS : va_S A s.heap H locs) (hl : lv_has ls 5 [(0, .ref o), (1, .int k), (2, .int x), (3, .int j19_3)]) : W p l e ({ frames := 1, cells := 0, slots := 0, locals := 22 } : Room) s m ([.ref o, .int k, .int x] : List Value).toArray below meth c H locs 0 0 (MQ below (va_Qi (fun r9 S9 => (mInv S9 ∧ gI S9 2 = gI S 2) ∧ (r9, S9) = G_make S k x) (mB D cs o ad A) A) ([.ref o, .int k, .int x] : List Value).toArray s 0 0 A) (F0 m 19 ls []) := by
  have hx := C.1
  have hb := C.2.1
  have hown := C.2.2.1
  have hts := C.2.2.2.1
  rw [G_make_J19] at hG
  refine lv_iload_n hx hb dX13_make_19 rfl (lv_at hl 1 rfl) ?_
  refine lv_iconst (v := 2) hx hb dX13_make_20 (by decide) ?_
  refine lv_icmp_ne (tgt := 34) hx hb dX13_make_21 (by decide) (fun c131 => ?_) (fun c131 => ?_)
  · replace hG := gIf_n hG c131
    exact j_make_34 l D cs o ad A S k x h1 C hml hr hlk j19_3  _ _ _ (trivial) hG V hS (lv_sub hl [0, 1, 2, 3] rfl)
  · replace hG := gIf_p hG c131
    refine lv_iload_n hx hb dX13_make_24 rfl (lv_at hl 2 rfl) ?_
    refine lv_if_lt (tgt := 32) hx hb dX13_make_25 (by decide) (fun c132 => ?_) (fun c132 => ?_)
    · replace hG := gIf_p hG c132
      refine lv_iconst (v := 0) hx hb dX13_make_32 (by decide) ?_
      exact j_make_33 l D cs o ad A S k x h1 C hml hr hlk 0  _ _ _ (trivial) hG V hS (lv_sub hl [0, 1, 2] rfl)
    · replace hG := gIf_n hG c132
      refine lv_iconst (v := 1) hx hb dX13_make_28 (by decide) ?_
      refine lv_goto (tgt := 33) hx hb dX13_make_29 (by decide) ?_
      exact j_make_33 l D cs o ad A S k x h1 C hml hr hlk 1  _ _ _ (trivial) hG V hS (lv_sub hl [0, 1, 2] rfl)
set_option maxHeartbeats 400000 in
set_option maxRecDepth 100000 in
theorem c_make (l : Launch) (D : va_G) (cs : ClassId × ClassId × ClassId) (o : Nat) (ad : Nat → Nat) (A : Nat → Prop) (S : mS) (k : Int32) (x : Int32)  (h1 : mInv S) : Met l yX13_make (Cond.code yX13_make cX13_make 5 (some .int) :: tM) ({ frames := 1, cells := 0, slots := 0, locals := 22 }) (va_Pc [.ref o, .int k, .int x] (mB D cs o ad A S)) (va_Qi (fun r9 S9 => (mInv S9 ∧ gI S9 2 = gI S 2) ∧ (r9, S9) = G_make S k x) (mB D cs o ad A) A) 0 0 A := by
  refine mMet (by decide) rfl (Nat.le_of_ble_eq_true rfl) ?_
  intro p e s m below meth c ls C hml hr hlk V hl
  have hx := C.1
  have hb := C.2.1
  have hown := C.2.2.1
  have hts := C.2.2.2.1
  have hS : va_S A s.heap s.heap [] := va_S.rf
  have hl : lv_has ls 5 [(0, .ref o), (1, .int k), (2, .int x)] := hl
  have hG := G_make.eq_1 S k x
  refine lv_iload_n hx hb dX13_make_0 rfl (lv_at hl 1 rfl) ?_
  refine lv_iconst (v := 0) hx hb dX13_make_1 (by decide) ?_
  refine lv_bipush (v := 7) hx hb dX13_make_2 (by decide) ?_
  refine mGoQ (mRunS (As := [.int k, .int 0, .int 7]) (rest := []) C hml V (c_in l D cs o ad A S k 0 7  ) gM_in okM_in ⟨rfl, rfl, Nat.le_of_ble_eq_true rfl, Nat.le_of_ble_eq_true rfl⟩ hl.1 rfl (Nat.le_of_ble_eq_true rfl) dX13_make_4 ⟨Nat.zero_le _, Nat.zero_le _⟩) hS (fun r134 H locs hq135 V hS => ?_)
  obtain ⟨hq135, ghq135⟩ := hq135
  replace hG := gLt_e hG ghq135
  refine lv_istore_n (lv' := [(3, .int r134), (0, .ref o), (1, .int k), (2, .int x)]) hx hb dX13_make_7 rfl hl (by decide) rfl (fun ls hl => ?_)
  refine lv_iload_n hx hb dX13_make_8 rfl (lv_at hl 2 rfl) ?_
  refine lv_if_ne (tgt := 19) hx hb dX13_make_9 (by decide) (fun c136 => ?_) (fun c136 => ?_)
  · replace hG := gIf_n hG c136
    exact j_make_19 l D cs o ad A S k x h1 C hml hr hlk r134  _ _ _ (trivial) hG V hS (lv_sub hl [1, 2, 3, 0] rfl)
  · replace hG := gIf_p hG c136
    refine lv_iload_n hx hb dX13_make_12 rfl (lv_at hl 3 rfl) ?_
    refine lv_iconst (v := 0) hx hb dX13_make_13 (by decide) ?_
    refine lv_iconst (v := 1) hx hb dX13_make_14 (by decide) ?_
    refine mGoQ (mRunS (As := [.int x, .int 0, .int 1]) (rest := []) C hml V (c_in l D cs o ad A S x 0 1  ) gM_in okM_in ⟨rfl, rfl, Nat.le_of_ble_eq_true rfl, Nat.le_of_ble_eq_true rfl⟩ hl.1 rfl (Nat.le_of_ble_eq_true rfl) dX13_make_15 ⟨Nat.zero_le _, Nat.zero_le _⟩) hS (fun r138 H locs hq139 V hS => ?_)
    obtain ⟨hq139, ghq139⟩ := hq139
    replace hG := gLt_e hG ghq139
    refine lv_istore_n (lv' := [(3, .int r138), (0, .ref o), (1, .int k), (2, .int x)]) hx hb dX13_make_18 rfl hl (by decide) rfl (fun ls hl => ?_)
    exact j_make_19 l D cs o ad A S k x h1 C hml hr hlk r138  _ _ _ (trivial) hG V hS (lv_sub hl [1, 2, 3, 0] rfl)

theorem rM_100 {x u l : Int32} (h : (0 ≤ x ∧ x < 8) ∧ (0 ≤ l ∧ l ≤ 8)) (hu : 0 ≤ u ∧ u < 8) : (rM x u l).toInt.toNat < 100 := by
  have h1 : rM x u l < 100 := by
    unfold rM
    split <;> grind
  have h2 := Int32.lt_iff_toInt_lt.mp h1
  have h3 : (100 : Int32).toInt = 100 := by decide
  omega

def G_run_J20 (S : mS) : Int32 × mS := gC (G_refuse S 1) (fun r2 S1 => ((r2 : Int32), S1))
def G_run_L109 (v39_4 : Int32) (SL39 : mS) (K39 : Int32 → mS → Int32 × mS) : Nat → Int32 → Int32 → Int32 × mS
  | 0, v109_5, v109_6 => ((0 : Int32), SL39)
  | N109 + 1, v109_5, v109_6 => if ((gA SL39 13 v109_5) : Int32) = 1 then (if (v109_6 : Int32) ≤ 0 then (gLt (G_one SL39 v109_5 : mS) (fun S30 => gLt (v39_4 + (1) : Int32) (fun x33 => K39 x33 S30))) else (if ((gA SL39 13 v109_5) : Int32) = 1 then (gLt (v109_6 + (-1) : Int32) (fun x36 => gLt (((v109_5 + 1) - (v109_5 + 1) / 8 * 8) : Int32) (fun x37 => G_run_L109 v39_4 SL39 K39 N109 x37 x36 ))) else (gLt (((v109_5 + 1) - (v109_5 + 1) / 8 * 8) : Int32) (fun x35 => G_run_L109 v39_4 SL39 K39 N109 x35 v109_6 )))) else (if ((gA SL39 13 v109_5) : Int32) = 1 then (gLt (v109_6 + (-1) : Int32) (fun x27 => gLt (((v109_5 + 1) - (v109_5 + 1) / 8 * 8) : Int32) (fun x28 => G_run_L109 v39_4 SL39 K39 N109 x28 x27 ))) else (gLt (((v109_5 + 1) - (v109_5 + 1) / 8 * 8) : Int32) (fun x26 => G_run_L109 v39_4 SL39 K39 N109 x26 v109_6 )))
def G_run_L39 (how : Int32) (n : Int32) : Nat → Int32 → mS → Int32 × mS
  | 0, v39_4, SL39 => ((0 : Int32), SL39)
  | N39 + 1, v39_4, SL39 => if n ≤ (v39_4 : Int32) then (((v39_4 : Int32), SL39)) else (gLt (G_ready SL39  : Int32) (fun r17 => if (r17 : Int32) ≤ 0 then (((v39_4 : Int32), SL39)) else (if (how : Int32) = 2 then (gLt ((((gI SL39 26) + 1) - ((gI SL39 26) + 1) / 8 * 8) : Int32) (fun x58 => gLt (0 : Int32) (fun x59 => if (how : Int32) = 0 then (gLt (sI SL39 27 (((gI SL39 27) * 1103515245) + 12345) : mS) (fun S75 => gLt ((((gI S75 27) : Int32).toUInt32 >>> ((8 : Int32).toUInt32 &&& Int32.toUInt32 31)).toInt32 : Int32) (fun x76 => gLt (G_ready S75  : Int32) (fun r78 => gLt ((x76 - x76 / r78 * r78) : Int32) (fun x80 => G_run_L109 v39_4 S75 (fun z0 z1 => G_run_L39 how n N39 z0 z1) (100) x58 x80 ))))) else (G_run_L109 v39_4 SL39 (fun z0 z1 => G_run_L39 how n N39 z0 z1) (100) x58 x59 )))) else (gLt (0 : Int32) (fun x21 => gLt (0 : Int32) (fun x22 => if (how : Int32) = 0 then (gLt (sI SL39 27 (((gI SL39 27) * 1103515245) + 12345) : mS) (fun S38 => gLt ((((gI S38 27) : Int32).toUInt32 >>> ((8 : Int32).toUInt32 &&& Int32.toUInt32 31)).toInt32 : Int32) (fun x39 => gLt (G_ready S38  : Int32) (fun r41 => gLt ((x39 - x39 / r41 * r41) : Int32) (fun x43 => G_run_L109 v39_4 S38 (fun z0 z1 => G_run_L39 how n N39 z0 z1) (100) x21 x43 ))))) else (G_run_L109 v39_4 SL39 (fun z0 z1 => G_run_L39 how n N39 z0 z1) (100) x21 x22 )))))))
def G_run (S : mS) (how : Int32) (z : Int32) (n : Int32) : Int32 × mS := gLt (G_in S how 0 2 : Int32) (fun r5 => if (r5 : Int32) = 0 then (G_run_J20 S  ) else (gLt (G_in S n 0 4000 : Int32) (fun r9 => if (r9 : Int32) = 0 then (G_run_J20 S  ) else (gLt (sI S 0 0 : mS) (fun S12 => gLt (sI S12 27 z : mS) (fun S13 => gLt (0 : Int32) (fun x14 => G_run_L39 how n ((n - x14).toInt.toNat + 1) x14 S13)))))))
set_option maxHeartbeats 400000 in
set_option maxRecDepth 100000 in
theorem j_run_20 {p : Program} {e : Env} {s : State} {m : MethodId} {below : List Frame} {meth : Method} {c : Code} (l : Launch) (D : va_G) (cs : ClassId × ClassId × ClassId) (o : Nat) (ad : Nat → Nat) (A : Nat → Prop) (S : mS) (how : Int32) (z : Int32) (n : Int32)  (h1 : mInv S) (C : mC p s m ([.ref o, .int how, .int z, .int n] : List Value).toArray c cX13_run D cs) (hml : c.maxLocals = 7) (hr : meth.sig.returnType = (some .int)) (hlk : meth.locks = false)   (H : Heap) (locs : List Loc) (ls : Array Slot) (hj20 : True) (hG : G_run S how z n = G_run_J20 S ) (V : mV D cs o ad A S H) (hS : va_S A s.heap H locs) (hl : lv_has ls 7 [(0, .ref o)]) : W p l e ({ frames := 7, cells := 0, slots := 0, locals := 167 } : Room) s m ([.ref o, .int how, .int z, .int n] : List Value).toArray below meth c H locs 0 0 (MQ below (va_Qi (fun r9 S9 => (mInv S9 ∧ gI S9 2 = gI S 2) ∧ (r9, S9) = G_run S how z n) (mB D cs o ad A) A) ([.ref o, .int how, .int z, .int n] : List Value).toArray s 0 0 A) (F0 m 20 ls []) := by
  have hx := C.1
  have hb := C.2.1
  have hown := C.2.2.1
  have hts := C.2.2.2.1
  rw [G_run_J20] at hG
  refine lv_aload_n hx hb dX13_run_20 rfl (lv_at hl 0 rfl) ?_
  refine lv_iconst (v := 1) hx hb dX13_run_21 (by decide) ?_
  refine mGoI (mRunV (As := [.int 1]) (rest := []) C hml V (c_refuse l D cs o ad A S 1  ) gM_refuse okM_refuse ⟨rfl, rfl, Nat.le_of_ble_eq_true rfl, Nat.le_of_ble_eq_true rfl⟩ hl.1 rfl (Nat.le_of_ble_eq_true rfl) dX13_run_22 ⟨Nat.zero_le _, Nat.zero_le _⟩) hS (fun r2 S1 H locs hq3 V hS => ?_)
  obtain ⟨hq3, ghq3⟩ := hq3
  replace hG := gC_e hG ghq3
  exact mRetI C hr hlk V hS (⟨pb_I h1 hq3.2 (by clear hG V hS hl C hts hown hx hb hml hr hlk; decide) (by clear hG V hS hl C hts hown hx hb hml hr hlk; decide), hG.symm⟩) dX13_run_25
set_option maxHeartbeats 400000 in
set_option maxRecDepth 100000 in
theorem c_run (l : Launch) (D : va_G) (cs : ClassId × ClassId × ClassId) (o : Nat) (ad : Nat → Nat) (A : Nat → Prop) (S : mS) (how : Int32) (z : Int32) (n : Int32)  (h1 : mInv S) : Met l yX13_run (Cond.code yX13_run cX13_run 7 (some .int) :: tM) ({ frames := 7, cells := 0, slots := 0, locals := 167 }) (va_Pc [.ref o, .int how, .int z, .int n] (mB D cs o ad A S)) (va_Qi (fun r9 S9 => (mInv S9 ∧ gI S9 2 = gI S 2) ∧ (r9, S9) = G_run S how z n) (mB D cs o ad A) A) 0 0 A := by
  refine mMet (by decide) rfl (Nat.le_of_ble_eq_true rfl) ?_
  intro p e s m below meth c ls C hml hr hlk V hl
  have hx := C.1
  have hb := C.2.1
  have hown := C.2.2.1
  have hts := C.2.2.2.1
  have hS : va_S A s.heap s.heap [] := va_S.rf
  have hl : lv_has ls 7 [(0, .ref o), (1, .int how), (2, .int z), (3, .int n)] := hl
  have hG := G_run.eq_1 S how z n
  refine lv_iload_n hx hb dX13_run_0 rfl (lv_at hl 1 rfl) ?_
  refine lv_iconst (v := 0) hx hb dX13_run_1 (by decide) ?_
  refine lv_iconst (v := 2) hx hb dX13_run_2 (by decide) ?_
  refine mGoQ (mRunS (As := [.int how, .int 0, .int 2]) (rest := []) C hml V (c_in l D cs o ad A S how 0 2  ) gM_in okM_in ⟨rfl, rfl, Nat.le_of_ble_eq_true rfl, Nat.le_of_ble_eq_true rfl⟩ hl.1 rfl (Nat.le_of_ble_eq_true rfl) dX13_run_3 ⟨Nat.zero_le _, Nat.zero_le _⟩) hS (fun r5 H locs hq6 V hS => ?_)
  obtain ⟨hq6, ghq6⟩ := hq6
  replace hG := gLt_e hG ghq6
  refine lv_if_eq (tgt := 20) hx hb dX13_run_6 (by decide) (fun c7 => ?_) (fun c7 => ?_)
  · replace hG := gIf_p hG c7
    exact j_run_20 l D cs o ad A S how z n h1 C hml hr hlk   _ _ _ (trivial) hG V hS (lv_sub hl [0] rfl)
  · replace hG := gIf_n hG c7
    refine lv_iload_n hx hb dX13_run_9 rfl (lv_at hl 3 rfl) ?_
    refine lv_iconst (v := 0) hx hb dX13_run_10 (by decide) ?_
    refine lv_sipush (v := 4000) hx hb dX13_run_11 (by decide) ?_
    refine mGoQ (mRunS (As := [.int n, .int 0, .int 4000]) (rest := []) C hml V (c_in l D cs o ad A S n 0 4000  ) gM_in okM_in ⟨rfl, rfl, Nat.le_of_ble_eq_true rfl, Nat.le_of_ble_eq_true rfl⟩ hl.1 rfl (Nat.le_of_ble_eq_true rfl) dX13_run_14 ⟨Nat.zero_le _, Nat.zero_le _⟩) hS (fun r9 H locs hq10 V hS => ?_)
    obtain ⟨hq10, ghq10⟩ := hq10
    replace hG := gLt_e hG ghq10
    refine lv_if_ne (tgt := 26) hx hb dX13_run_17 (by decide) (fun c11 => ?_) (fun c11 => ?_)
    · replace hG := gIf_n hG c11
      have hn : 0 ≤ n ∧ n ≤ 4000 := in_y hq10 c11
      refine lv_aload_n hx hb dX13_run_26 rfl (lv_at hl 0 rfl) ?_
      refine lv_iconst (v := 0) hx hb dX13_run_27 (by decide) ?_
      refine mP0 C V hS dX13_run_28 (fun S12 H locs eS12 V hS => ?_)
      replace hG := gLt_e hG eS12
      refine lv_aload_n hx hb dX13_run_31 rfl (lv_at hl 0 rfl) ?_
      refine lv_iload_n hx hb dX13_run_32 rfl (lv_at hl 2 rfl) ?_
      refine mP27 C V hS dX13_run_33 (fun S13 H locs eS13 V hS => ?_)
      replace hG := gLt_e hG eS13
      have p1 := pb_I h1 eS12 (by decide) (by decide)
      have p2 := pb_t p1 (pb_I p1.1 eS13 (by decide) (by decide))
      refine lv_iconst (v := 0) hx hb dX13_run_36 (by decide) ?_
      refine lv_topi (fun x14 ex14 => ?_)
      replace hG := gLt_e hG ex14
      refine lv_istore (lv' := [(4, .int x14), (0, .ref o), (1, .int how), (2, .int z), (3, .int n)]) hx hb dX13_run_37 hl (by decide) rfl (fun ls hl => ?_)
      have loop39 : ∀ (N39 : Nat) (v39_4 : Int32) (SL39 : mS) (H : Heap) (locs : List Loc) (ls : Array Slot), ((mInv SL39 ∧ gI SL39 2 = gI S 2) ∧ 0 ≤ v39_4 ∧ v39_4 ≤ n) → ((n - v39_4).toInt.toNat) < N39 → (G_run S how z n = G_run_L39 how n N39 v39_4 SL39) → mV D cs o ad A SL39 H → va_S A s.heap H locs → lv_has ls 7 [(0, .ref o), (1, .int how), (2, .int z), (3, .int n), (4, .int v39_4)] → W p l e ({ frames := 7, cells := 0, slots := 0, locals := 167 } : Room) s m ([.ref o, .int how, .int z, .int n] : List Value).toArray below meth c H locs 0 0 (MQ below (va_Qi (fun r9 S9 => (mInv S9 ∧ gI S9 2 = gI S 2) ∧ (r9, S9) = G_run S how z n) (mB D cs o ad A) A) ([.ref o, .int how, .int z, .int n] : List Value).toArray s 0 0 A) (F0 m 39 ls []) := by
        intro N39
        induction N39 with
        | zero => intro v39_4 SL39 H locs ls hi39 hm39; exact absurd hm39 (Nat.not_lt_zero _)
        | succ N39 ih39 =>
          intro v39_4 SL39 H locs ls hi39 hm39 hG V hS hl
          rw [G_run_L39] at hG
          refine lv_iload hx hb dX13_run_39 (lv_at hl 4 rfl) ?_
          refine lv_iload_n hx hb dX13_run_41 rfl (lv_at hl 3 rfl) ?_
          refine lv_icmp_ge (tgt := 163) hx hb dX13_run_42 (by decide) (fun c15 => ?_) (fun c15 => ?_)
          · replace hG := gIf_p hG c15
            refine lv_iload hx hb dX13_run_163 (lv_at hl 4 rfl) ?_
            exact mRetI C hr hlk V hS (⟨hi39.1, hG.symm⟩) dX13_run_165
          · replace hG := gIf_n hG c15
            refine lv_aload_n hx hb dX13_run_45 rfl (lv_at hl 0 rfl) ?_
            refine mGoQ (mRunV (As := []) (rest := []) C hml V (c_ready l D cs o ad A SL39   ) gM_ready okM_ready ⟨rfl, rfl, Nat.le_of_ble_eq_true rfl, Nat.le_of_ble_eq_true rfl⟩ hl.1 rfl (Nat.le_of_ble_eq_true rfl) dX13_run_46 ⟨Nat.zero_le _, Nat.zero_le _⟩) hS (fun r17 H locs hq18 V hS => ?_)
            obtain ⟨hq18, ghq18⟩ := hq18
            replace hG := gLt_e hG ghq18
            refine lv_if_le (tgt := 163) hx hb dX13_run_49 (by decide) (fun c19 => ?_) (fun c19 => ?_)
            · replace hG := gIf_p hG c19
              refine lv_iload hx hb dX13_run_163 (lv_at hl 4 rfl) ?_
              exact mRetI C hr hlk V hS (⟨hi39.1, hG.symm⟩) dX13_run_165
            · replace hG := gIf_n hG c19
              obtain ⟨u9, hu0, hu1, hu2⟩ := hq18.2.2.1 (i_gt c19)
              refine lv_iload_n hx hb dX13_run_52 rfl (lv_at hl 1 rfl) ?_
              refine lv_iconst (v := 2) hx hb dX13_run_53 (by decide) ?_
              refine lv_icmp_ne (tgt := 69) hx hb dX13_run_54 (by decide) (fun c20 => ?_) (fun c20 => ?_)
              · replace hG := gIf_n hG c20
                refine lv_iconst (v := 0) hx hb dX13_run_69 (by decide) ?_
                refine lv_topi (fun x21 ex21 => ?_)
                replace hG := gLt_e hG ex21
                refine lv_istore (lv' := [(5, .int x21), (0, .ref o), (1, .int how), (2, .int z), (3, .int n), (4, .int v39_4)]) hx hb dX13_run_70 hl (by decide) rfl (fun ls hl => ?_)
                have x5 : 0 ≤ x21 ∧ x21 < 8 := by rw [ex21]; first | exact lat8 ⟨hi39.1.1.1.2.2.1, hi39.1.1.1.2.2.2⟩ | decide
                refine lv_iconst (v := 0) hx hb dX13_run_72 (by decide) ?_
                refine lv_topi (fun x22 ex22 => ?_)
                replace hG := gLt_e hG ex22
                refine lv_istore (lv' := [(6, .int x22), (5, .int x21), (0, .ref o), (1, .int how), (2, .int z), (3, .int n), (4, .int v39_4)]) hx hb dX13_run_73 hl (by decide) rfl (fun ls hl => ?_)
                refine lv_iload_n hx hb dX13_run_75 rfl (lv_at hl 3 rfl) ?_
                refine lv_if_ne (tgt := 109) hx hb dX13_run_76 (by decide) (fun c23 => ?_) (fun c23 => ?_)
                · replace hG := gIf_n hG c23
                  have loop109 : ∀ (N109 : Nat) (v109_5 : Int32) (v109_6 : Int32)  (H : Heap) (locs : List Loc) (ls : Array Slot), ((0 ≤ v109_5 ∧ v109_5 < 8) ∧ (0 ≤ v109_6 ∧ v109_6 ≤ 8)) → ((rM v109_5 u9 v109_6).toInt.toNat) < N109 → (G_run S how z n = G_run_L109 v39_4 SL39 (fun z0 z1 => G_run_L39 how n N39 z0 z1) N109 v109_5 v109_6) → mV D cs o ad A SL39 H → va_S A s.heap H locs → lv_has ls 7 [(0, .ref o), (1, .int how), (2, .int z), (3, .int n), (4, .int v39_4), (5, .int v109_5), (6, .int v109_6)] → W p l e ({ frames := 7, cells := 0, slots := 0, locals := 167 } : Room) s m ([.ref o, .int how, .int z, .int n] : List Value).toArray below meth c H locs 0 0 (MQ below (va_Qi (fun r9 S9 => (mInv S9 ∧ gI S9 2 = gI S 2) ∧ (r9, S9) = G_run S how z n) (mB D cs o ad A) A) ([.ref o, .int how, .int z, .int n] : List Value).toArray s 0 0 A) (F0 m 109 ls []) := by
                    intro N109
                    induction N109 with
                    | zero => intro v109_5 v109_6  H locs ls hi109 hm109; exact absurd hm109 (Nat.not_lt_zero _)
                    | succ N109 ih109 =>
                      intro v109_5 v109_6  H locs ls hi109 hm109 hG V hS hl
                      rw [G_run_L109] at hG
                      have q1 : mInv SL39 ∧ gI SL39 2 = gI S 2 := by first | exact pb_t hi39.1 p3 | exact hi39.1
                      refine lv_aload_n hx hb dX13_run_109 rfl (lv_at hl 0 rfl) ?_
                      refine mG13 C V dX13_run_110 ?_
                      refine lv_iload hx hb dX13_run_113 (lv_at hl 5 rfl) ?_
                      refine mLd13 C V (vin (N := 8) rfl (hi109.1.1) (hi109.1.2)) dX13_run_115 ?_
                      refine lv_iconst (v := 1) hx hb dX13_run_116 (by decide) ?_
                      refine lv_icmp_ne (tgt := 125) hx hb dX13_run_117 (by decide) (fun c24 => ?_) (fun c24 => ?_)
                      · replace hG := gIf_n hG c24
                        refine lv_aload_n hx hb dX13_run_125 rfl (lv_at hl 0 rfl) ?_
                        refine mG13 C V dX13_run_126 ?_
                        refine lv_iload hx hb dX13_run_129 (lv_at hl 5 rfl) ?_
                        refine mLd13 C V (vin (N := 8) rfl (hi109.1.1) (hi109.1.2)) dX13_run_131 ?_
                        refine lv_iconst (v := 1) hx hb dX13_run_132 (by decide) ?_
                        refine lv_icmp_ne (tgt := 139) hx hb dX13_run_133 (by decide) (fun c25 => ?_) (fun c25 => ?_)
                        · replace hG := gIf_n hG c25
                          refine lv_iload hx hb dX13_run_139 (lv_at hl 5 rfl) ?_
                          refine lv_iconst (v := 1) hx hb dX13_run_141 (by decide) ?_
                          refine lv_iadd hx hb dX13_run_142 ?_
                          refine lv_bipush (v := 8) hx hb dX13_run_143 (by decide) ?_
                          refine lv_irem hx hb dX13_run_145 (by clear hG V hS hl C hts hown hx hb hml hr hlk ih39 ih109 hm39 hm109; decide) ?_
                          refine lv_topi (fun x26 ex26 => ?_)
                          replace hG := gLt_e hG ex26
                          refine lv_istore (lv' := [(5, .int x26), (0, .ref o), (1, .int how), (2, .int z), (3, .int n), (4, .int v39_4), (6, .int v109_6)]) hx hb dX13_run_146 hl (by decide) rfl (fun ls hl => ?_)
                          refine lv_goto (tgt := 109) hx hb dX13_run_148 (by decide) ?_
                          have rn9 := run_m (y := x26) (k := v109_6) hi109.1 hi109.2 ⟨hu0, hu1⟩ ex26 (by first | exact Or.inl ⟨nope9, i_gt nope9⟩ | exact Or.inr ⟨rfl, fun z9 => c25 (by rw [z9]; first | exact st9 | exact hu2)⟩ | exact absurd c25 c24)
                          exact ih109 x26 v109_6  _ _ _ (⟨(rn9).1, (rn9).2.1⟩) (msd hm109 rn9.2.2.1 rn9.2.2.2) hG V hS (lv_sub hl [1, 2, 3, 4, 5, 0, 6] rfl)
                        · replace hG := gIf_p hG c25
                          obtain ⟨x27, ex27⟩ : ∃ y : Int32, y = v109_6 + (-1) := ⟨_, rfl⟩
                          replace hG := gLt_e hG ex27
                          refine lv_iinc (v := x27) (lv' := [(6, .int x27), (0, .ref o), (1, .int how), (2, .int z), (3, .int n), (4, .int v39_4), (5, .int v109_5)]) hx hb dX13_run_136 hl (k := 6) rfl (by rw [ex27]; rfl) (by decide) rfl (fun ls hl => ?_)
                          refine lv_iload hx hb dX13_run_139 (lv_at hl 6 rfl) ?_
                          refine lv_iconst (v := 1) hx hb dX13_run_141 (by decide) ?_
                          refine lv_iadd hx hb dX13_run_142 ?_
                          refine lv_bipush (v := 8) hx hb dX13_run_143 (by decide) ?_
                          refine lv_irem hx hb dX13_run_145 (by clear hG V hS hl C hts hown hx hb hml hr hlk ih39 ih109 hm39 hm109; decide) ?_
                          refine lv_topi (fun x28 ex28 => ?_)
                          replace hG := gLt_e hG ex28
                          refine lv_istore (lv' := [(5, .int x28), (6, .int x27), (0, .ref o), (1, .int how), (2, .int z), (3, .int n), (4, .int v39_4)]) hx hb dX13_run_146 hl (by decide) rfl (fun ls hl => ?_)
                          refine lv_goto (tgt := 109) hx hb dX13_run_148 (by decide) ?_
                          have rn9 := run_m (y := x28) (k := x27) hi109.1 hi109.2 ⟨hu0, hu1⟩ ex28 (by first | exact Or.inl ⟨ex27, i_gt nope9⟩ | exact Or.inr ⟨rfl, fun z9 => c25 (by rw [z9]; first | exact st9 | exact hu2)⟩ | exact absurd c25 c24)
                          exact ih109 x28 x27  _ _ _ (⟨(rn9).1, (rn9).2.1⟩) (msd hm109 rn9.2.2.1 rn9.2.2.2) hG V hS (lv_sub hl [2, 3, 4, 5, 6, 0, 1] rfl)
                      · replace hG := gIf_p hG c24
                        refine lv_iload hx hb dX13_run_120 (lv_at hl 6 rfl) ?_
                        refine lv_if_le (tgt := 151) hx hb dX13_run_122 (by decide) (fun c29 => ?_) (fun c29 => ?_)
                        · replace hG := gIf_p hG c29
                          refine lv_aload_n hx hb dX13_run_151 rfl (lv_at hl 0 rfl) ?_
                          refine lv_iload hx hb dX13_run_152 (lv_at hl 5 rfl) ?_
                          refine mGoV (mRunV (As := [.int v109_5]) (rest := []) C hml V (c_one l D cs o ad A SL39 v109_5  (hi109.1) (q1.1) (c24)) gM_one okM_one ⟨rfl, rfl, Nat.le_of_ble_eq_true rfl, Nat.le_of_ble_eq_true rfl⟩ hl.1 rfl (Nat.le_of_ble_eq_true rfl) dX13_run_154 ⟨Nat.zero_le _, Nat.zero_le _⟩) hS (fun S30 H locs hq32 V hS => ?_)
                          obtain ⟨hq32, ghq32⟩ := hq32
                          replace hG := gLt_e hG ghq32
                          obtain ⟨x33, ex33⟩ : ∃ y : Int32, y = v39_4 + (1) := ⟨_, rfl⟩
                          replace hG := gLt_e hG ex33
                          refine lv_iinc (v := x33) (lv' := [(4, .int x33), (0, .ref o), (1, .int how), (2, .int z), (3, .int n), (5, .int v109_5), (6, .int v109_6)]) hx hb dX13_run_157 hl (k := 4) rfl (by rw [ex33]; rfl) (by decide) rfl (fun ls hl => ?_)
                          refine lv_goto (tgt := 39) hx hb dX13_run_160 (by decide) ?_
                          exact ih39 x33 S30 _ _ _ (⟨pb_t q1 hq32, a_up ex33 hi39.2.1 (i_lt c15)⟩) (msd hm39 (a_dec ex33 hi39.2.1 (i_lt c15)).1 (a_dec ex33 hi39.2.1 (i_lt c15)).2) hG V hS (lv_sub hl [1, 2, 3, 4, 0] rfl)
                        · replace hG := gIf_n hG c29
                          refine lv_aload_n hx hb dX13_run_125 rfl (lv_at hl 0 rfl) ?_
                          refine mG13 C V dX13_run_126 ?_
                          refine lv_iload hx hb dX13_run_129 (lv_at hl 5 rfl) ?_
                          refine mLd13 C V (vin (N := 8) rfl (hi109.1.1) (hi109.1.2)) dX13_run_131 ?_
                          refine lv_iconst (v := 1) hx hb dX13_run_132 (by decide) ?_
                          refine lv_icmp_ne (tgt := 139) hx hb dX13_run_133 (by decide) (fun c34 => ?_) (fun c34 => ?_)
                          · replace hG := gIf_n hG c34
                            refine lv_iload hx hb dX13_run_139 (lv_at hl 5 rfl) ?_
                            refine lv_iconst (v := 1) hx hb dX13_run_141 (by decide) ?_
                            refine lv_iadd hx hb dX13_run_142 ?_
                            refine lv_bipush (v := 8) hx hb dX13_run_143 (by decide) ?_
                            refine lv_irem hx hb dX13_run_145 (by clear hG V hS hl C hts hown hx hb hml hr hlk ih39 ih109 hm39 hm109; decide) ?_
                            refine lv_topi (fun x35 ex35 => ?_)
                            replace hG := gLt_e hG ex35
                            refine lv_istore (lv' := [(5, .int x35), (0, .ref o), (1, .int how), (2, .int z), (3, .int n), (4, .int v39_4), (6, .int v109_6)]) hx hb dX13_run_146 hl (by decide) rfl (fun ls hl => ?_)
                            refine lv_goto (tgt := 109) hx hb dX13_run_148 (by decide) ?_
                            have rn9 := run_m (y := x35) (k := v109_6) hi109.1 hi109.2 ⟨hu0, hu1⟩ ex35 (by first | exact Or.inl ⟨nope9, i_gt c29⟩ | exact Or.inr ⟨rfl, fun z9 => c34 (by rw [z9]; first | exact st9 | exact hu2)⟩ | exact absurd c34 c24)
                            exact ih109 x35 v109_6  _ _ _ (⟨(rn9).1, (rn9).2.1⟩) (msd hm109 rn9.2.2.1 rn9.2.2.2) hG V hS (lv_sub hl [1, 2, 3, 4, 5, 0, 6] rfl)
                          · replace hG := gIf_p hG c34
                            obtain ⟨x36, ex36⟩ : ∃ y : Int32, y = v109_6 + (-1) := ⟨_, rfl⟩
                            replace hG := gLt_e hG ex36
                            refine lv_iinc (v := x36) (lv' := [(6, .int x36), (0, .ref o), (1, .int how), (2, .int z), (3, .int n), (4, .int v39_4), (5, .int v109_5)]) hx hb dX13_run_136 hl (k := 6) rfl (by rw [ex36]; rfl) (by decide) rfl (fun ls hl => ?_)
                            refine lv_iload hx hb dX13_run_139 (lv_at hl 6 rfl) ?_
                            refine lv_iconst (v := 1) hx hb dX13_run_141 (by decide) ?_
                            refine lv_iadd hx hb dX13_run_142 ?_
                            refine lv_bipush (v := 8) hx hb dX13_run_143 (by decide) ?_
                            refine lv_irem hx hb dX13_run_145 (by clear hG V hS hl C hts hown hx hb hml hr hlk ih39 ih109 hm39 hm109; decide) ?_
                            refine lv_topi (fun x37 ex37 => ?_)
                            replace hG := gLt_e hG ex37
                            refine lv_istore (lv' := [(5, .int x37), (6, .int x36), (0, .ref o), (1, .int how), (2, .int z), (3, .int n), (4, .int v39_4)]) hx hb dX13_run_146 hl (by decide) rfl (fun ls hl => ?_)
                            refine lv_goto (tgt := 109) hx hb dX13_run_148 (by decide) ?_
                            have rn9 := run_m (y := x37) (k := x36) hi109.1 hi109.2 ⟨hu0, hu1⟩ ex37 (by first | exact Or.inl ⟨ex36, i_gt c29⟩ | exact Or.inr ⟨rfl, fun z9 => c34 (by rw [z9]; first | exact st9 | exact hu2)⟩ | exact absurd c34 c24)
                            exact ih109 x37 x36  _ _ _ (⟨(rn9).1, (rn9).2.1⟩) (msd hm109 rn9.2.2.1 rn9.2.2.2) hG V hS (lv_sub hl [2, 3, 4, 5, 6, 0, 1] rfl)
                  have en9 : (0 ≤ x21 ∧ x21 < 8) ∧ (0 ≤ x22 ∧ x22 ≤ 8) := ⟨x5, by first | exact a_le8 (by clear hG V hS hl C hts hown hx hb hml hr hlk ih39 hm39; rw [nope9]; exact rem_r (ush8 nope9) (nope9.2.2.2 u9 hu0 hu1 st9)) nope9.2.1 | (rw [ex22]; decide)⟩
                  exact loop109 (100) x21 x22  _ _ _ en9 (rM_100 en9 ⟨hu0, hu1⟩) hG V hS (lv_sub hl [2, 3, 4, 5, 6, 1, 0] rfl)
                · replace hG := gIf_p hG c23
                  refine lv_aload_n hx hb dX13_run_79 rfl (lv_at hl 2 rfl) ?_
                  refine lv_aload_n hx hb dX13_run_80 rfl (lv_at hl 2 rfl) ?_
                  refine mG27 C V dX13_run_81 ?_
                  refine lv_ldcw hx hb hown (hts _ tMc307) dX13_run_84 ?_
                  refine lv_imul hx hb dX13_run_87 ?_
                  refine lv_sipush (v := 12345) hx hb dX13_run_88 (by decide) ?_
                  refine lv_iadd hx hb dX13_run_91 ?_
                  refine mP27 C V hS dX13_run_92 (fun S38 H locs eS38 V hS => ?_)
                  replace hG := gLt_e hG eS38
                  have p3 := pb_I hi39.1.1 eS38 (by decide) (by decide)
                  have st9 : gA S38 13 u9 = 1 := by rw [eS38]; exact hu2
                  refine lv_aload_n hx hb dX13_run_95 rfl (lv_at hl 2 rfl) ?_
                  refine mG27 C V dX13_run_96 ?_
                  refine lv_bipush (v := 8) hx hb dX13_run_99 (by decide) ?_
                  refine lv_iushr hx hb dX13_run_101 rfl ?_
                  refine lv_topi (fun x39 ex39 => ?_)
                  replace hG := gLt_e hG ex39
                  refine lv_aload_n hx hb dX13_run_102 rfl (lv_at hl 2 rfl) ?_
                  refine mGoQ (mRunV (As := []) (rest := [.int x39]) C hml V (c_ready l D cs o ad A S38   ) gM_ready okM_ready ⟨rfl, rfl, Nat.le_of_ble_eq_true rfl, Nat.le_of_ble_eq_true rfl⟩ hl.1 rfl (Nat.le_of_ble_eq_true rfl) dX13_run_103 ⟨Nat.zero_le _, Nat.zero_le _⟩) hS (fun r41 H locs hq42 V hS => ?_)
                  obtain ⟨hq42, ghq42⟩ := hq42
                  replace hG := gLt_e hG ghq42
                  refine lv_irem hx hb dX13_run_106 (a_ne0 (hq42.2.2.2 u9 hu0 hu1 st9)) ?_
                  refine lv_topi (fun x43 ex43 => ?_)
                  replace hG := gLt_e hG ex43
                  refine lv_istore (lv' := [(6, .int x43), (5, .int x21), (0, .ref o), (1, .int how), (2, .int z), (3, .int n), (4, .int v39_4)]) hx hb dX13_run_107 hl (by decide) rfl (fun ls hl => ?_)
                  have loop109 : ∀ (N109 : Nat) (v109_5 : Int32) (v109_6 : Int32)  (H : Heap) (locs : List Loc) (ls : Array Slot), ((0 ≤ v109_5 ∧ v109_5 < 8) ∧ (0 ≤ v109_6 ∧ v109_6 ≤ 8)) → ((rM v109_5 u9 v109_6).toInt.toNat) < N109 → (G_run S how z n = G_run_L109 v39_4 S38 (fun z0 z1 => G_run_L39 how n N39 z0 z1) N109 v109_5 v109_6) → mV D cs o ad A S38 H → va_S A s.heap H locs → lv_has ls 7 [(0, .ref o), (1, .int how), (2, .int z), (3, .int n), (4, .int v39_4), (5, .int v109_5), (6, .int v109_6)] → W p l e ({ frames := 7, cells := 0, slots := 0, locals := 167 } : Room) s m ([.ref o, .int how, .int z, .int n] : List Value).toArray below meth c H locs 0 0 (MQ below (va_Qi (fun r9 S9 => (mInv S9 ∧ gI S9 2 = gI S 2) ∧ (r9, S9) = G_run S how z n) (mB D cs o ad A) A) ([.ref o, .int how, .int z, .int n] : List Value).toArray s 0 0 A) (F0 m 109 ls []) := by
                    intro N109
                    induction N109 with
                    | zero => intro v109_5 v109_6  H locs ls hi109 hm109; exact absurd hm109 (Nat.not_lt_zero _)
                    | succ N109 ih109 =>
                      intro v109_5 v109_6  H locs ls hi109 hm109 hG V hS hl
                      rw [G_run_L109] at hG
                      have q1 : mInv S38 ∧ gI S38 2 = gI S 2 := by first | exact pb_t hi39.1 p3 | exact hi39.1
                      refine lv_aload_n hx hb dX13_run_109 rfl (lv_at hl 0 rfl) ?_
                      refine mG13 C V dX13_run_110 ?_
                      refine lv_iload hx hb dX13_run_113 (lv_at hl 5 rfl) ?_
                      refine mLd13 C V (vin (N := 8) rfl (hi109.1.1) (hi109.1.2)) dX13_run_115 ?_
                      refine lv_iconst (v := 1) hx hb dX13_run_116 (by decide) ?_
                      refine lv_icmp_ne (tgt := 125) hx hb dX13_run_117 (by decide) (fun c44 => ?_) (fun c44 => ?_)
                      · replace hG := gIf_n hG c44
                        refine lv_aload_n hx hb dX13_run_125 rfl (lv_at hl 0 rfl) ?_
                        refine mG13 C V dX13_run_126 ?_
                        refine lv_iload hx hb dX13_run_129 (lv_at hl 5 rfl) ?_
                        refine mLd13 C V (vin (N := 8) rfl (hi109.1.1) (hi109.1.2)) dX13_run_131 ?_
                        refine lv_iconst (v := 1) hx hb dX13_run_132 (by decide) ?_
                        refine lv_icmp_ne (tgt := 139) hx hb dX13_run_133 (by decide) (fun c45 => ?_) (fun c45 => ?_)
                        · replace hG := gIf_n hG c45
                          refine lv_iload hx hb dX13_run_139 (lv_at hl 5 rfl) ?_
                          refine lv_iconst (v := 1) hx hb dX13_run_141 (by decide) ?_
                          refine lv_iadd hx hb dX13_run_142 ?_
                          refine lv_bipush (v := 8) hx hb dX13_run_143 (by decide) ?_
                          refine lv_irem hx hb dX13_run_145 (by clear hG V hS hl C hts hown hx hb hml hr hlk ih39 ih109 hm39 hm109; decide) ?_
                          refine lv_topi (fun x46 ex46 => ?_)
                          replace hG := gLt_e hG ex46
                          refine lv_istore (lv' := [(5, .int x46), (0, .ref o), (1, .int how), (2, .int z), (3, .int n), (4, .int v39_4), (6, .int v109_6)]) hx hb dX13_run_146 hl (by decide) rfl (fun ls hl => ?_)
                          refine lv_goto (tgt := 109) hx hb dX13_run_148 (by decide) ?_
                          have rn9 := run_m (y := x46) (k := v109_6) hi109.1 hi109.2 ⟨hu0, hu1⟩ ex46 (by first | exact Or.inl ⟨nope9, i_gt nope9⟩ | exact Or.inr ⟨rfl, fun z9 => c45 (by rw [z9]; first | exact st9 | exact hu2)⟩ | exact absurd c45 c44)
                          exact ih109 x46 v109_6  _ _ _ (⟨(rn9).1, (rn9).2.1⟩) (msd hm109 rn9.2.2.1 rn9.2.2.2) hG V hS (lv_sub hl [1, 2, 3, 4, 5, 0, 6] rfl)
                        · replace hG := gIf_p hG c45
                          obtain ⟨x47, ex47⟩ : ∃ y : Int32, y = v109_6 + (-1) := ⟨_, rfl⟩
                          replace hG := gLt_e hG ex47
                          refine lv_iinc (v := x47) (lv' := [(6, .int x47), (0, .ref o), (1, .int how), (2, .int z), (3, .int n), (4, .int v39_4), (5, .int v109_5)]) hx hb dX13_run_136 hl (k := 6) rfl (by rw [ex47]; rfl) (by decide) rfl (fun ls hl => ?_)
                          refine lv_iload hx hb dX13_run_139 (lv_at hl 6 rfl) ?_
                          refine lv_iconst (v := 1) hx hb dX13_run_141 (by decide) ?_
                          refine lv_iadd hx hb dX13_run_142 ?_
                          refine lv_bipush (v := 8) hx hb dX13_run_143 (by decide) ?_
                          refine lv_irem hx hb dX13_run_145 (by clear hG V hS hl C hts hown hx hb hml hr hlk ih39 ih109 hm39 hm109; decide) ?_
                          refine lv_topi (fun x48 ex48 => ?_)
                          replace hG := gLt_e hG ex48
                          refine lv_istore (lv' := [(5, .int x48), (6, .int x47), (0, .ref o), (1, .int how), (2, .int z), (3, .int n), (4, .int v39_4)]) hx hb dX13_run_146 hl (by decide) rfl (fun ls hl => ?_)
                          refine lv_goto (tgt := 109) hx hb dX13_run_148 (by decide) ?_
                          have rn9 := run_m (y := x48) (k := x47) hi109.1 hi109.2 ⟨hu0, hu1⟩ ex48 (by first | exact Or.inl ⟨ex47, i_gt nope9⟩ | exact Or.inr ⟨rfl, fun z9 => c45 (by rw [z9]; first | exact st9 | exact hu2)⟩ | exact absurd c45 c44)
                          exact ih109 x48 x47  _ _ _ (⟨(rn9).1, (rn9).2.1⟩) (msd hm109 rn9.2.2.1 rn9.2.2.2) hG V hS (lv_sub hl [2, 3, 4, 5, 6, 0, 1] rfl)
                      · replace hG := gIf_p hG c44
                        refine lv_iload hx hb dX13_run_120 (lv_at hl 6 rfl) ?_
                        refine lv_if_le (tgt := 151) hx hb dX13_run_122 (by decide) (fun c49 => ?_) (fun c49 => ?_)
                        · replace hG := gIf_p hG c49
                          refine lv_aload_n hx hb dX13_run_151 rfl (lv_at hl 0 rfl) ?_
                          refine lv_iload hx hb dX13_run_152 (lv_at hl 5 rfl) ?_
                          refine mGoV (mRunV (As := [.int v109_5]) (rest := []) C hml V (c_one l D cs o ad A S38 v109_5  (hi109.1) (q1.1) (c44)) gM_one okM_one ⟨rfl, rfl, Nat.le_of_ble_eq_true rfl, Nat.le_of_ble_eq_true rfl⟩ hl.1 rfl (Nat.le_of_ble_eq_true rfl) dX13_run_154 ⟨Nat.zero_le _, Nat.zero_le _⟩) hS (fun S50 H locs hq52 V hS => ?_)
                          obtain ⟨hq52, ghq52⟩ := hq52
                          replace hG := gLt_e hG ghq52
                          obtain ⟨x53, ex53⟩ : ∃ y : Int32, y = v39_4 + (1) := ⟨_, rfl⟩
                          replace hG := gLt_e hG ex53
                          refine lv_iinc (v := x53) (lv' := [(4, .int x53), (0, .ref o), (1, .int how), (2, .int z), (3, .int n), (5, .int v109_5), (6, .int v109_6)]) hx hb dX13_run_157 hl (k := 4) rfl (by rw [ex53]; rfl) (by decide) rfl (fun ls hl => ?_)
                          refine lv_goto (tgt := 39) hx hb dX13_run_160 (by decide) ?_
                          exact ih39 x53 S50 _ _ _ (⟨pb_t q1 hq52, a_up ex53 hi39.2.1 (i_lt c15)⟩) (msd hm39 (a_dec ex53 hi39.2.1 (i_lt c15)).1 (a_dec ex53 hi39.2.1 (i_lt c15)).2) hG V hS (lv_sub hl [1, 2, 3, 4, 0] rfl)
                        · replace hG := gIf_n hG c49
                          refine lv_aload_n hx hb dX13_run_125 rfl (lv_at hl 0 rfl) ?_
                          refine mG13 C V dX13_run_126 ?_
                          refine lv_iload hx hb dX13_run_129 (lv_at hl 5 rfl) ?_
                          refine mLd13 C V (vin (N := 8) rfl (hi109.1.1) (hi109.1.2)) dX13_run_131 ?_
                          refine lv_iconst (v := 1) hx hb dX13_run_132 (by decide) ?_
                          refine lv_icmp_ne (tgt := 139) hx hb dX13_run_133 (by decide) (fun c54 => ?_) (fun c54 => ?_)
                          · replace hG := gIf_n hG c54
                            refine lv_iload hx hb dX13_run_139 (lv_at hl 5 rfl) ?_
                            refine lv_iconst (v := 1) hx hb dX13_run_141 (by decide) ?_
                            refine lv_iadd hx hb dX13_run_142 ?_
                            refine lv_bipush (v := 8) hx hb dX13_run_143 (by decide) ?_
                            refine lv_irem hx hb dX13_run_145 (by clear hG V hS hl C hts hown hx hb hml hr hlk ih39 ih109 hm39 hm109; decide) ?_
                            refine lv_topi (fun x55 ex55 => ?_)
                            replace hG := gLt_e hG ex55
                            refine lv_istore (lv' := [(5, .int x55), (0, .ref o), (1, .int how), (2, .int z), (3, .int n), (4, .int v39_4), (6, .int v109_6)]) hx hb dX13_run_146 hl (by decide) rfl (fun ls hl => ?_)
                            refine lv_goto (tgt := 109) hx hb dX13_run_148 (by decide) ?_
                            have rn9 := run_m (y := x55) (k := v109_6) hi109.1 hi109.2 ⟨hu0, hu1⟩ ex55 (by first | exact Or.inl ⟨nope9, i_gt c49⟩ | exact Or.inr ⟨rfl, fun z9 => c54 (by rw [z9]; first | exact st9 | exact hu2)⟩ | exact absurd c54 c44)
                            exact ih109 x55 v109_6  _ _ _ (⟨(rn9).1, (rn9).2.1⟩) (msd hm109 rn9.2.2.1 rn9.2.2.2) hG V hS (lv_sub hl [1, 2, 3, 4, 5, 0, 6] rfl)
                          · replace hG := gIf_p hG c54
                            obtain ⟨x56, ex56⟩ : ∃ y : Int32, y = v109_6 + (-1) := ⟨_, rfl⟩
                            replace hG := gLt_e hG ex56
                            refine lv_iinc (v := x56) (lv' := [(6, .int x56), (0, .ref o), (1, .int how), (2, .int z), (3, .int n), (4, .int v39_4), (5, .int v109_5)]) hx hb dX13_run_136 hl (k := 6) rfl (by rw [ex56]; rfl) (by decide) rfl (fun ls hl => ?_)
                            refine lv_iload hx hb dX13_run_139 (lv_at hl 6 rfl) ?_
                            refine lv_iconst (v := 1) hx hb dX13_run_141 (by decide) ?_
                            refine lv_iadd hx hb dX13_run_142 ?_
                            refine lv_bipush (v := 8) hx hb dX13_run_143 (by decide) ?_
                            refine lv_irem hx hb dX13_run_145 (by clear hG V hS hl C hts hown hx hb hml hr hlk ih39 ih109 hm39 hm109; decide) ?_
                            refine lv_topi (fun x57 ex57 => ?_)
                            replace hG := gLt_e hG ex57
                            refine lv_istore (lv' := [(5, .int x57), (6, .int x56), (0, .ref o), (1, .int how), (2, .int z), (3, .int n), (4, .int v39_4)]) hx hb dX13_run_146 hl (by decide) rfl (fun ls hl => ?_)
                            refine lv_goto (tgt := 109) hx hb dX13_run_148 (by decide) ?_
                            have rn9 := run_m (y := x57) (k := x56) hi109.1 hi109.2 ⟨hu0, hu1⟩ ex57 (by first | exact Or.inl ⟨ex56, i_gt c49⟩ | exact Or.inr ⟨rfl, fun z9 => c54 (by rw [z9]; first | exact st9 | exact hu2)⟩ | exact absurd c54 c44)
                            exact ih109 x57 x56  _ _ _ (⟨(rn9).1, (rn9).2.1⟩) (msd hm109 rn9.2.2.1 rn9.2.2.2) hG V hS (lv_sub hl [2, 3, 4, 5, 6, 0, 1] rfl)
                  have en9 : (0 ≤ x21 ∧ x21 < 8) ∧ (0 ≤ x43 ∧ x43 ≤ 8) := ⟨x5, by first | exact a_le8 (by clear hG V hS hl C hts hown hx hb hml hr hlk ih39 hm39; rw [ex43]; exact rem_r (ush8 ex39) (hq42.2.2.2 u9 hu0 hu1 st9)) hq42.2.1 | (rw [ex22]; decide)⟩
                  exact loop109 (100) x21 x43  _ _ _ en9 (rM_100 en9 ⟨hu0, hu1⟩) hG V hS (lv_sub hl [2, 3, 4, 5, 6, 1, 0] rfl)
              · replace hG := gIf_p hG c20
                refine lv_aload_n hx hb dX13_run_57 rfl (lv_at hl 0 rfl) ?_
                refine mG26 C V dX13_run_58 ?_
                refine lv_iconst (v := 1) hx hb dX13_run_61 (by decide) ?_
                refine lv_iadd hx hb dX13_run_62 ?_
                refine lv_bipush (v := 8) hx hb dX13_run_63 (by decide) ?_
                refine lv_irem hx hb dX13_run_65 (by clear hG V hS hl C hts hown hx hb hml hr hlk ih39 hm39; decide) ?_
                refine lv_goto (tgt := 70) hx hb dX13_run_66 (by decide) ?_
                refine lv_topi (fun x58 ex58 => ?_)
                replace hG := gLt_e hG ex58
                refine lv_istore (lv' := [(5, .int x58), (0, .ref o), (1, .int how), (2, .int z), (3, .int n), (4, .int v39_4)]) hx hb dX13_run_70 hl (by decide) rfl (fun ls hl => ?_)
                have x5 : 0 ≤ x58 ∧ x58 < 8 := by rw [ex58]; first | exact lat8 ⟨hi39.1.1.1.2.2.1, hi39.1.1.1.2.2.2⟩ | decide
                refine lv_iconst (v := 0) hx hb dX13_run_72 (by decide) ?_
                refine lv_topi (fun x59 ex59 => ?_)
                replace hG := gLt_e hG ex59
                refine lv_istore (lv' := [(6, .int x59), (5, .int x58), (0, .ref o), (1, .int how), (2, .int z), (3, .int n), (4, .int v39_4)]) hx hb dX13_run_73 hl (by decide) rfl (fun ls hl => ?_)
                refine lv_iload_n hx hb dX13_run_75 rfl (lv_at hl 3 rfl) ?_
                refine lv_if_ne (tgt := 109) hx hb dX13_run_76 (by decide) (fun c60 => ?_) (fun c60 => ?_)
                · replace hG := gIf_n hG c60
                  have loop109 : ∀ (N109 : Nat) (v109_5 : Int32) (v109_6 : Int32)  (H : Heap) (locs : List Loc) (ls : Array Slot), ((0 ≤ v109_5 ∧ v109_5 < 8) ∧ (0 ≤ v109_6 ∧ v109_6 ≤ 8)) → ((rM v109_5 u9 v109_6).toInt.toNat) < N109 → (G_run S how z n = G_run_L109 v39_4 SL39 (fun z0 z1 => G_run_L39 how n N39 z0 z1) N109 v109_5 v109_6) → mV D cs o ad A SL39 H → va_S A s.heap H locs → lv_has ls 7 [(0, .ref o), (1, .int how), (2, .int z), (3, .int n), (4, .int v39_4), (5, .int v109_5), (6, .int v109_6)] → W p l e ({ frames := 7, cells := 0, slots := 0, locals := 167 } : Room) s m ([.ref o, .int how, .int z, .int n] : List Value).toArray below meth c H locs 0 0 (MQ below (va_Qi (fun r9 S9 => (mInv S9 ∧ gI S9 2 = gI S 2) ∧ (r9, S9) = G_run S how z n) (mB D cs o ad A) A) ([.ref o, .int how, .int z, .int n] : List Value).toArray s 0 0 A) (F0 m 109 ls []) := by
                    intro N109
                    induction N109 with
                    | zero => intro v109_5 v109_6  H locs ls hi109 hm109; exact absurd hm109 (Nat.not_lt_zero _)
                    | succ N109 ih109 =>
                      intro v109_5 v109_6  H locs ls hi109 hm109 hG V hS hl
                      rw [G_run_L109] at hG
                      have q1 : mInv SL39 ∧ gI SL39 2 = gI S 2 := by first | exact pb_t hi39.1 p3 | exact hi39.1
                      refine lv_aload_n hx hb dX13_run_109 rfl (lv_at hl 0 rfl) ?_
                      refine mG13 C V dX13_run_110 ?_
                      refine lv_iload hx hb dX13_run_113 (lv_at hl 5 rfl) ?_
                      refine mLd13 C V (vin (N := 8) rfl (hi109.1.1) (hi109.1.2)) dX13_run_115 ?_
                      refine lv_iconst (v := 1) hx hb dX13_run_116 (by decide) ?_
                      refine lv_icmp_ne (tgt := 125) hx hb dX13_run_117 (by decide) (fun c61 => ?_) (fun c61 => ?_)
                      · replace hG := gIf_n hG c61
                        refine lv_aload_n hx hb dX13_run_125 rfl (lv_at hl 0 rfl) ?_
                        refine mG13 C V dX13_run_126 ?_
                        refine lv_iload hx hb dX13_run_129 (lv_at hl 5 rfl) ?_
                        refine mLd13 C V (vin (N := 8) rfl (hi109.1.1) (hi109.1.2)) dX13_run_131 ?_
                        refine lv_iconst (v := 1) hx hb dX13_run_132 (by decide) ?_
                        refine lv_icmp_ne (tgt := 139) hx hb dX13_run_133 (by decide) (fun c62 => ?_) (fun c62 => ?_)
                        · replace hG := gIf_n hG c62
                          refine lv_iload hx hb dX13_run_139 (lv_at hl 5 rfl) ?_
                          refine lv_iconst (v := 1) hx hb dX13_run_141 (by decide) ?_
                          refine lv_iadd hx hb dX13_run_142 ?_
                          refine lv_bipush (v := 8) hx hb dX13_run_143 (by decide) ?_
                          refine lv_irem hx hb dX13_run_145 (by clear hG V hS hl C hts hown hx hb hml hr hlk ih39 ih109 hm39 hm109; decide) ?_
                          refine lv_topi (fun x63 ex63 => ?_)
                          replace hG := gLt_e hG ex63
                          refine lv_istore (lv' := [(5, .int x63), (0, .ref o), (1, .int how), (2, .int z), (3, .int n), (4, .int v39_4), (6, .int v109_6)]) hx hb dX13_run_146 hl (by decide) rfl (fun ls hl => ?_)
                          refine lv_goto (tgt := 109) hx hb dX13_run_148 (by decide) ?_
                          have rn9 := run_m (y := x63) (k := v109_6) hi109.1 hi109.2 ⟨hu0, hu1⟩ ex63 (by first | exact Or.inl ⟨nope9, i_gt nope9⟩ | exact Or.inr ⟨rfl, fun z9 => c62 (by rw [z9]; first | exact st9 | exact hu2)⟩ | exact absurd c62 c61)
                          exact ih109 x63 v109_6  _ _ _ (⟨(rn9).1, (rn9).2.1⟩) (msd hm109 rn9.2.2.1 rn9.2.2.2) hG V hS (lv_sub hl [1, 2, 3, 4, 5, 0, 6] rfl)
                        · replace hG := gIf_p hG c62
                          obtain ⟨x64, ex64⟩ : ∃ y : Int32, y = v109_6 + (-1) := ⟨_, rfl⟩
                          replace hG := gLt_e hG ex64
                          refine lv_iinc (v := x64) (lv' := [(6, .int x64), (0, .ref o), (1, .int how), (2, .int z), (3, .int n), (4, .int v39_4), (5, .int v109_5)]) hx hb dX13_run_136 hl (k := 6) rfl (by rw [ex64]; rfl) (by decide) rfl (fun ls hl => ?_)
                          refine lv_iload hx hb dX13_run_139 (lv_at hl 6 rfl) ?_
                          refine lv_iconst (v := 1) hx hb dX13_run_141 (by decide) ?_
                          refine lv_iadd hx hb dX13_run_142 ?_
                          refine lv_bipush (v := 8) hx hb dX13_run_143 (by decide) ?_
                          refine lv_irem hx hb dX13_run_145 (by clear hG V hS hl C hts hown hx hb hml hr hlk ih39 ih109 hm39 hm109; decide) ?_
                          refine lv_topi (fun x65 ex65 => ?_)
                          replace hG := gLt_e hG ex65
                          refine lv_istore (lv' := [(5, .int x65), (6, .int x64), (0, .ref o), (1, .int how), (2, .int z), (3, .int n), (4, .int v39_4)]) hx hb dX13_run_146 hl (by decide) rfl (fun ls hl => ?_)
                          refine lv_goto (tgt := 109) hx hb dX13_run_148 (by decide) ?_
                          have rn9 := run_m (y := x65) (k := x64) hi109.1 hi109.2 ⟨hu0, hu1⟩ ex65 (by first | exact Or.inl ⟨ex64, i_gt nope9⟩ | exact Or.inr ⟨rfl, fun z9 => c62 (by rw [z9]; first | exact st9 | exact hu2)⟩ | exact absurd c62 c61)
                          exact ih109 x65 x64  _ _ _ (⟨(rn9).1, (rn9).2.1⟩) (msd hm109 rn9.2.2.1 rn9.2.2.2) hG V hS (lv_sub hl [2, 3, 4, 5, 6, 0, 1] rfl)
                      · replace hG := gIf_p hG c61
                        refine lv_iload hx hb dX13_run_120 (lv_at hl 6 rfl) ?_
                        refine lv_if_le (tgt := 151) hx hb dX13_run_122 (by decide) (fun c66 => ?_) (fun c66 => ?_)
                        · replace hG := gIf_p hG c66
                          refine lv_aload_n hx hb dX13_run_151 rfl (lv_at hl 0 rfl) ?_
                          refine lv_iload hx hb dX13_run_152 (lv_at hl 5 rfl) ?_
                          refine mGoV (mRunV (As := [.int v109_5]) (rest := []) C hml V (c_one l D cs o ad A SL39 v109_5  (hi109.1) (q1.1) (c61)) gM_one okM_one ⟨rfl, rfl, Nat.le_of_ble_eq_true rfl, Nat.le_of_ble_eq_true rfl⟩ hl.1 rfl (Nat.le_of_ble_eq_true rfl) dX13_run_154 ⟨Nat.zero_le _, Nat.zero_le _⟩) hS (fun S67 H locs hq69 V hS => ?_)
                          obtain ⟨hq69, ghq69⟩ := hq69
                          replace hG := gLt_e hG ghq69
                          obtain ⟨x70, ex70⟩ : ∃ y : Int32, y = v39_4 + (1) := ⟨_, rfl⟩
                          replace hG := gLt_e hG ex70
                          refine lv_iinc (v := x70) (lv' := [(4, .int x70), (0, .ref o), (1, .int how), (2, .int z), (3, .int n), (5, .int v109_5), (6, .int v109_6)]) hx hb dX13_run_157 hl (k := 4) rfl (by rw [ex70]; rfl) (by decide) rfl (fun ls hl => ?_)
                          refine lv_goto (tgt := 39) hx hb dX13_run_160 (by decide) ?_
                          exact ih39 x70 S67 _ _ _ (⟨pb_t q1 hq69, a_up ex70 hi39.2.1 (i_lt c15)⟩) (msd hm39 (a_dec ex70 hi39.2.1 (i_lt c15)).1 (a_dec ex70 hi39.2.1 (i_lt c15)).2) hG V hS (lv_sub hl [1, 2, 3, 4, 0] rfl)
                        · replace hG := gIf_n hG c66
                          refine lv_aload_n hx hb dX13_run_125 rfl (lv_at hl 0 rfl) ?_
                          refine mG13 C V dX13_run_126 ?_
                          refine lv_iload hx hb dX13_run_129 (lv_at hl 5 rfl) ?_
                          refine mLd13 C V (vin (N := 8) rfl (hi109.1.1) (hi109.1.2)) dX13_run_131 ?_
                          refine lv_iconst (v := 1) hx hb dX13_run_132 (by decide) ?_
                          refine lv_icmp_ne (tgt := 139) hx hb dX13_run_133 (by decide) (fun c71 => ?_) (fun c71 => ?_)
                          · replace hG := gIf_n hG c71
                            refine lv_iload hx hb dX13_run_139 (lv_at hl 5 rfl) ?_
                            refine lv_iconst (v := 1) hx hb dX13_run_141 (by decide) ?_
                            refine lv_iadd hx hb dX13_run_142 ?_
                            refine lv_bipush (v := 8) hx hb dX13_run_143 (by decide) ?_
                            refine lv_irem hx hb dX13_run_145 (by clear hG V hS hl C hts hown hx hb hml hr hlk ih39 ih109 hm39 hm109; decide) ?_
                            refine lv_topi (fun x72 ex72 => ?_)
                            replace hG := gLt_e hG ex72
                            refine lv_istore (lv' := [(5, .int x72), (0, .ref o), (1, .int how), (2, .int z), (3, .int n), (4, .int v39_4), (6, .int v109_6)]) hx hb dX13_run_146 hl (by decide) rfl (fun ls hl => ?_)
                            refine lv_goto (tgt := 109) hx hb dX13_run_148 (by decide) ?_
                            have rn9 := run_m (y := x72) (k := v109_6) hi109.1 hi109.2 ⟨hu0, hu1⟩ ex72 (by first | exact Or.inl ⟨nope9, i_gt c66⟩ | exact Or.inr ⟨rfl, fun z9 => c71 (by rw [z9]; first | exact st9 | exact hu2)⟩ | exact absurd c71 c61)
                            exact ih109 x72 v109_6  _ _ _ (⟨(rn9).1, (rn9).2.1⟩) (msd hm109 rn9.2.2.1 rn9.2.2.2) hG V hS (lv_sub hl [1, 2, 3, 4, 5, 0, 6] rfl)
                          · replace hG := gIf_p hG c71
                            obtain ⟨x73, ex73⟩ : ∃ y : Int32, y = v109_6 + (-1) := ⟨_, rfl⟩
                            replace hG := gLt_e hG ex73
                            refine lv_iinc (v := x73) (lv' := [(6, .int x73), (0, .ref o), (1, .int how), (2, .int z), (3, .int n), (4, .int v39_4), (5, .int v109_5)]) hx hb dX13_run_136 hl (k := 6) rfl (by rw [ex73]; rfl) (by decide) rfl (fun ls hl => ?_)
                            refine lv_iload hx hb dX13_run_139 (lv_at hl 6 rfl) ?_
                            refine lv_iconst (v := 1) hx hb dX13_run_141 (by decide) ?_
                            refine lv_iadd hx hb dX13_run_142 ?_
                            refine lv_bipush (v := 8) hx hb dX13_run_143 (by decide) ?_
                            refine lv_irem hx hb dX13_run_145 (by clear hG V hS hl C hts hown hx hb hml hr hlk ih39 ih109 hm39 hm109; decide) ?_
                            refine lv_topi (fun x74 ex74 => ?_)
                            replace hG := gLt_e hG ex74
                            refine lv_istore (lv' := [(5, .int x74), (6, .int x73), (0, .ref o), (1, .int how), (2, .int z), (3, .int n), (4, .int v39_4)]) hx hb dX13_run_146 hl (by decide) rfl (fun ls hl => ?_)
                            refine lv_goto (tgt := 109) hx hb dX13_run_148 (by decide) ?_
                            have rn9 := run_m (y := x74) (k := x73) hi109.1 hi109.2 ⟨hu0, hu1⟩ ex74 (by first | exact Or.inl ⟨ex73, i_gt c66⟩ | exact Or.inr ⟨rfl, fun z9 => c71 (by rw [z9]; first | exact st9 | exact hu2)⟩ | exact absurd c71 c61)
                            exact ih109 x74 x73  _ _ _ (⟨(rn9).1, (rn9).2.1⟩) (msd hm109 rn9.2.2.1 rn9.2.2.2) hG V hS (lv_sub hl [2, 3, 4, 5, 6, 0, 1] rfl)
                  have en9 : (0 ≤ x58 ∧ x58 < 8) ∧ (0 ≤ x59 ∧ x59 ≤ 8) := ⟨x5, by first | exact a_le8 (by clear hG V hS hl C hts hown hx hb hml hr hlk ih39 hm39; rw [nope9]; exact rem_r (ush8 nope9) (nope9.2.2.2 u9 hu0 hu1 st9)) nope9.2.1 | (rw [ex59]; decide)⟩
                  exact loop109 (100) x58 x59  _ _ _ en9 (rM_100 en9 ⟨hu0, hu1⟩) hG V hS (lv_sub hl [2, 3, 4, 5, 6, 1, 0] rfl)
                · replace hG := gIf_p hG c60
                  refine lv_aload_n hx hb dX13_run_79 rfl (lv_at hl 2 rfl) ?_
                  refine lv_aload_n hx hb dX13_run_80 rfl (lv_at hl 2 rfl) ?_
                  refine mG27 C V dX13_run_81 ?_
                  refine lv_ldcw hx hb hown (hts _ tMc307) dX13_run_84 ?_
                  refine lv_imul hx hb dX13_run_87 ?_
                  refine lv_sipush (v := 12345) hx hb dX13_run_88 (by decide) ?_
                  refine lv_iadd hx hb dX13_run_91 ?_
                  refine mP27 C V hS dX13_run_92 (fun S75 H locs eS75 V hS => ?_)
                  replace hG := gLt_e hG eS75
                  have p3 := pb_I hi39.1.1 eS75 (by decide) (by decide)
                  have st9 : gA S75 13 u9 = 1 := by rw [eS75]; exact hu2
                  refine lv_aload_n hx hb dX13_run_95 rfl (lv_at hl 2 rfl) ?_
                  refine mG27 C V dX13_run_96 ?_
                  refine lv_bipush (v := 8) hx hb dX13_run_99 (by decide) ?_
                  refine lv_iushr hx hb dX13_run_101 rfl ?_
                  refine lv_topi (fun x76 ex76 => ?_)
                  replace hG := gLt_e hG ex76
                  refine lv_aload_n hx hb dX13_run_102 rfl (lv_at hl 2 rfl) ?_
                  refine mGoQ (mRunV (As := []) (rest := [.int x76]) C hml V (c_ready l D cs o ad A S75   ) gM_ready okM_ready ⟨rfl, rfl, Nat.le_of_ble_eq_true rfl, Nat.le_of_ble_eq_true rfl⟩ hl.1 rfl (Nat.le_of_ble_eq_true rfl) dX13_run_103 ⟨Nat.zero_le _, Nat.zero_le _⟩) hS (fun r78 H locs hq79 V hS => ?_)
                  obtain ⟨hq79, ghq79⟩ := hq79
                  replace hG := gLt_e hG ghq79
                  refine lv_irem hx hb dX13_run_106 (a_ne0 (hq79.2.2.2 u9 hu0 hu1 st9)) ?_
                  refine lv_topi (fun x80 ex80 => ?_)
                  replace hG := gLt_e hG ex80
                  refine lv_istore (lv' := [(6, .int x80), (5, .int x58), (0, .ref o), (1, .int how), (2, .int z), (3, .int n), (4, .int v39_4)]) hx hb dX13_run_107 hl (by decide) rfl (fun ls hl => ?_)
                  have loop109 : ∀ (N109 : Nat) (v109_5 : Int32) (v109_6 : Int32)  (H : Heap) (locs : List Loc) (ls : Array Slot), ((0 ≤ v109_5 ∧ v109_5 < 8) ∧ (0 ≤ v109_6 ∧ v109_6 ≤ 8)) → ((rM v109_5 u9 v109_6).toInt.toNat) < N109 → (G_run S how z n = G_run_L109 v39_4 S75 (fun z0 z1 => G_run_L39 how n N39 z0 z1) N109 v109_5 v109_6) → mV D cs o ad A S75 H → va_S A s.heap H locs → lv_has ls 7 [(0, .ref o), (1, .int how), (2, .int z), (3, .int n), (4, .int v39_4), (5, .int v109_5), (6, .int v109_6)] → W p l e ({ frames := 7, cells := 0, slots := 0, locals := 167 } : Room) s m ([.ref o, .int how, .int z, .int n] : List Value).toArray below meth c H locs 0 0 (MQ below (va_Qi (fun r9 S9 => (mInv S9 ∧ gI S9 2 = gI S 2) ∧ (r9, S9) = G_run S how z n) (mB D cs o ad A) A) ([.ref o, .int how, .int z, .int n] : List Value).toArray s 0 0 A) (F0 m 109 ls []) := by
                    intro N109
                    induction N109 with
                    | zero => intro v109_5 v109_6  H locs ls hi109 hm109; exact absurd hm109 (Nat.not_lt_zero _)
                    | succ N109 ih109 =>
                      intro v109_5 v109_6  H locs ls hi109 hm109 hG V hS hl
                      rw [G_run_L109] at hG
                      have q1 : mInv S75 ∧ gI S75 2 = gI S 2 := by first | exact pb_t hi39.1 p3 | exact hi39.1
                      refine lv_aload_n hx hb dX13_run_109 rfl (lv_at hl 0 rfl) ?_
                      refine mG13 C V dX13_run_110 ?_
                      refine lv_iload hx hb dX13_run_113 (lv_at hl 5 rfl) ?_
                      refine mLd13 C V (vin (N := 8) rfl (hi109.1.1) (hi109.1.2)) dX13_run_115 ?_
                      refine lv_iconst (v := 1) hx hb dX13_run_116 (by decide) ?_
                      refine lv_icmp_ne (tgt := 125) hx hb dX13_run_117 (by decide) (fun c81 => ?_) (fun c81 => ?_)
                      · replace hG := gIf_n hG c81
                        refine lv_aload_n hx hb dX13_run_125 rfl (lv_at hl 0 rfl) ?_
                        refine mG13 C V dX13_run_126 ?_
                        refine lv_iload hx hb dX13_run_129 (lv_at hl 5 rfl) ?_
                        refine mLd13 C V (vin (N := 8) rfl (hi109.1.1) (hi109.1.2)) dX13_run_131 ?_
                        refine lv_iconst (v := 1) hx hb dX13_run_132 (by decide) ?_
                        refine lv_icmp_ne (tgt := 139) hx hb dX13_run_133 (by decide) (fun c82 => ?_) (fun c82 => ?_)
                        · replace hG := gIf_n hG c82
                          refine lv_iload hx hb dX13_run_139 (lv_at hl 5 rfl) ?_
                          refine lv_iconst (v := 1) hx hb dX13_run_141 (by decide) ?_
                          refine lv_iadd hx hb dX13_run_142 ?_
                          refine lv_bipush (v := 8) hx hb dX13_run_143 (by decide) ?_
                          refine lv_irem hx hb dX13_run_145 (by clear hG V hS hl C hts hown hx hb hml hr hlk ih39 ih109 hm39 hm109; decide) ?_
                          refine lv_topi (fun x83 ex83 => ?_)
                          replace hG := gLt_e hG ex83
                          refine lv_istore (lv' := [(5, .int x83), (0, .ref o), (1, .int how), (2, .int z), (3, .int n), (4, .int v39_4), (6, .int v109_6)]) hx hb dX13_run_146 hl (by decide) rfl (fun ls hl => ?_)
                          refine lv_goto (tgt := 109) hx hb dX13_run_148 (by decide) ?_
                          have rn9 := run_m (y := x83) (k := v109_6) hi109.1 hi109.2 ⟨hu0, hu1⟩ ex83 (by first | exact Or.inl ⟨nope9, i_gt nope9⟩ | exact Or.inr ⟨rfl, fun z9 => c82 (by rw [z9]; first | exact st9 | exact hu2)⟩ | exact absurd c82 c81)
                          exact ih109 x83 v109_6  _ _ _ (⟨(rn9).1, (rn9).2.1⟩) (msd hm109 rn9.2.2.1 rn9.2.2.2) hG V hS (lv_sub hl [1, 2, 3, 4, 5, 0, 6] rfl)
                        · replace hG := gIf_p hG c82
                          obtain ⟨x84, ex84⟩ : ∃ y : Int32, y = v109_6 + (-1) := ⟨_, rfl⟩
                          replace hG := gLt_e hG ex84
                          refine lv_iinc (v := x84) (lv' := [(6, .int x84), (0, .ref o), (1, .int how), (2, .int z), (3, .int n), (4, .int v39_4), (5, .int v109_5)]) hx hb dX13_run_136 hl (k := 6) rfl (by rw [ex84]; rfl) (by decide) rfl (fun ls hl => ?_)
                          refine lv_iload hx hb dX13_run_139 (lv_at hl 6 rfl) ?_
                          refine lv_iconst (v := 1) hx hb dX13_run_141 (by decide) ?_
                          refine lv_iadd hx hb dX13_run_142 ?_
                          refine lv_bipush (v := 8) hx hb dX13_run_143 (by decide) ?_
                          refine lv_irem hx hb dX13_run_145 (by clear hG V hS hl C hts hown hx hb hml hr hlk ih39 ih109 hm39 hm109; decide) ?_
                          refine lv_topi (fun x85 ex85 => ?_)
                          replace hG := gLt_e hG ex85
                          refine lv_istore (lv' := [(5, .int x85), (6, .int x84), (0, .ref o), (1, .int how), (2, .int z), (3, .int n), (4, .int v39_4)]) hx hb dX13_run_146 hl (by decide) rfl (fun ls hl => ?_)
                          refine lv_goto (tgt := 109) hx hb dX13_run_148 (by decide) ?_
                          have rn9 := run_m (y := x85) (k := x84) hi109.1 hi109.2 ⟨hu0, hu1⟩ ex85 (by first | exact Or.inl ⟨ex84, i_gt nope9⟩ | exact Or.inr ⟨rfl, fun z9 => c82 (by rw [z9]; first | exact st9 | exact hu2)⟩ | exact absurd c82 c81)
                          exact ih109 x85 x84  _ _ _ (⟨(rn9).1, (rn9).2.1⟩) (msd hm109 rn9.2.2.1 rn9.2.2.2) hG V hS (lv_sub hl [2, 3, 4, 5, 6, 0, 1] rfl)
                      · replace hG := gIf_p hG c81
                        refine lv_iload hx hb dX13_run_120 (lv_at hl 6 rfl) ?_
                        refine lv_if_le (tgt := 151) hx hb dX13_run_122 (by decide) (fun c86 => ?_) (fun c86 => ?_)
                        · replace hG := gIf_p hG c86
                          refine lv_aload_n hx hb dX13_run_151 rfl (lv_at hl 0 rfl) ?_
                          refine lv_iload hx hb dX13_run_152 (lv_at hl 5 rfl) ?_
                          refine mGoV (mRunV (As := [.int v109_5]) (rest := []) C hml V (c_one l D cs o ad A S75 v109_5  (hi109.1) (q1.1) (c81)) gM_one okM_one ⟨rfl, rfl, Nat.le_of_ble_eq_true rfl, Nat.le_of_ble_eq_true rfl⟩ hl.1 rfl (Nat.le_of_ble_eq_true rfl) dX13_run_154 ⟨Nat.zero_le _, Nat.zero_le _⟩) hS (fun S87 H locs hq89 V hS => ?_)
                          obtain ⟨hq89, ghq89⟩ := hq89
                          replace hG := gLt_e hG ghq89
                          obtain ⟨x90, ex90⟩ : ∃ y : Int32, y = v39_4 + (1) := ⟨_, rfl⟩
                          replace hG := gLt_e hG ex90
                          refine lv_iinc (v := x90) (lv' := [(4, .int x90), (0, .ref o), (1, .int how), (2, .int z), (3, .int n), (5, .int v109_5), (6, .int v109_6)]) hx hb dX13_run_157 hl (k := 4) rfl (by rw [ex90]; rfl) (by decide) rfl (fun ls hl => ?_)
                          refine lv_goto (tgt := 39) hx hb dX13_run_160 (by decide) ?_
                          exact ih39 x90 S87 _ _ _ (⟨pb_t q1 hq89, a_up ex90 hi39.2.1 (i_lt c15)⟩) (msd hm39 (a_dec ex90 hi39.2.1 (i_lt c15)).1 (a_dec ex90 hi39.2.1 (i_lt c15)).2) hG V hS (lv_sub hl [1, 2, 3, 4, 0] rfl)
                        · replace hG := gIf_n hG c86
                          refine lv_aload_n hx hb dX13_run_125 rfl (lv_at hl 0 rfl) ?_
                          refine mG13 C V dX13_run_126 ?_
                          refine lv_iload hx hb dX13_run_129 (lv_at hl 5 rfl) ?_
                          refine mLd13 C V (vin (N := 8) rfl (hi109.1.1) (hi109.1.2)) dX13_run_131 ?_
                          refine lv_iconst (v := 1) hx hb dX13_run_132 (by decide) ?_
                          refine lv_icmp_ne (tgt := 139) hx hb dX13_run_133 (by decide) (fun c91 => ?_) (fun c91 => ?_)
                          · replace hG := gIf_n hG c91
                            refine lv_iload hx hb dX13_run_139 (lv_at hl 5 rfl) ?_
                            refine lv_iconst (v := 1) hx hb dX13_run_141 (by decide) ?_
                            refine lv_iadd hx hb dX13_run_142 ?_
                            refine lv_bipush (v := 8) hx hb dX13_run_143 (by decide) ?_
                            refine lv_irem hx hb dX13_run_145 (by clear hG V hS hl C hts hown hx hb hml hr hlk ih39 ih109 hm39 hm109; decide) ?_
                            refine lv_topi (fun x92 ex92 => ?_)
                            replace hG := gLt_e hG ex92
                            refine lv_istore (lv' := [(5, .int x92), (0, .ref o), (1, .int how), (2, .int z), (3, .int n), (4, .int v39_4), (6, .int v109_6)]) hx hb dX13_run_146 hl (by decide) rfl (fun ls hl => ?_)
                            refine lv_goto (tgt := 109) hx hb dX13_run_148 (by decide) ?_
                            have rn9 := run_m (y := x92) (k := v109_6) hi109.1 hi109.2 ⟨hu0, hu1⟩ ex92 (by first | exact Or.inl ⟨nope9, i_gt c86⟩ | exact Or.inr ⟨rfl, fun z9 => c91 (by rw [z9]; first | exact st9 | exact hu2)⟩ | exact absurd c91 c81)
                            exact ih109 x92 v109_6  _ _ _ (⟨(rn9).1, (rn9).2.1⟩) (msd hm109 rn9.2.2.1 rn9.2.2.2) hG V hS (lv_sub hl [1, 2, 3, 4, 5, 0, 6] rfl)
                          · replace hG := gIf_p hG c91
                            obtain ⟨x93, ex93⟩ : ∃ y : Int32, y = v109_6 + (-1) := ⟨_, rfl⟩
                            replace hG := gLt_e hG ex93
                            refine lv_iinc (v := x93) (lv' := [(6, .int x93), (0, .ref o), (1, .int how), (2, .int z), (3, .int n), (4, .int v39_4), (5, .int v109_5)]) hx hb dX13_run_136 hl (k := 6) rfl (by rw [ex93]; rfl) (by decide) rfl (fun ls hl => ?_)
                            refine lv_iload hx hb dX13_run_139 (lv_at hl 6 rfl) ?_
                            refine lv_iconst (v := 1) hx hb dX13_run_141 (by decide) ?_
                            refine lv_iadd hx hb dX13_run_142 ?_
                            refine lv_bipush (v := 8) hx hb dX13_run_143 (by decide) ?_
                            refine lv_irem hx hb dX13_run_145 (by clear hG V hS hl C hts hown hx hb hml hr hlk ih39 ih109 hm39 hm109; decide) ?_
                            refine lv_topi (fun x94 ex94 => ?_)
                            replace hG := gLt_e hG ex94
                            refine lv_istore (lv' := [(5, .int x94), (6, .int x93), (0, .ref o), (1, .int how), (2, .int z), (3, .int n), (4, .int v39_4)]) hx hb dX13_run_146 hl (by decide) rfl (fun ls hl => ?_)
                            refine lv_goto (tgt := 109) hx hb dX13_run_148 (by decide) ?_
                            have rn9 := run_m (y := x94) (k := x93) hi109.1 hi109.2 ⟨hu0, hu1⟩ ex94 (by first | exact Or.inl ⟨ex93, i_gt c86⟩ | exact Or.inr ⟨rfl, fun z9 => c91 (by rw [z9]; first | exact st9 | exact hu2)⟩ | exact absurd c91 c81)
                            exact ih109 x94 x93  _ _ _ (⟨(rn9).1, (rn9).2.1⟩) (msd hm109 rn9.2.2.1 rn9.2.2.2) hG V hS (lv_sub hl [2, 3, 4, 5, 6, 0, 1] rfl)
                  have en9 : (0 ≤ x58 ∧ x58 < 8) ∧ (0 ≤ x80 ∧ x80 ≤ 8) := ⟨x5, by first | exact a_le8 (by clear hG V hS hl C hts hown hx hb hml hr hlk ih39 hm39; rw [ex80]; exact rem_r (ush8 ex76) (hq79.2.2.2 u9 hu0 hu1 st9)) hq79.2.1 | (rw [ex59]; decide)⟩
                  exact loop109 (100) x58 x80  _ _ _ en9 (rM_100 en9 ⟨hu0, hu1⟩) hG V hS (lv_sub hl [2, 3, 4, 5, 6, 1, 0] rfl)
      exact loop39 ((n - x14).toInt.toNat + 1) x14 S13 _ _ _ (⟨p2, by rw [ex14]; exact ⟨by decide, hn.1⟩⟩) (Nat.lt_succ_self _) hG V hS (lv_sub hl [1, 2, 3, 4, 0] rfl)
    · replace hG := gIf_p hG c11
      exact j_run_20 l D cs o ad A S how z n h1 C hml hr hlk   _ _ _ (trivial) hG V hS (lv_sub hl [0] rfl)

def G_number_J130 (S : mS) (lo : Int32) (hi : Int32) (j130_5 : Int32) : Int32 × mS := gLt (G_in S j130_5 lo hi : Int32) (fun r2 => if (r2 : Int32) = 0 then (gC (G_wrong S ) (fun r9 S8 => ((r9 : Int32), S8))) else (gLt (G_next S  : mS) (fun S5 => ((j130_5 : Int32), S5))))
def G_number_L68 (S : mS) (lo : Int32) (hi : Int32) (j39_4 : Int32) : Nat → Int32 → Int32 → Int32 × mS
  | 0, v68_3, v68_5 => ((0 : Int32), S)
  | N68 + 1, v68_3, v68_5 => if (gI S 9) ≤ (v68_3 : Int32) then (if (j39_4 : Int32) = 0 then (G_number_J130 S lo hi v68_5 ) else (gLt ((-v68_5) : Int32) (fun x19 => G_number_J130 S lo hi x19 ))) else (gLt (G_in S (gA S 1 v68_3) 48 57 : Int32) (fun r21 => if (r21 : Int32) = 0 then (gC (G_wrong S ) (fun r27 S26 => ((r27 : Int32), S26))) else (gLt ((((10 * v68_5) + (gA S 1 v68_3)) - 48) : Int32) (fun x24 => gLt (v68_3 + (1) : Int32) (fun x25 => G_number_L68 S lo hi j39_4 N68 x25 x24 )))))
def G_number_J39 (S : mS) (lo : Int32) (hi : Int32) (j39_3 : Int32) (j39_4 : Int32) : Int32 × mS := if (((gI S 9) - j39_3) : Int32) < 1 then (gC (G_wrong S ) (fun r13 S12 => ((r13 : Int32), S12))) else (if (((gI S 9) - j39_3) : Int32) ≤ 9 then (gLt (0 : Int32) (fun x16 => G_number_L68 S lo hi j39_4 ((gI S 9 - j39_3).toInt.toNat + 1) j39_3 x16 )) else (gC (G_wrong S ) (fun r30 S29 => ((r30 : Int32), S29))))
def G_number_J29 (S : mS) (lo : Int32) (hi : Int32) (j29_3 : Int32) (j29_s0 : Int32) : Int32 × mS := if (j29_s0 : Int32) = 0 then (G_number_J39 S lo hi j29_3 j29_s0 ) else (gLt (j29_3 + (1) : Int32) (fun x33 => G_number_J39 S lo hi x33 j29_s0 ))
def G_number (S : mS) (lo : Int32) (hi : Int32) : Int32 × mS := if ((gI S 10) : Int32) < 0 then (gLt ((gI S 8) : Int32) (fun x35 => gLt (G_byteAt S x35 : Int32) (fun r37 => if (r37 : Int32) = 45 then (G_number_J29 S lo hi x35 1 ) else (G_number_J29 S lo hi x35 0 )))) else (((0 : Int32), S))
set_option maxHeartbeats 400000 in
set_option maxRecDepth 100000 in
theorem j_number_130 {p : Program} {e : Env} {s : State} {m : MethodId} {below : List Frame} {meth : Method} {c : Code} (l : Launch) (D : va_G) (cs : ClassId × ClassId × ClassId) (o : Nat) (ad : Nat → Nat) (A : Nat → Prop) (S : mS) (lo : Int32) (hi : Int32)  (h1 : 0 ≤ gI S 8 ∧ gI S 8 ≤ gI S 9 ∧ gI S 9 ≤ gI S 7 ∧ gI S 7 ≤ 1600 ∧ (gI S 8 < gI S 7 → gI S 8 < gI S 9)) (C : mC p s m ([.ref o, .int lo, .int hi] : List Value).toArray c cX13_number D cs) (hml : c.maxLocals = 6) (hr : meth.sig.returnType = (some .int)) (hlk : meth.locks = false) (j130_5 : Int32)  (H : Heap) (locs : List Loc) (ls : Array Slot) (hj130 : gI S 10 < 0) (hG : G_number S lo hi = G_number_J130 S lo hi j130_5) (V : mV D cs o ad A S H) (hS : va_S A s.heap H locs) (hl : lv_has ls 6 [(0, .ref o), (1, .int lo), (2, .int hi), (5, .int j130_5)]) : W p l e ({ frames := 2, cells := 0, slots := 0, locals := 41 } : Room) s m ([.ref o, .int lo, .int hi] : List Value).toArray below meth c H locs 0 0 (MQ below (va_Qi (fun r9 S9 => (((lo ≤ r9 ∧ r9 ≤ hi) ∨ r9 = 0) ∧ 0 ≤ gI S9 8 ∧ gI S9 8 ≤ gI S9 9 ∧ gI S9 9 ≤ gI S9 7 ∧ gI S9 7 ≤ 1600 ∧ (gI S9 8 < gI S9 7 → gI S9 8 < gI S9 9) ∧ gI S 8 ≤ gI S9 8 ∧ (0 ≤ gI S 10 → 0 ≤ gI S9 10) ∧ (∀ k, k ≠ 8 → k ≠ 9 → k ≠ 10 → gI S9 k = gI S k) ∧ (∀ k, gJ S9 k = gJ S k) ∧ (∀ k i, gA S9 k i = gA S k i) ∧ (∀ k i, gL S9 k i = gL S k i)) ∧ (r9, S9) = G_number S lo hi) (mB D cs o ad A) A) ([.ref o, .int lo, .int hi] : List Value).toArray s 0 0 A) (F0 m 130 ls []) := by
  have hx := C.1
  have hb := C.2.1
  have hown := C.2.2.1
  have hts := C.2.2.2.1
  rw [G_number_J130] at hG
  refine lv_iload hx hb dX13_number_130 (lv_at hl 3 rfl) ?_
  refine lv_iload_n hx hb dX13_number_132 rfl (lv_at hl 1 rfl) ?_
  refine lv_iload_n hx hb dX13_number_133 rfl (lv_at hl 2 rfl) ?_
  refine mGoQ (mRunS (As := [.int j130_5, .int lo, .int hi]) (rest := []) C hml V (c_in l D cs o ad A S j130_5 lo hi  ) gM_in okM_in ⟨rfl, rfl, Nat.le_of_ble_eq_true rfl, Nat.le_of_ble_eq_true rfl⟩ hl.1 rfl (Nat.le_of_ble_eq_true rfl) dX13_number_134 ⟨Nat.zero_le _, Nat.zero_le _⟩) hS (fun r2 H locs hq3 V hS => ?_)
  obtain ⟨hq3, ghq3⟩ := hq3
  have hG := gLt_e hG ghq3
  refine lv_if_ne (tgt := 145) hx hb dX13_number_137 (by decide) (fun c4 => ?_) (fun c4 => ?_)
  · have hG := gIf_n hG c4
    refine lv_aload_n hx hb dX13_number_145 rfl (lv_at hl 0 rfl) ?_
    refine mGoV (mRunV (As := []) (rest := []) C hml V (c_next l D cs o ad A S   (by clear hG V hS hl C hts hown hx hb hml hr hlk; grind)) gM_next okM_next ⟨rfl, rfl, Nat.le_of_ble_eq_true rfl, Nat.le_of_ble_eq_true rfl⟩ hl.1 rfl (Nat.le_of_ble_eq_true rfl) dX13_number_146 ⟨Nat.zero_le _, Nat.zero_le _⟩) hS (fun S5 H locs hq7 V hS => ?_)
    obtain ⟨hq7, ghq7⟩ := hq7
    have hG := gLt_e hG ghq7
    refine lv_iload hx hb dX13_number_149 (lv_at hl 3 rfl) ?_
    exact mRetI C hr hlk V hS (⟨by clear hG V hS hl C hts hown hx hb hml hr hlk; grind [gI_sI, gI_sJ, gI_sA, gI_sL, gJ_sI, gJ_sJ, gJ_sA, gJ_sL, gA_sI, gA_sJ, gA_sA, gA_sL, gL_sI, gL_sJ, gL_sA, gL_sL], hG.symm⟩) dX13_number_151
  · have hG := gIf_p hG c4
    refine lv_aload_n hx hb dX13_number_140 rfl (lv_at hl 0 rfl) ?_
    refine mGoI (mRunV (As := []) (rest := []) C hml V (c_wrong l D cs o ad A S   ) gM_wrong okM_wrong ⟨rfl, rfl, Nat.le_of_ble_eq_true rfl, Nat.le_of_ble_eq_true rfl⟩ hl.1 rfl (Nat.le_of_ble_eq_true rfl) dX13_number_141 ⟨Nat.zero_le _, Nat.zero_le _⟩) hS (fun r9 S8 H locs hq10 V hS => ?_)
    obtain ⟨hq10, ghq10⟩ := hq10
    have hG := gC_e hG ghq10
    exact mRetI C hr hlk V hS (⟨by clear hG V hS hl C hts hown hx hb hml hr hlk; grind [gI_sI, gI_sJ, gI_sA, gI_sL, gJ_sI, gJ_sJ, gJ_sA, gJ_sL, gA_sI, gA_sJ, gA_sA, gA_sL, gL_sI, gL_sJ, gL_sA, gL_sL], hG.symm⟩) dX13_number_144
set_option maxHeartbeats 400000 in
set_option maxRecDepth 100000 in
theorem j_number_39 {p : Program} {e : Env} {s : State} {m : MethodId} {below : List Frame} {meth : Method} {c : Code} (l : Launch) (D : va_G) (cs : ClassId × ClassId × ClassId) (o : Nat) (ad : Nat → Nat) (A : Nat → Prop) (S : mS) (lo : Int32) (hi : Int32)  (h1 : 0 ≤ gI S 8 ∧ gI S 8 ≤ gI S 9 ∧ gI S 9 ≤ gI S 7 ∧ gI S 7 ≤ 1600 ∧ (gI S 8 < gI S 7 → gI S 8 < gI S 9)) (C : mC p s m ([.ref o, .int lo, .int hi] : List Value).toArray c cX13_number D cs) (hml : c.maxLocals = 6) (hr : meth.sig.returnType = (some .int)) (hlk : meth.locks = false) (j39_3 : Int32) (j39_4 : Int32)  (H : Heap) (locs : List Loc) (ls : Array Slot) (hj39 : 0 ≤ j39_3 ∧ gI S 10 < 0) (hG : G_number S lo hi = G_number_J39 S lo hi j39_3 j39_4) (V : mV D cs o ad A S H) (hS : va_S A s.heap H locs) (hl : lv_has ls 6 [(0, .ref o), (1, .int lo), (2, .int hi), (3, .int j39_3), (4, .int j39_4)]) : W p l e ({ frames := 2, cells := 0, slots := 0, locals := 41 } : Room) s m ([.ref o, .int lo, .int hi] : List Value).toArray below meth c H locs 0 0 (MQ below (va_Qi (fun r9 S9 => (((lo ≤ r9 ∧ r9 ≤ hi) ∨ r9 = 0) ∧ 0 ≤ gI S9 8 ∧ gI S9 8 ≤ gI S9 9 ∧ gI S9 9 ≤ gI S9 7 ∧ gI S9 7 ≤ 1600 ∧ (gI S9 8 < gI S9 7 → gI S9 8 < gI S9 9) ∧ gI S 8 ≤ gI S9 8 ∧ (0 ≤ gI S 10 → 0 ≤ gI S9 10) ∧ (∀ k, k ≠ 8 → k ≠ 9 → k ≠ 10 → gI S9 k = gI S k) ∧ (∀ k, gJ S9 k = gJ S k) ∧ (∀ k i, gA S9 k i = gA S k i) ∧ (∀ k i, gL S9 k i = gL S k i)) ∧ (r9, S9) = G_number S lo hi) (mB D cs o ad A) A) ([.ref o, .int lo, .int hi] : List Value).toArray s 0 0 A) (F0 m 39 ls []) := by
  have hx := C.1
  have hb := C.2.1
  have hown := C.2.2.1
  have hts := C.2.2.2.1
  rw [G_number_J39] at hG
  refine lv_aload_n hx hb dX13_number_39 rfl (lv_at hl 0 rfl) ?_
  refine mG9 C V dX13_number_40 ?_
  refine lv_iload_n hx hb dX13_number_43 rfl (lv_at hl 3 rfl) ?_
  refine lv_isub hx hb dX13_number_44 ?_
  refine lv_iconst (v := 1) hx hb dX13_number_45 (by decide) ?_
  refine lv_icmp_lt (tgt := 60) hx hb dX13_number_46 (by decide) (fun c11 => ?_) (fun c11 => ?_)
  · have hG := gIf_p hG c11
    refine lv_aload_n hx hb dX13_number_60 rfl (lv_at hl 0 rfl) ?_
    refine mGoI (mRunV (As := []) (rest := []) C hml V (c_wrong l D cs o ad A S   ) gM_wrong okM_wrong ⟨rfl, rfl, Nat.le_of_ble_eq_true rfl, Nat.le_of_ble_eq_true rfl⟩ hl.1 rfl (Nat.le_of_ble_eq_true rfl) dX13_number_61 ⟨Nat.zero_le _, Nat.zero_le _⟩) hS (fun r13 S12 H locs hq14 V hS => ?_)
    obtain ⟨hq14, ghq14⟩ := hq14
    have hG := gC_e hG ghq14
    exact mRetI C hr hlk V hS (⟨by clear hG V hS hl C hts hown hx hb hml hr hlk; grind [gI_sI, gI_sJ, gI_sA, gI_sL, gJ_sI, gJ_sJ, gJ_sA, gJ_sL, gA_sI, gA_sJ, gA_sA, gA_sL, gL_sI, gL_sJ, gL_sA, gL_sL], hG.symm⟩) dX13_number_64
  · have hG := gIf_n hG c11
    refine lv_aload_n hx hb dX13_number_49 rfl (lv_at hl 0 rfl) ?_
    refine mG9 C V dX13_number_50 ?_
    refine lv_iload_n hx hb dX13_number_53 rfl (lv_at hl 3 rfl) ?_
    refine lv_isub hx hb dX13_number_54 ?_
    refine lv_bipush (v := 9) hx hb dX13_number_55 (by decide) ?_
    refine lv_icmp_le (tgt := 65) hx hb dX13_number_57 (by decide) (fun c15 => ?_) (fun c15 => ?_)
    · have hG := gIf_p hG c15
      refine lv_iconst (v := 0) hx hb dX13_number_65 (by decide) ?_
      refine lv_topi (fun x16 ex16 => ?_)
      have hG := gLt_e hG ex16
      refine lv_istore (lv' := [(5, .int x16), (0, .ref o), (1, .int lo), (2, .int hi), (3, .int j39_3), (4, .int j39_4)]) hx hb dX13_number_66 hl (by decide) rfl (fun ls hl => ?_)
      have loop68 : ∀ (N68 : Nat) (v68_3 : Int32) (v68_5 : Int32)  (H : Heap) (locs : List Loc) (ls : Array Slot), (0 ≤ v68_3 ∧ v68_3 ≤ gI S 9 ∧ gI S 10 < 0) → ((gI S 9 - v68_3).toInt.toNat) < N68 → (G_number S lo hi = G_number_L68 S lo hi j39_4 N68 v68_3 v68_5) → mV D cs o ad A S H → va_S A s.heap H locs → lv_has ls 6 [(0, .ref o), (1, .int lo), (2, .int hi), (3, .int v68_3), (4, .int j39_4), (5, .int v68_5)] → W p l e ({ frames := 2, cells := 0, slots := 0, locals := 41 } : Room) s m ([.ref o, .int lo, .int hi] : List Value).toArray below meth c H locs 0 0 (MQ below (va_Qi (fun r9 S9 => (((lo ≤ r9 ∧ r9 ≤ hi) ∨ r9 = 0) ∧ 0 ≤ gI S9 8 ∧ gI S9 8 ≤ gI S9 9 ∧ gI S9 9 ≤ gI S9 7 ∧ gI S9 7 ≤ 1600 ∧ (gI S9 8 < gI S9 7 → gI S9 8 < gI S9 9) ∧ gI S 8 ≤ gI S9 8 ∧ (0 ≤ gI S 10 → 0 ≤ gI S9 10) ∧ (∀ k, k ≠ 8 → k ≠ 9 → k ≠ 10 → gI S9 k = gI S k) ∧ (∀ k, gJ S9 k = gJ S k) ∧ (∀ k i, gA S9 k i = gA S k i) ∧ (∀ k i, gL S9 k i = gL S k i)) ∧ (r9, S9) = G_number S lo hi) (mB D cs o ad A) A) ([.ref o, .int lo, .int hi] : List Value).toArray s 0 0 A) (F0 m 68 ls []) := by
        intro N68
        induction N68 with
        | zero => intro v68_3 v68_5  H locs ls hi68 hm68; exact absurd hm68 (Nat.not_lt_zero _)
        | succ N68 ih68 =>
          intro v68_3 v68_5  H locs ls hi68 hm68 hG V hS hl
          rw [G_number_L68] at hG
          refine lv_iload_n hx hb dX13_number_68 rfl (lv_at hl 3 rfl) ?_
          refine lv_aload_n hx hb dX13_number_69 rfl (lv_at hl 0 rfl) ?_
          refine mG9 C V dX13_number_70 ?_
          refine lv_icmp_ge (tgt := 120) hx hb dX13_number_73 (by decide) (fun c17 => ?_) (fun c17 => ?_)
          · have hG := gIf_p hG c17
            refine lv_iload hx hb dX13_number_120 (lv_at hl 4 rfl) ?_
            refine lv_if_eq (tgt := 130) hx hb dX13_number_122 (by decide) (fun c18 => ?_) (fun c18 => ?_)
            · have hG := gIf_p hG c18
              exact j_number_130 l D cs o ad A S lo hi h1 C hml hr hlk v68_5  _ _ _ (by clear hG V hS hl C hts hown hx hb hml hr hlk ih68 hm68; subst_vars; grind) hG V hS (lv_sub hl [0, 1, 2, 5] rfl)
            · have hG := gIf_n hG c18
              refine lv_iload hx hb dX13_number_125 (lv_at hl 5 rfl) ?_
              refine lv_ineg hx hb dX13_number_127 ?_
              refine lv_topi (fun x19 ex19 => ?_)
              have hG := gLt_e hG ex19
              refine lv_istore (lv' := [(5, .int x19), (0, .ref o), (1, .int lo), (2, .int hi), (3, .int v68_3), (4, .int j39_4)]) hx hb dX13_number_128 hl (by decide) rfl (fun ls hl => ?_)
              exact j_number_130 l D cs o ad A S lo hi h1 C hml hr hlk x19  _ _ _ (by clear hG V hS hl C hts hown hx hb hml hr hlk ih68 hm68; subst_vars; grind) hG V hS (lv_sub hl [1, 2, 3, 0] rfl)
          · have hG := gIf_n hG c17
            refine lv_aload_n hx hb dX13_number_76 rfl (lv_at hl 0 rfl) ?_
            refine mG1 C V dX13_number_77 ?_
            refine lv_iload_n hx hb dX13_number_80 rfl (lv_at hl 3 rfl) ?_
            refine mLd1 C V (vin (N := 1600) rfl (by clear hG V hS hl C hts hown hx hb hml hr hlk ih68 hm68; grind) (by clear hG V hS hl C hts hown hx hb hml hr hlk ih68 hm68; grind)) dX13_number_81 ?_
            refine lv_bipush (v := 48) hx hb dX13_number_82 (by decide) ?_
            refine lv_bipush (v := 57) hx hb dX13_number_84 (by decide) ?_
            refine mGoQ (mRunS (As := [.int (gA S 1 v68_3), .int 48, .int 57]) (rest := []) C hml V (c_in l D cs o ad A S (gA S 1 v68_3) 48 57  ) gM_in okM_in ⟨rfl, rfl, Nat.le_of_ble_eq_true rfl, Nat.le_of_ble_eq_true rfl⟩ hl.1 rfl (Nat.le_of_ble_eq_true rfl) dX13_number_86 ⟨Nat.zero_le _, Nat.zero_le _⟩) hS (fun r21 H locs hq22 V hS => ?_)
            obtain ⟨hq22, ghq22⟩ := hq22
            have hG := gLt_e hG ghq22
            refine lv_if_ne (tgt := 97) hx hb dX13_number_89 (by decide) (fun c23 => ?_) (fun c23 => ?_)
            · have hG := gIf_n hG c23
              refine lv_bipush (v := 10) hx hb dX13_number_97 (by decide) ?_
              refine lv_iload hx hb dX13_number_99 (lv_at hl 5 rfl) ?_
              refine lv_imul hx hb dX13_number_101 ?_
              refine lv_aload_n hx hb dX13_number_102 rfl (lv_at hl 0 rfl) ?_
              refine mG1 C V dX13_number_103 ?_
              refine lv_iload_n hx hb dX13_number_106 rfl (lv_at hl 3 rfl) ?_
              refine mLd1 C V (vin (N := 1600) rfl (by clear hG V hS hl C hts hown hx hb hml hr hlk ih68 hm68; grind) (by clear hG V hS hl C hts hown hx hb hml hr hlk ih68 hm68; grind)) dX13_number_107 ?_
              refine lv_iadd hx hb dX13_number_108 ?_
              refine lv_bipush (v := 48) hx hb dX13_number_109 (by decide) ?_
              refine lv_isub hx hb dX13_number_111 ?_
              refine lv_topi (fun x24 ex24 => ?_)
              have hG := gLt_e hG ex24
              refine lv_istore (lv' := [(5, .int x24), (0, .ref o), (1, .int lo), (2, .int hi), (3, .int v68_3), (4, .int j39_4)]) hx hb dX13_number_112 hl (by decide) rfl (fun ls hl => ?_)
              obtain ⟨x25, ex25⟩ : ∃ y : Int32, y = v68_3 + (1) := ⟨_, rfl⟩
              have hG := gLt_e hG ex25
              refine lv_iinc (v := x25) (lv' := [(3, .int x25), (5, .int x24), (0, .ref o), (1, .int lo), (2, .int hi), (4, .int j39_4)]) hx hb dX13_number_114 hl (k := 4) rfl (by rw [ex25]; rfl) (by decide) rfl (fun ls hl => ?_)
              refine lv_goto (tgt := 68) hx hb dX13_number_117 (by decide) ?_
              exact ih68 x25 x24  _ _ _ (by clear hG V hS hl C hts hown hx hb hml hr hlk ih68 hm68 c11 c15 ex16 hq22 c23 ex24 h1 hj39; subst_vars; grind) (msd hm68 (by clear hG V hS hl C hts hown hx hb hml hr hlk ih68 hm68 c11 c15 ex16 hq22 c23 ex24 hj39; subst_vars; grind) (by clear hG V hS hl C hts hown hx hb hml hr hlk ih68 hm68 c11 c15 ex16 hq22 c23 ex24 hj39; subst_vars; grind)) hG V hS (lv_sub hl [2, 3, 4, 0, 5, 1] rfl)
            · have hG := gIf_p hG c23
              refine lv_aload_n hx hb dX13_number_92 rfl (lv_at hl 0 rfl) ?_
              refine mGoI (mRunV (As := []) (rest := []) C hml V (c_wrong l D cs o ad A S   ) gM_wrong okM_wrong ⟨rfl, rfl, Nat.le_of_ble_eq_true rfl, Nat.le_of_ble_eq_true rfl⟩ hl.1 rfl (Nat.le_of_ble_eq_true rfl) dX13_number_93 ⟨Nat.zero_le _, Nat.zero_le _⟩) hS (fun r27 S26 H locs hq28 V hS => ?_)
              obtain ⟨hq28, ghq28⟩ := hq28
              have hG := gC_e hG ghq28
              exact mRetI C hr hlk V hS (⟨by clear hG V hS hl C hts hown hx hb hml hr hlk ih68 hm68; grind [gI_sI, gI_sJ, gI_sA, gI_sL, gJ_sI, gJ_sJ, gJ_sA, gJ_sL, gA_sI, gA_sJ, gA_sA, gA_sL, gL_sI, gL_sJ, gL_sA, gL_sL], hG.symm⟩) dX13_number_96
      exact loop68 ((gI S 9 - j39_3).toInt.toNat + 1) j39_3 x16  _ _ _ (by clear hG V hS hl C hts hown hx hb hml hr hlk; subst_vars; grind) (Nat.lt_succ_self _) hG V hS (lv_sub hl [1, 2, 3, 4, 5, 0] rfl)
    · have hG := gIf_n hG c15
      refine lv_aload_n hx hb dX13_number_60 rfl (lv_at hl 0 rfl) ?_
      refine mGoI (mRunV (As := []) (rest := []) C hml V (c_wrong l D cs o ad A S   ) gM_wrong okM_wrong ⟨rfl, rfl, Nat.le_of_ble_eq_true rfl, Nat.le_of_ble_eq_true rfl⟩ hl.1 rfl (Nat.le_of_ble_eq_true rfl) dX13_number_61 ⟨Nat.zero_le _, Nat.zero_le _⟩) hS (fun r30 S29 H locs hq31 V hS => ?_)
      obtain ⟨hq31, ghq31⟩ := hq31
      have hG := gC_e hG ghq31
      exact mRetI C hr hlk V hS (⟨by clear hG V hS hl C hts hown hx hb hml hr hlk; grind [gI_sI, gI_sJ, gI_sA, gI_sL, gJ_sI, gJ_sJ, gJ_sA, gJ_sL, gA_sI, gA_sJ, gA_sA, gA_sL, gL_sI, gL_sJ, gL_sA, gL_sL], hG.symm⟩) dX13_number_64
set_option maxHeartbeats 400000 in
set_option maxRecDepth 100000 in
theorem j_number_29 {p : Program} {e : Env} {s : State} {m : MethodId} {below : List Frame} {meth : Method} {c : Code} (l : Launch) (D : va_G) (cs : ClassId × ClassId × ClassId) (o : Nat) (ad : Nat → Nat) (A : Nat → Prop) (S : mS) (lo : Int32) (hi : Int32)  (h1 : 0 ≤ gI S 8 ∧ gI S 8 ≤ gI S 9 ∧ gI S 9 ≤ gI S 7 ∧ gI S 7 ≤ 1600 ∧ (gI S 8 < gI S 7 → gI S 8 < gI S 9)) (C : mC p s m ([.ref o, .int lo, .int hi] : List Value).toArray c cX13_number D cs) (hml : c.maxLocals = 6) (hr : meth.sig.returnType = (some .int)) (hlk : meth.locks = false) (j29_3 : Int32) (j29_s0 : Int32)  (H : Heap) (locs : List Loc) (ls : Array Slot) (hj29 : 0 ≤ j29_3 ∧ j29_3 ≤ 1600 ∧ gI S 10 < 0) (hG : G_number S lo hi = G_number_J29 S lo hi j29_3 j29_s0) (V : mV D cs o ad A S H) (hS : va_S A s.heap H locs) (hl : lv_has ls 6 [(0, .ref o), (1, .int lo), (2, .int hi), (3, .int j29_3)]) : W p l e ({ frames := 2, cells := 0, slots := 0, locals := 41 } : Room) s m ([.ref o, .int lo, .int hi] : List Value).toArray below meth c H locs 0 0 (MQ below (va_Qi (fun r9 S9 => (((lo ≤ r9 ∧ r9 ≤ hi) ∨ r9 = 0) ∧ 0 ≤ gI S9 8 ∧ gI S9 8 ≤ gI S9 9 ∧ gI S9 9 ≤ gI S9 7 ∧ gI S9 7 ≤ 1600 ∧ (gI S9 8 < gI S9 7 → gI S9 8 < gI S9 9) ∧ gI S 8 ≤ gI S9 8 ∧ (0 ≤ gI S 10 → 0 ≤ gI S9 10) ∧ (∀ k, k ≠ 8 → k ≠ 9 → k ≠ 10 → gI S9 k = gI S k) ∧ (∀ k, gJ S9 k = gJ S k) ∧ (∀ k i, gA S9 k i = gA S k i) ∧ (∀ k i, gL S9 k i = gL S k i)) ∧ (r9, S9) = G_number S lo hi) (mB D cs o ad A) A) ([.ref o, .int lo, .int hi] : List Value).toArray s 0 0 A) (F0 m 29 ls [.int j29_s0]) := by
  have hx := C.1
  have hb := C.2.1
  have hown := C.2.2.1
  have hts := C.2.2.2.1
  rw [G_number_J29] at hG
  refine lv_istore (lv' := [(4, .int j29_s0), (0, .ref o), (1, .int lo), (2, .int hi), (3, .int j29_3)]) hx hb dX13_number_29 hl (by decide) rfl (fun ls hl => ?_)
  refine lv_iload hx hb dX13_number_31 (lv_at hl 0 rfl) ?_
  refine lv_if_eq (tgt := 39) hx hb dX13_number_33 (by decide) (fun c32 => ?_) (fun c32 => ?_)
  · have hG := gIf_p hG c32
    exact j_number_39 l D cs o ad A S lo hi h1 C hml hr hlk j29_3 j29_s0  _ _ _ (by clear hG V hS hl C hts hown hx hb hml hr hlk; subst_vars; grind) hG V hS (lv_sub hl [1, 2, 3, 4, 0] rfl)
  · have hG := gIf_n hG c32
    obtain ⟨x33, ex33⟩ : ∃ y : Int32, y = j29_3 + (1) := ⟨_, rfl⟩
    have hG := gLt_e hG ex33
    refine lv_iinc (v := x33) (lv' := [(3, .int x33), (4, .int j29_s0), (0, .ref o), (1, .int lo), (2, .int hi)]) hx hb dX13_number_36 hl (k := 4) rfl (by rw [ex33]; rfl) (by decide) rfl (fun ls hl => ?_)
    exact j_number_39 l D cs o ad A S lo hi h1 C hml hr hlk x33 j29_s0  _ _ _ (by clear hG V hS hl C hts hown hx hb hml hr hlk; subst_vars; grind) hG V hS (lv_sub hl [2, 3, 4, 0, 1] rfl)
set_option maxHeartbeats 400000 in
set_option maxRecDepth 100000 in
theorem c_number (l : Launch) (D : va_G) (cs : ClassId × ClassId × ClassId) (o : Nat) (ad : Nat → Nat) (A : Nat → Prop) (S : mS) (lo : Int32) (hi : Int32)  (h1 : 0 ≤ gI S 8 ∧ gI S 8 ≤ gI S 9 ∧ gI S 9 ≤ gI S 7 ∧ gI S 7 ≤ 1600 ∧ (gI S 8 < gI S 7 → gI S 8 < gI S 9)) : Met l yX13_number (Cond.code yX13_number cX13_number 6 (some .int) :: tM) ({ frames := 2, cells := 0, slots := 0, locals := 41 }) (va_Pc [.ref o, .int lo, .int hi] (mB D cs o ad A S)) (va_Qi (fun r9 S9 => (((lo ≤ r9 ∧ r9 ≤ hi) ∨ r9 = 0) ∧ 0 ≤ gI S9 8 ∧ gI S9 8 ≤ gI S9 9 ∧ gI S9 9 ≤ gI S9 7 ∧ gI S9 7 ≤ 1600 ∧ (gI S9 8 < gI S9 7 → gI S9 8 < gI S9 9) ∧ gI S 8 ≤ gI S9 8 ∧ (0 ≤ gI S 10 → 0 ≤ gI S9 10) ∧ (∀ k, k ≠ 8 → k ≠ 9 → k ≠ 10 → gI S9 k = gI S k) ∧ (∀ k, gJ S9 k = gJ S k) ∧ (∀ k i, gA S9 k i = gA S k i) ∧ (∀ k i, gL S9 k i = gL S k i)) ∧ (r9, S9) = G_number S lo hi) (mB D cs o ad A) A) 0 0 A := by
  refine mMet (by decide) rfl (Nat.le_of_ble_eq_true rfl) ?_
  intro p e s m below meth c ls C hml hr hlk V hl
  have hx := C.1
  have hb := C.2.1
  have hown := C.2.2.1
  have hts := C.2.2.2.1
  have hS : va_S A s.heap s.heap [] := va_S.rf
  have hl : lv_has ls 6 [(0, .ref o), (1, .int lo), (2, .int hi)] := hl
  have hG := G_number.eq_1 S lo hi
  refine lv_aload_n hx hb dX13_number_0 rfl (lv_at hl 0 rfl) ?_
  refine mG10 C V dX13_number_1 ?_
  refine lv_if_lt (tgt := 9) hx hb dX13_number_4 (by decide) (fun c34 => ?_) (fun c34 => ?_)
  · have hG := gIf_p hG c34
    refine lv_aload_n hx hb dX13_number_9 rfl (lv_at hl 0 rfl) ?_
    refine mG8 C V dX13_number_10 ?_
    refine lv_topi (fun x35 ex35 => ?_)
    have hG := gLt_e hG ex35
    refine lv_istore_n (lv' := [(3, .int x35), (0, .ref o), (1, .int lo), (2, .int hi)]) hx hb dX13_number_13 rfl hl (by decide) rfl (fun ls hl => ?_)
    refine lv_aload_n hx hb dX13_number_14 rfl (lv_at hl 1 rfl) ?_
    refine lv_iload_n hx hb dX13_number_15 rfl (lv_at hl 0 rfl) ?_
    refine mGoQ (mRunV (As := [.int x35]) (rest := []) C hml V (c_byteAt l D cs o ad A S x35  (by clear hG V hS hl C hts hown hx hb hml hr hlk; grind)) gM_byteAt okM_byteAt ⟨rfl, rfl, Nat.le_of_ble_eq_true rfl, Nat.le_of_ble_eq_true rfl⟩ hl.1 rfl (Nat.le_of_ble_eq_true rfl) dX13_number_16 ⟨Nat.zero_le _, Nat.zero_le _⟩) hS (fun r37 H locs hq38 V hS => ?_)
    obtain ⟨hq38, ghq38⟩ := hq38
    have hG := gLt_e hG ghq38
    refine lv_bipush (v := 45) hx hb dX13_number_19 (by decide) ?_
    refine lv_icmp_ne (tgt := 28) hx hb dX13_number_21 (by decide) (fun c39 => ?_) (fun c39 => ?_)
    · have hG := gIf_n hG c39
      refine lv_iconst (v := 0) hx hb dX13_number_28 (by decide) ?_
      exact j_number_29 l D cs o ad A S lo hi h1 C hml hr hlk x35 0  _ _ _ (by clear hG V hS hl C hts hown hx hb hml hr hlk; subst_vars; grind) hG V hS (lv_sub hl [1, 2, 3, 0] rfl)
    · have hG := gIf_p hG c39
      refine lv_iconst (v := 1) hx hb dX13_number_24 (by decide) ?_
      refine lv_goto (tgt := 29) hx hb dX13_number_25 (by decide) ?_
      exact j_number_29 l D cs o ad A S lo hi h1 C hml hr hlk x35 1  _ _ _ (by clear hG V hS hl C hts hown hx hb hml hr hlk; subst_vars; grind) hG V hS (lv_sub hl [1, 2, 3, 0] rfl)
  · have hG := gIf_n hG c34
    refine lv_iconst (v := 0) hx hb dX13_number_7 (by decide) ?_
    exact mRetI C hr hlk V hS (⟨by clear hG V hS hl C hts hown hx hb hml hr hlk; grind [gI_sI, gI_sJ, gI_sA, gI_sL, gJ_sI, gJ_sJ, gJ_sA, gJ_sL, gA_sI, gA_sJ, gA_sA, gA_sL, gL_sI, gL_sJ, gL_sA, gL_sL], hG.symm⟩) dX13_number_8

def G_atQueue_J126 (t : Int32) (q : Int32) (SJ126 : mS) : Int32 × mS := if (q : Int32) = 25 then (gLt (sA SJ126 14 t (1) : mS) (fun S3 => ((1 : Int32), S3))) else (((1 : Int32), SJ126))
def G_atQueue_J45 (S : mS) (t : Int32) (q : Int32) (b : Int32) (j45_s0 : Int32) : Int32 × mS := if (j45_s0 : Int32) = 0 then (if (gA S 29 b) ≤ ((gA S 37 b) : Int32) then (if (q : Int32) = 25 then (gLt (sA S 14 t (0) : mS) (fun S12 => ((1 : Int32), S12))) else (gC (G_passes S t b) (fun r10 S9 => ((r10 : Int32), S9)))) else (gLt (G_append S b (gA S 14 t) : mS) (fun S14 => G_atQueue_J126 t q  S14))) else (gC (G_firstGoesOn S b) (fun r19 S18 => gLt (sA S18 14 r19 ((gA S18 14 t)) : mS) (fun S22 => G_atQueue_J126 t q  S22)))
def G_atQueue_J44 (S : mS) (t : Int32) (q : Int32) (b : Int32) : Int32 × mS := G_atQueue_J45 S t q b 0 
def G_atQueue_J12 (S : mS) (t : Int32) (q : Int32) (b : Int32) : Int32 × mS := if ((gA S 33 b) : Int32) ≤ 0 then (G_atQueue_J44 S t q b  ) else (gLt (G_part S (gA S 32 (8 * b)) 0 : Int32) (fun r28 => if (r28 : Int32) = 23 then (G_atQueue_J44 S t q b  ) else (G_atQueue_J45 S t q b 1 )))
def G_atQueue_L200 (b : Int32) : Nat → Int32 → mS → Int32 × mS
  | 0, v200_4, SL200 => ((0 : Int32), SL200)
  | N200 + 1, v200_4, SL200 => if (gA SL200 37 b) ≤ (v200_4 : Int32) then (if ((gA SL200 33 b) : Int32) ≤ 0 then (((1 : Int32), SL200)) else (gC (G_firstGoesOn SL200 b) (fun r43 S42 => gLt (G_append S42 b (gA S42 14 r43) : mS) (fun S46 => ((1 : Int32), S46))))) else (gLt (sA SL200 36 ((100 * b) + v200_4) ((gA SL200 36 (((100 * b) + v200_4) + 1))) : mS) (fun S50 => gLt (v200_4 + (1) : Int32) (fun x52 => G_atQueue_L200 b N200 x52 S50)))
def G_atQueue (S : mS) (t : Int32) (q : Int32) (b : Int32) : Int32 × mS := if (q : Int32) = 23 then (G_atQueue_J12 S t q b  ) else (if (q : Int32) = 25 then (G_atQueue_J12 S t q b  ) else (if ((gA S 37 b) : Int32) = 0 then (if (q : Int32) = 24 then (gC (G_passes S t b) (fun r57 S56 => ((r57 : Int32), S56))) else (gLt (sA S 14 t ((-1)) : mS) (fun S54 => ((1 : Int32), S54)))) else (gLt (sA S 14 t ((gA S 36 (100 * b))) : mS) (fun S34 => gLt (sA S34 37 b (((gA S34 37 b) - 1)) : mS) (fun S36 => gLt (0 : Int32) (fun x38 => G_atQueue_L200 b ((gA S36 37 b - x38).toInt.toNat + 1) x38 S36))))))
set_option maxHeartbeats 400000 in
set_option maxRecDepth 100000 in
theorem j_atQueue_126 {p : Program} {e : Env} {s : State} {m : MethodId} {below : List Frame} {meth : Method} {c : Code} (l : Launch) (D : va_G) (cs : ClassId × ClassId × ClassId) (o : Nat) (ad : Nat → Nat) (A : Nat → Prop) (S : mS) (t : Int32) (q : Int32) (b : Int32)  (h1 : fre S t) (h2 : 0 ≤ b ∧ b < 24) (h3 : mInv S) (h4 : gA S 28 b = 5) (C : mC p s m ([.ref o, .int t, .int q, .int b] : List Value).toArray c cX13_atQueue D cs) (hml : c.maxLocals = 6) (hr : meth.sig.returnType = (some .boolean)) (hlk : meth.locks = false)  (SJ126 : mS) (H : Heap) (locs : List Loc) (ls : Array Slot) (hj126 : stp S SJ126) (hG : G_atQueue S t q b = G_atQueue_J126 t q  SJ126) (V : mV D cs o ad A SJ126 H) (hS : va_S A s.heap H locs) (hl : lv_has ls 6 [(0, .ref o), (1, .int t), (2, .int q), (3, .int b)]) : W p l e ({ frames := 2, cells := 0, slots := 0, locals := 46 } : Room) s m ([.ref o, .int t, .int q, .int b] : List Value).toArray below meth c H locs 0 0 (MQ below (va_Qi (fun r9 S9 => (pas S S9 t r9) ∧ (r9, S9) = G_atQueue S t q b) (mB D cs o ad A) A) ([.ref o, .int t, .int q, .int b] : List Value).toArray s 0 0 A) (F0 m 126 ls []) := by
  have hx := C.1
  have hb := C.2.1
  have hown := C.2.2.1
  have hts := C.2.2.2.1
  rw [G_atQueue_J126] at hG
  have w1 := hj126
  refine lv_iload_n hx hb dX13_atQueue_126 rfl (lv_at hl 2 rfl) ?_
  refine lv_bipush (v := 25) hx hb dX13_atQueue_127 (by decide) ?_
  refine lv_icmp_ne (tgt := 139) hx hb dX13_atQueue_129 (by decide) (fun c2 => ?_) (fun c2 => ?_)
  · replace hG := gIf_n hG c2
    refine lv_iconst (v := 1) hx hb dX13_atQueue_139 (by decide) ?_
    exact mRetZ C hr hlk V hS (by clear hG V hS hl C hts hown hx hb hml hr hlk; first | rfl | exact pz nope9 | exact pz nope9) (⟨pas_1 h1 w1, hG.symm⟩) dX13_atQueue_140
  · replace hG := gIf_p hG c2
    refine lv_aload_n hx hb dX13_atQueue_132 rfl (lv_at hl 0 rfl) ?_
    refine mG14 C V dX13_atQueue_133 ?_
    refine lv_iload_n hx hb dX13_atQueue_136 rfl (lv_at hl 1 rfl) ?_
    refine lv_iconst (v := 1) hx hb dX13_atQueue_137 (by decide) ?_
    refine mSt14 C V hS (vin (N := 8) rfl (h1.1.1) (h1.1.2)) dX13_atQueue_138 (fun S3 H locs eS3 V hS => ?_)
    replace hG := gLt_e hG eS3
    have w4 := st_irr w1 eS3 (by simp [smK])
    refine lv_iconst (v := 1) hx hb dX13_atQueue_139 (by decide) ?_
    exact mRetZ C hr hlk V hS (by clear hG V hS hl C hts hown hx hb hml hr hlk; first | rfl | exact pz nope9 | exact pz nope9) (⟨pas_1 h1 w4, hG.symm⟩) dX13_atQueue_140
set_option maxHeartbeats 400000 in
set_option maxRecDepth 100000 in
theorem j_atQueue_45 {p : Program} {e : Env} {s : State} {m : MethodId} {below : List Frame} {meth : Method} {c : Code} (l : Launch) (D : va_G) (cs : ClassId × ClassId × ClassId) (o : Nat) (ad : Nat → Nat) (A : Nat → Prop) (S : mS) (t : Int32) (q : Int32) (b : Int32)  (h1 : fre S t) (h2 : 0 ≤ b ∧ b < 24) (h3 : mInv S) (h4 : gA S 28 b = 5) (C : mC p s m ([.ref o, .int t, .int q, .int b] : List Value).toArray c cX13_atQueue D cs) (hml : c.maxLocals = 6) (hr : meth.sig.returnType = (some .boolean)) (hlk : meth.locks = false) (j45_s0 : Int32)  (H : Heap) (locs : List Loc) (ls : Array Slot) (hj45 : j45_s0 ≠ 0 → 0 < gA S 33 b) (hG : G_atQueue S t q b = G_atQueue_J45 S t q b j45_s0) (V : mV D cs o ad A S H) (hS : va_S A s.heap H locs) (hl : lv_has ls 6 [(0, .ref o), (1, .int t), (2, .int q), (3, .int b)]) : W p l e ({ frames := 2, cells := 0, slots := 0, locals := 46 } : Room) s m ([.ref o, .int t, .int q, .int b] : List Value).toArray below meth c H locs 0 0 (MQ below (va_Qi (fun r9 S9 => (pas S S9 t r9) ∧ (r9, S9) = G_atQueue S t q b) (mB D cs o ad A) A) ([.ref o, .int t, .int q, .int b] : List Value).toArray s 0 0 A) (F0 m 45 ls [.int j45_s0]) := by
  have hx := C.1
  have hb := C.2.1
  have hown := C.2.2.1
  have hts := C.2.2.2.1
  rw [G_atQueue_J45] at hG
  have w5 := stp_rf h3
  refine lv_istore (lv' := [(4, .int j45_s0), (0, .ref o), (1, .int t), (2, .int q), (3, .int b)]) hx hb dX13_atQueue_45 hl (by decide) rfl (fun ls hl => ?_)
  refine lv_iload hx hb dX13_atQueue_47 (lv_at hl 0 rfl) ?_
  have hz9 := hj45
  refine lv_if_eq (tgt := 75) hx hb dX13_atQueue_49 (by decide) (fun c6 => ?_) (fun c6 => ?_)
  · replace hG := gIf_p hG c6
    refine lv_aload_n hx hb dX13_atQueue_75 rfl (lv_at hl 1 rfl) ?_
    refine mG37 C V dX13_atQueue_76 ?_
    refine lv_iload_n hx hb dX13_atQueue_79 rfl (lv_at hl 4 rfl) ?_
    refine mLd37 C V (vin (N := 24) rfl (h2.1) (h2.2)) dX13_atQueue_80 ?_
    refine lv_aload_n hx hb dX13_atQueue_81 rfl (lv_at hl 1 rfl) ?_
    refine mG29 C V dX13_atQueue_82 ?_
    refine lv_iload_n hx hb dX13_atQueue_85 rfl (lv_at hl 4 rfl) ?_
    refine mLd29 C V (vin (N := 24) rfl (h2.1) (h2.2)) dX13_atQueue_86 ?_
    refine lv_icmp_ge (tgt := 104) hx hb dX13_atQueue_87 (by decide) (fun c7 => ?_) (fun c7 => ?_)
    · replace hG := gIf_p hG c7
      refine lv_iload_n hx hb dX13_atQueue_104 rfl (lv_at hl 3 rfl) ?_
      refine lv_bipush (v := 25) hx hb dX13_atQueue_105 (by decide) ?_
      refine lv_icmp_ne (tgt := 119) hx hb dX13_atQueue_107 (by decide) (fun c8 => ?_) (fun c8 => ?_)
      · replace hG := gIf_n hG c8
        refine lv_aload_n hx hb dX13_atQueue_119 rfl (lv_at hl 1 rfl) ?_
        refine lv_iload_n hx hb dX13_atQueue_120 rfl (lv_at hl 2 rfl) ?_
        refine lv_iload_n hx hb dX13_atQueue_121 rfl (lv_at hl 4 rfl) ?_
        refine mGoI (mRunV (As := [.int t, .int b]) (rest := []) C hml V (c_passes l D cs o ad A S t b  (fre_stp h1 w5) (h2) (w5.1)) gM_passes okM_passes ⟨rfl, rfl, Nat.le_of_ble_eq_true rfl, Nat.le_of_ble_eq_true rfl⟩ hl.1 rfl (Nat.le_of_ble_eq_true rfl) dX13_atQueue_122 ⟨Nat.zero_le _, Nat.zero_le _⟩) hS (fun r10 S9 H locs hq11 V hS => ?_)
        obtain ⟨hq11, ghq11⟩ := hq11
        replace hG := gC_e hG ghq11
        exact mRetZ C hr hlk V hS (by clear hG V hS hl C hts hown hx hb hml hr hlk; first | rfl | exact pz hq11 | exact pz nope9) (⟨pas_tr h1 (stp_rf h3) hq11, hG.symm⟩) dX13_atQueue_125
      · replace hG := gIf_p hG c8
        refine lv_aload_n hx hb dX13_atQueue_110 rfl (lv_at hl 1 rfl) ?_
        refine mG14 C V dX13_atQueue_111 ?_
        refine lv_iload_n hx hb dX13_atQueue_114 rfl (lv_at hl 2 rfl) ?_
        refine lv_iconst (v := 0) hx hb dX13_atQueue_115 (by decide) ?_
        refine mSt14 C V hS (vin (N := 8) rfl (h1.1.1) (h1.1.2)) dX13_atQueue_116 (fun S12 H locs eS12 V hS => ?_)
        replace hG := gLt_e hG eS12
        have w13 := st_irr w5 eS12 (by simp [smK])
        refine lv_iconst (v := 1) hx hb dX13_atQueue_117 (by decide) ?_
        exact mRetZ C hr hlk V hS (by clear hG V hS hl C hts hown hx hb hml hr hlk; first | rfl | exact pz nope9 | exact pz nope9) (⟨pas_1 h1 w13, hG.symm⟩) dX13_atQueue_118
    · replace hG := gIf_n hG c7
      refine lv_aload_n hx hb dX13_atQueue_90 rfl (lv_at hl 1 rfl) ?_
      refine lv_iload_n hx hb dX13_atQueue_91 rfl (lv_at hl 4 rfl) ?_
      refine lv_aload_n hx hb dX13_atQueue_92 rfl (lv_at hl 1 rfl) ?_
      refine mG14 C V dX13_atQueue_93 ?_
      refine lv_iload_n hx hb dX13_atQueue_96 rfl (lv_at hl 2 rfl) ?_
      refine mLd14 C V (vin (N := 8) rfl (h1.1.1) (h1.1.2)) dX13_atQueue_97 ?_
      refine mGoV (mRunV (As := [.int b, .int (gA S 14 t)]) (rest := []) C hml V (c_append l D cs o ad A S b (gA S 14 t)  (h2) (by clear hG V hS hl C hts hown hx hb hml hr hlk; have q9 := q_of w5 h2 h4; have c9 := i_lt c7; clear h1 h3 w5; grind)) gM_append okM_append ⟨rfl, rfl, Nat.le_of_ble_eq_true rfl, Nat.le_of_ble_eq_true rfl⟩ hl.1 rfl (Nat.le_of_ble_eq_true rfl) dX13_atQueue_98 ⟨Nat.zero_le _, Nat.zero_le _⟩) hS (fun S14 H locs hq16 V hS => ?_)
      obtain ⟨hq16, ghq16⟩ := hq16
      replace hG := gLt_e hG ghq16
      have w17 := st_app w5 h2 ⟨(q_of w5 h2 h4).1, i_lt c7, (q_of w5 h2 h4).2.2⟩ hq16
      refine lv_goto (tgt := 126) hx hb dX13_atQueue_101 (by decide) ?_
      exact j_atQueue_126 l D cs o ad A S t q b h1 h2 h3 h4 C hml hr hlk  S14 _ _ _ (w17) hG V hS (lv_sub hl [1, 2, 3, 4] rfl)
  · replace hG := gIf_n hG c6
    refine lv_aload_n hx hb dX13_atQueue_52 rfl (lv_at hl 1 rfl) ?_
    refine lv_iload_n hx hb dX13_atQueue_53 rfl (lv_at hl 4 rfl) ?_
    refine mGoI (mRunV (As := [.int b]) (rest := []) C hml V (c_firstGoesOn l D cs o ad A S b  (h2) (w5.1) (hj45 c6)) gM_firstGoesOn okM_firstGoesOn ⟨rfl, rfl, Nat.le_of_ble_eq_true rfl, Nat.le_of_ble_eq_true rfl⟩ hl.1 rfl (Nat.le_of_ble_eq_true rfl) dX13_atQueue_54 ⟨Nat.zero_le _, Nat.zero_le _⟩) hS (fun r19 S18 H locs hq20 V hS => ?_)
    obtain ⟨hq20, ghq20⟩ := hq20
    replace hG := gC_e hG ghq20
    have w21 := stp_tr w5 hq20.1
    refine lv_istore (lv' := [(5, .int r19), (4, .int j45_s0), (0, .ref o), (1, .int t), (2, .int q), (3, .int b)]) hx hb dX13_atQueue_57 hl (by decide) rfl (fun ls hl => ?_)
    refine lv_aload_n hx hb dX13_atQueue_59 rfl (lv_at hl 2 rfl) ?_
    refine mG14 C V dX13_atQueue_60 ?_
    refine lv_iload hx hb dX13_atQueue_63 (lv_at hl 0 rfl) ?_
    refine lv_aload_n hx hb dX13_atQueue_65 rfl (lv_at hl 2 rfl) ?_
    refine mG14 C V dX13_atQueue_66 ?_
    refine lv_iload_n hx hb dX13_atQueue_69 rfl (lv_at hl 3 rfl) ?_
    refine mLd14 C V (vin (N := 8) rfl (h1.1.1) (h1.1.2)) dX13_atQueue_70 ?_
    refine mSt14 C V hS (vin (N := 8) rfl (hq20.2.2.1.1) (hq20.2.2.1.2)) dX13_atQueue_71 (fun S22 H locs eS22 V hS => ?_)
    replace hG := gLt_e hG eS22
    have w23 := st_irr w21 eS22 (by simp [smK])
    refine lv_goto (tgt := 126) hx hb dX13_atQueue_72 (by decide) ?_
    exact j_atQueue_126 l D cs o ad A S t q b h1 h2 h3 h4 C hml hr hlk  S22 _ _ _ (w23) hG V hS (lv_sub hl [2, 3, 4, 5] rfl)
set_option maxHeartbeats 400000 in
set_option maxRecDepth 100000 in
theorem j_atQueue_44 {p : Program} {e : Env} {s : State} {m : MethodId} {below : List Frame} {meth : Method} {c : Code} (l : Launch) (D : va_G) (cs : ClassId × ClassId × ClassId) (o : Nat) (ad : Nat → Nat) (A : Nat → Prop) (S : mS) (t : Int32) (q : Int32) (b : Int32)  (h1 : fre S t) (h2 : 0 ≤ b ∧ b < 24) (h3 : mInv S) (h4 : gA S 28 b = 5) (C : mC p s m ([.ref o, .int t, .int q, .int b] : List Value).toArray c cX13_atQueue D cs) (hml : c.maxLocals = 6) (hr : meth.sig.returnType = (some .boolean)) (hlk : meth.locks = false)   (H : Heap) (locs : List Loc) (ls : Array Slot) (hj44 : True) (hG : G_atQueue S t q b = G_atQueue_J44 S t q b ) (V : mV D cs o ad A S H) (hS : va_S A s.heap H locs) (hl : lv_has ls 6 [(0, .ref o), (1, .int t), (2, .int q), (3, .int b)]) : W p l e ({ frames := 2, cells := 0, slots := 0, locals := 46 } : Room) s m ([.ref o, .int t, .int q, .int b] : List Value).toArray below meth c H locs 0 0 (MQ below (va_Qi (fun r9 S9 => (pas S S9 t r9) ∧ (r9, S9) = G_atQueue S t q b) (mB D cs o ad A) A) ([.ref o, .int t, .int q, .int b] : List Value).toArray s 0 0 A) (F0 m 44 ls []) := by
  have hx := C.1
  have hb := C.2.1
  have hown := C.2.2.1
  have hts := C.2.2.2.1
  rw [G_atQueue_J44] at hG
  have w24 := stp_rf h3
  refine lv_iconst (v := 0) hx hb dX13_atQueue_44 (by decide) ?_
  exact j_atQueue_45 l D cs o ad A S t q b h1 h2 h3 h4 C hml hr hlk 0  _ _ _ (by clear hG V hS hl C hts hown hx hb hml hr hlk; first | exact fun q9 => absurd rfl q9 | exact fun _ => i_gt nope9) hG V hS (lv_sub hl [0, 1, 2, 3] rfl)
set_option maxHeartbeats 400000 in
set_option maxRecDepth 100000 in
theorem j_atQueue_12 {p : Program} {e : Env} {s : State} {m : MethodId} {below : List Frame} {meth : Method} {c : Code} (l : Launch) (D : va_G) (cs : ClassId × ClassId × ClassId) (o : Nat) (ad : Nat → Nat) (A : Nat → Prop) (S : mS) (t : Int32) (q : Int32) (b : Int32)  (h1 : fre S t) (h2 : 0 ≤ b ∧ b < 24) (h3 : mInv S) (h4 : gA S 28 b = 5) (C : mC p s m ([.ref o, .int t, .int q, .int b] : List Value).toArray c cX13_atQueue D cs) (hml : c.maxLocals = 6) (hr : meth.sig.returnType = (some .boolean)) (hlk : meth.locks = false)   (H : Heap) (locs : List Loc) (ls : Array Slot) (hj12 : True) (hG : G_atQueue S t q b = G_atQueue_J12 S t q b ) (V : mV D cs o ad A S H) (hS : va_S A s.heap H locs) (hl : lv_has ls 6 [(0, .ref o), (1, .int t), (2, .int q), (3, .int b)]) : W p l e ({ frames := 2, cells := 0, slots := 0, locals := 46 } : Room) s m ([.ref o, .int t, .int q, .int b] : List Value).toArray below meth c H locs 0 0 (MQ below (va_Qi (fun r9 S9 => (pas S S9 t r9) ∧ (r9, S9) = G_atQueue S t q b) (mB D cs o ad A) A) ([.ref o, .int t, .int q, .int b] : List Value).toArray s 0 0 A) (F0 m 12 ls []) := by
  have hx := C.1
  have hb := C.2.1
  have hown := C.2.2.1
  have hts := C.2.2.2.1
  rw [G_atQueue_J12] at hG
  have w25 := stp_rf h3
  refine lv_aload_n hx hb dX13_atQueue_12 rfl (lv_at hl 0 rfl) ?_
  refine mG33 C V dX13_atQueue_13 ?_
  refine lv_iload_n hx hb dX13_atQueue_16 rfl (lv_at hl 3 rfl) ?_
  refine mLd33 C V (vin (N := 24) rfl (h2.1) (h2.2)) dX13_atQueue_17 ?_
  refine lv_if_le (tgt := 44) hx hb dX13_atQueue_18 (by decide) (fun c26 => ?_) (fun c26 => ?_)
  · replace hG := gIf_p hG c26
    exact j_atQueue_44 l D cs o ad A S t q b h1 h2 h3 h4 C hml hr hlk   _ _ _ (trivial) hG V hS (lv_sub hl [0, 1, 2, 3] rfl)
  · replace hG := gIf_n hG c26
    refine lv_aload_n hx hb dX13_atQueue_21 rfl (lv_at hl 0 rfl) ?_
    refine lv_aload_n hx hb dX13_atQueue_22 rfl (lv_at hl 0 rfl) ?_
    refine mG32 C V dX13_atQueue_23 ?_
    refine lv_bipush (v := 8) hx hb dX13_atQueue_26 (by decide) ?_
    refine lv_iload_n hx hb dX13_atQueue_28 rfl (lv_at hl 3 rfl) ?_
    refine lv_imul hx hb dX13_atQueue_29 ?_
    refine mLd32 C V (vin (N := 192) rfl ((a_8b h2).1) ((a_8b h2).2)) dX13_atQueue_30 ?_
    refine lv_iconst (v := 0) hx hb dX13_atQueue_31 (by decide) ?_
    refine mGoQ (mRunV (As := [.int (gA S 32 (8 * b)), .int 0]) (rest := []) C hml V (c_part l D cs o ad A S (gA S 32 (8 * b)) 0  ((row0 h2 w25.1 (i_gt c26)).1) ((row0 h2 w25.1 (i_gt c26)).2) (by clear hG V hS hl C hts hown hx hb hml hr hlk; decide)) gM_part okM_part ⟨rfl, rfl, Nat.le_of_ble_eq_true rfl, Nat.le_of_ble_eq_true rfl⟩ hl.1 rfl (Nat.le_of_ble_eq_true rfl) dX13_atQueue_32 ⟨Nat.zero_le _, Nat.zero_le _⟩) hS (fun r28 H locs hq29 V hS => ?_)
    obtain ⟨hq29, ghq29⟩ := hq29
    replace hG := gLt_e hG ghq29
    refine lv_bipush (v := 23) hx hb dX13_atQueue_35 (by decide) ?_
    refine lv_icmp_eq (tgt := 44) hx hb dX13_atQueue_37 (by decide) (fun c30 => ?_) (fun c30 => ?_)
    · replace hG := gIf_p hG c30
      exact j_atQueue_44 l D cs o ad A S t q b h1 h2 h3 h4 C hml hr hlk   _ _ _ (trivial) hG V hS (lv_sub hl [0, 1, 2, 3] rfl)
    · replace hG := gIf_n hG c30
      refine lv_iconst (v := 1) hx hb dX13_atQueue_40 (by decide) ?_
      refine lv_goto (tgt := 45) hx hb dX13_atQueue_41 (by decide) ?_
      exact j_atQueue_45 l D cs o ad A S t q b h1 h2 h3 h4 C hml hr hlk 1  _ _ _ (by clear hG V hS hl C hts hown hx hb hml hr hlk; first | exact fun q9 => absurd rfl q9 | exact fun _ => i_gt c26) hG V hS (lv_sub hl [0, 1, 2, 3] rfl)
set_option maxHeartbeats 400000 in
set_option maxRecDepth 100000 in
theorem c_atQueue (l : Launch) (D : va_G) (cs : ClassId × ClassId × ClassId) (o : Nat) (ad : Nat → Nat) (A : Nat → Prop) (S : mS) (t : Int32) (q : Int32) (b : Int32)  (h1 : fre S t) (h2 : 0 ≤ b ∧ b < 24) (h3 : mInv S) (h4 : gA S 28 b = 5) : Met l yX13_atQueue (Cond.code yX13_atQueue cX13_atQueue 6 (some .boolean) :: tM) ({ frames := 2, cells := 0, slots := 0, locals := 46 }) (va_Pc [.ref o, .int t, .int q, .int b] (mB D cs o ad A S)) (va_Qi (fun r9 S9 => (pas S S9 t r9) ∧ (r9, S9) = G_atQueue S t q b) (mB D cs o ad A) A) 0 0 A := by
  refine mMet (by decide) rfl (Nat.le_of_ble_eq_true rfl) ?_
  intro p e s m below meth c ls C hml hr hlk V hl
  have hx := C.1
  have hb := C.2.1
  have hown := C.2.2.1
  have hts := C.2.2.2.1
  have hS : va_S A s.heap s.heap [] := va_S.rf
  have hl : lv_has ls 6 [(0, .ref o), (1, .int t), (2, .int q), (3, .int b)] := hl
  have hG := G_atQueue.eq_1 S t q b
  have w0 : stp S S := stp_rf h3
  refine lv_iload_n hx hb dX13_atQueue_0 rfl (lv_at hl 2 rfl) ?_
  refine lv_bipush (v := 23) hx hb dX13_atQueue_1 (by decide) ?_
  refine lv_icmp_eq (tgt := 12) hx hb dX13_atQueue_3 (by decide) (fun c31 => ?_) (fun c31 => ?_)
  · replace hG := gIf_p hG c31
    exact j_atQueue_12 l D cs o ad A S t q b h1 h2 h3 h4 C hml hr hlk   _ _ _ (trivial) hG V hS (lv_sub hl [0, 1, 2, 3] rfl)
  · replace hG := gIf_n hG c31
    refine lv_iload_n hx hb dX13_atQueue_6 rfl (lv_at hl 2 rfl) ?_
    refine lv_bipush (v := 25) hx hb dX13_atQueue_7 (by decide) ?_
    refine lv_icmp_ne (tgt := 141) hx hb dX13_atQueue_9 (by decide) (fun c32 => ?_) (fun c32 => ?_)
    · replace hG := gIf_n hG c32
      refine lv_aload_n hx hb dX13_atQueue_141 rfl (lv_at hl 0 rfl) ?_
      refine mG37 C V dX13_atQueue_142 ?_
      refine lv_iload_n hx hb dX13_atQueue_145 rfl (lv_at hl 3 rfl) ?_
      refine mLd37 C V (vin (N := 24) rfl (h2.1) (h2.2)) dX13_atQueue_146 ?_
      refine lv_if_ne (tgt := 172) hx hb dX13_atQueue_147 (by decide) (fun c33 => ?_) (fun c33 => ?_)
      · replace hG := gIf_n hG c33
        refine lv_aload_n hx hb dX13_atQueue_172 rfl (lv_at hl 0 rfl) ?_
        refine mG14 C V dX13_atQueue_173 ?_
        refine lv_iload_n hx hb dX13_atQueue_176 rfl (lv_at hl 1 rfl) ?_
        refine lv_aload_n hx hb dX13_atQueue_177 rfl (lv_at hl 0 rfl) ?_
        refine mG36 C V dX13_atQueue_178 ?_
        refine lv_bipush (v := 100) hx hb dX13_atQueue_181 (by decide) ?_
        refine lv_iload_n hx hb dX13_atQueue_183 rfl (lv_at hl 3 rfl) ?_
        refine lv_imul hx hb dX13_atQueue_184 ?_
        refine mLd36 C V (vin (N := 2400) rfl ((a_q0 h2).1) ((a_q0 h2).2)) dX13_atQueue_185 ?_
        refine mSt14 C V hS (vin (N := 8) rfl (h1.1.1) (h1.1.2)) dX13_atQueue_186 (fun S34 H locs eS34 V hS => ?_)
        replace hG := gLt_e hG eS34
        have w35 := st_irr w0 eS34 (by simp [smK])
        have ql0 := q_of w35 h2 h4
        have ql8 : gA S34 37 b ≠ 0 := by rw [eS34]; simp only [gA_sA, if_neg (show ¬ (37 = 14) by decide)]; exact c33
        have ql9 : 0 ≤ gA S34 37 b - 1 ∧ gA S34 37 b - 1 ≤ gA S34 29 b := by clear hG h1 h3 w35 w0; grind
        have ql7 : gA S34 37 b - 1 < gA S34 29 b := by clear hG h1 h3 w35 w0; grind
        refine lv_aload_n hx hb dX13_atQueue_187 rfl (lv_at hl 0 rfl) ?_
        refine mG37 C V dX13_atQueue_188 ?_
        refine lv_iload_n hx hb dX13_atQueue_191 rfl (lv_at hl 3 rfl) ?_
        refine lv_dup2_11 hx hb dX13_atQueue_192 rfl rfl ?_
        refine mLd37 C V (vin (N := 24) rfl (h2.1) (h2.2)) dX13_atQueue_193 ?_
        refine lv_iconst (v := 1) hx hb dX13_atQueue_194 (by decide) ?_
        refine lv_isub hx hb dX13_atQueue_195 ?_
        refine mSt37 C V hS (vin (N := 24) rfl (h2.1) (h2.2)) dX13_atQueue_196 (fun S36 H locs eS36 V hS => ?_)
        replace hG := gLt_e hG eS36
        have w37 := st_qlen w35 h2 eS36 (fun _ => ql9)
        refine lv_iconst (v := 0) hx hb dX13_atQueue_197 (by decide) ?_
        refine lv_topi (fun x38 ex38 => ?_)
        replace hG := gLt_e hG ex38
        refine lv_istore (lv' := [(4, .int x38), (0, .ref o), (1, .int t), (2, .int q), (3, .int b)]) hx hb dX13_atQueue_198 hl (by decide) rfl (fun ls hl => ?_)
        have loop200 : ∀ (N200 : Nat) (v200_4 : Int32) (SL200 : mS) (H : Heap) (locs : List Loc) (ls : Array Slot), (stp S SL200 ∧ 0 ≤ v200_4 ∧ v200_4 ≤ gA SL200 37 b ∧ gA SL200 37 b < gA SL200 29 b ∧ gA SL200 29 b ≤ 100) → ((gA SL200 37 b - v200_4).toInt.toNat) < N200 → (G_atQueue S t q b = G_atQueue_L200 b N200 v200_4 SL200) → mV D cs o ad A SL200 H → va_S A s.heap H locs → lv_has ls 6 [(0, .ref o), (1, .int t), (2, .int q), (3, .int b), (4, .int v200_4)] → W p l e ({ frames := 2, cells := 0, slots := 0, locals := 46 } : Room) s m ([.ref o, .int t, .int q, .int b] : List Value).toArray below meth c H locs 0 0 (MQ below (va_Qi (fun r9 S9 => (pas S S9 t r9) ∧ (r9, S9) = G_atQueue S t q b) (mB D cs o ad A) A) ([.ref o, .int t, .int q, .int b] : List Value).toArray s 0 0 A) (F0 m 200 ls []) := by
          intro N200
          induction N200 with
          | zero => intro v200_4 SL200 H locs ls hi200 hm200; exact absurd hm200 (Nat.not_lt_zero _)
          | succ N200 ih200 =>
            intro v200_4 SL200 H locs ls hi200 hm200 hG V hS hl
            rw [G_atQueue_L200] at hG
            have z0 : 0 ≤ gA SL200 37 b := (q_of hi200.1 h2 h4).1
            have w39 := hi200.1
            refine lv_iload hx hb dX13_atQueue_200 (lv_at hl 4 rfl) ?_
            refine lv_aload_n hx hb dX13_atQueue_202 rfl (lv_at hl 0 rfl) ?_
            refine mG37 C V dX13_atQueue_203 ?_
            refine lv_iload_n hx hb dX13_atQueue_206 rfl (lv_at hl 3 rfl) ?_
            refine mLd37 C V (vin (N := 24) rfl (h2.1) (h2.2)) dX13_atQueue_207 ?_
            refine lv_icmp_ge (tgt := 243) hx hb dX13_atQueue_208 (by decide) (fun c40 => ?_) (fun c40 => ?_)
            · replace hG := gIf_p hG c40
              refine lv_aload_n hx hb dX13_atQueue_243 rfl (lv_at hl 0 rfl) ?_
              refine mG33 C V dX13_atQueue_244 ?_
              refine lv_iload_n hx hb dX13_atQueue_247 rfl (lv_at hl 3 rfl) ?_
              refine mLd33 C V (vin (N := 24) rfl (h2.1) (h2.2)) dX13_atQueue_248 ?_
              refine lv_if_le (tgt := 271) hx hb dX13_atQueue_249 (by decide) (fun c41 => ?_) (fun c41 => ?_)
              · replace hG := gIf_p hG c41
                refine lv_iconst (v := 1) hx hb dX13_atQueue_271 (by decide) ?_
                exact mRetZ C hr hlk V hS (by clear hG V hS hl C hts hown hx hb hml hr hlk ih200 hm200; first | rfl | exact pz nope9 | exact pz nope9) (⟨pas_1 h1 w39, hG.symm⟩) dX13_atQueue_272
              · replace hG := gIf_n hG c41
                refine lv_aload_n hx hb dX13_atQueue_252 rfl (lv_at hl 0 rfl) ?_
                refine lv_iload_n hx hb dX13_atQueue_253 rfl (lv_at hl 3 rfl) ?_
                refine mGoI (mRunV (As := [.int b]) (rest := []) C hml V (c_firstGoesOn l D cs o ad A SL200 b  (h2) (w39.1) (i_gt c41)) gM_firstGoesOn okM_firstGoesOn ⟨rfl, rfl, Nat.le_of_ble_eq_true rfl, Nat.le_of_ble_eq_true rfl⟩ hl.1 rfl (Nat.le_of_ble_eq_true rfl) dX13_atQueue_254 ⟨Nat.zero_le _, Nat.zero_le _⟩) hS (fun r43 S42 H locs hq44 V hS => ?_)
                obtain ⟨hq44, ghq44⟩ := hq44
                replace hG := gC_e hG ghq44
                have w45 := stp_tr w39 hq44.1
                refine lv_istore (lv' := [(4, .int r43), (0, .ref o), (1, .int t), (2, .int q), (3, .int b)]) hx hb dX13_atQueue_257 hl (by decide) rfl (fun ls hl => ?_)
                refine lv_aload_n hx hb dX13_atQueue_259 rfl (lv_at hl 1 rfl) ?_
                refine lv_iload_n hx hb dX13_atQueue_260 rfl (lv_at hl 4 rfl) ?_
                refine lv_aload_n hx hb dX13_atQueue_261 rfl (lv_at hl 1 rfl) ?_
                refine mG14 C V dX13_atQueue_262 ?_
                refine lv_iload hx hb dX13_atQueue_265 (lv_at hl 0 rfl) ?_
                refine mLd14 C V (vin (N := 8) rfl (hq44.2.2.1.1) (hq44.2.2.1.2)) dX13_atQueue_267 ?_
                refine mGoV (mRunV (As := [.int b, .int (gA S42 14 r43)]) (rest := []) C hml V (c_append l D cs o ad A S42 b (gA S42 14 r43)  (h2) (by clear hG V hS hl C hts hown hx hb hml hr hlk ih200 hm200; rw [hq44.2.2.2.2 37 _ (by decide) (by decide) (by decide) (by decide) (by decide)]; have q9 := hi200.2.2.2; clear h1 h3 w45 hq44 hi200; grind)) gM_append okM_append ⟨rfl, rfl, Nat.le_of_ble_eq_true rfl, Nat.le_of_ble_eq_true rfl⟩ hl.1 rfl (Nat.le_of_ble_eq_true rfl) dX13_atQueue_268 ⟨Nat.zero_le _, Nat.zero_le _⟩) hS (fun S46 H locs hq48 V hS => ?_)
                obtain ⟨hq48, ghq48⟩ := hq48
                replace hG := gLt_e hG ghq48
                have w49 := st_app w45 h2 ⟨by rw [hq44.2.2.2.2 37 _ (by decide) (by decide) (by decide) (by decide) (by decide)]; exact z0, by rw [hq44.2.2.2.2 37 _ (by decide) (by decide) (by decide) (by decide) (by decide), hq44.2.2.2.2 29 _ (by decide) (by decide) (by decide) (by decide) (by decide)]; exact hi200.2.2.2.1, by rw [hq44.2.2.2.2 29 _ (by decide) (by decide) (by decide) (by decide) (by decide)]; exact hi200.2.2.2.2⟩ hq48
                refine lv_iconst (v := 1) hx hb dX13_atQueue_271 (by decide) ?_
                exact mRetZ C hr hlk V hS (by clear hG V hS hl C hts hown hx hb hml hr hlk ih200 hm200; first | rfl | exact pz nope9 | exact pz nope9) (⟨pas_1 h1 w49, hG.symm⟩) dX13_atQueue_272
            · replace hG := gIf_n hG c40
              refine lv_aload_n hx hb dX13_atQueue_211 rfl (lv_at hl 0 rfl) ?_
              refine mG36 C V dX13_atQueue_212 ?_
              refine lv_bipush (v := 100) hx hb dX13_atQueue_215 (by decide) ?_
              refine lv_iload_n hx hb dX13_atQueue_217 rfl (lv_at hl 3 rfl) ?_
              refine lv_imul hx hb dX13_atQueue_218 ?_
              refine lv_iload hx hb dX13_atQueue_219 (lv_at hl 4 rfl) ?_
              refine lv_iadd hx hb dX13_atQueue_221 ?_
              refine lv_aload_n hx hb dX13_atQueue_222 rfl (lv_at hl 0 rfl) ?_
              refine mG36 C V dX13_atQueue_223 ?_
              refine lv_bipush (v := 100) hx hb dX13_atQueue_226 (by decide) ?_
              refine lv_iload_n hx hb dX13_atQueue_228 rfl (lv_at hl 3 rfl) ?_
              refine lv_imul hx hb dX13_atQueue_229 ?_
              refine lv_iload hx hb dX13_atQueue_230 (lv_at hl 4 rfl) ?_
              refine lv_iadd hx hb dX13_atQueue_232 ?_
              refine lv_iconst (v := 1) hx hb dX13_atQueue_233 (by decide) ?_
              refine lv_iadd hx hb dX13_atQueue_234 ?_
              refine mLd36 C V (vin (N := 2400) rfl ((a_q1 h2 hi200.2.1 (Int32.le_of_lt hi200.2.2.2.1) hi200.2.2.2.2 hi200.2.2.2.1 c40).2.1) ((a_q1 h2 hi200.2.1 (Int32.le_of_lt hi200.2.2.2.1) hi200.2.2.2.2 hi200.2.2.2.1 c40).2.2)) dX13_atQueue_235 ?_
              refine mSt36 C V hS (vin (N := 2400) rfl ((a_q1 h2 hi200.2.1 (Int32.le_of_lt hi200.2.2.2.1) hi200.2.2.2.2 hi200.2.2.2.1 c40).1.1) ((a_q1 h2 hi200.2.1 (Int32.le_of_lt hi200.2.2.2.1) hi200.2.2.2.2 hi200.2.2.2.1 c40).1.2)) dX13_atQueue_236 (fun S50 H locs eS50 V hS => ?_)
              replace hG := gLt_e hG eS50
              have w51 := st_irr w39 eS50 (by simp [smK])
              obtain ⟨x52, ex52⟩ : ∃ y : Int32, y = v200_4 + (1) := ⟨_, rfl⟩
              replace hG := gLt_e hG ex52
              refine lv_iinc (v := x52) (lv' := [(4, .int x52), (0, .ref o), (1, .int t), (2, .int q), (3, .int b)]) hx hb dX13_atQueue_237 hl (k := 4) rfl (by rw [ex52]; rfl) (by decide) rfl (fun ls hl => ?_)
              refine lv_goto (tgt := 200) hx hb dX13_atQueue_240 (by decide) ?_
              exact ih200 x52 S50 _ _ _ (by clear hG V hS hl C hts hown hx hb hml hr hlk ih200 hm200; rw [eS50]; simp only [gA_sA, if_neg (show ¬ (37 = 36) by decide), if_neg (show ¬ (29 = 36) by decide)]; rw [← eS50]; exact ⟨w51, (a_up ex52 hi200.2.1 (i_lt c40)).1, (a_up ex52 hi200.2.1 (i_lt c40)).2, hi200.2.2.2⟩) (show _ < _ from by rw [eS50]; simp only [gA_sA, if_neg (show ¬ (37 = 36) by decide)]; exact msd hm200 (a_dec ex52 hi200.2.1 (i_lt c40)).1 (a_dec ex52 hi200.2.1 (i_lt c40)).2) hG V hS (lv_sub hl [1, 2, 3, 4, 0] rfl)
        exact loop200 ((gA S36 37 b - x38).toInt.toNat + 1) x38 S36 _ _ _ (by clear hG V hS hl C hts hown hx hb hml hr hlk; refine ⟨w37, ?_, ?_, ?_, ?_⟩ <;> (try rw [ex38]) <;> first | decide | (rw [eS36]; simp only [gA_sA, if_pos, if_neg (show ¬ (29 = 37) by decide)]; first | exact ql9.1 | exact ql7 | exact ql0.2.2)) (Nat.lt_succ_self _) hG V hS (lv_sub hl [1, 2, 3, 4, 0] rfl)
      · replace hG := gIf_p hG c33
        refine lv_iload_n hx hb dX13_atQueue_150 rfl (lv_at hl 2 rfl) ?_
        refine lv_bipush (v := 24) hx hb dX13_atQueue_151 (by decide) ?_
        refine lv_icmp_ne (tgt := 163) hx hb dX13_atQueue_153 (by decide) (fun c53 => ?_) (fun c53 => ?_)
        · replace hG := gIf_n hG c53
          refine lv_aload_n hx hb dX13_atQueue_163 rfl (lv_at hl 0 rfl) ?_
          refine mG14 C V dX13_atQueue_164 ?_
          refine lv_iload_n hx hb dX13_atQueue_167 rfl (lv_at hl 1 rfl) ?_
          refine lv_iconst (v := (-1)) hx hb dX13_atQueue_168 (by decide) ?_
          refine mSt14 C V hS (vin (N := 8) rfl (h1.1.1) (h1.1.2)) dX13_atQueue_169 (fun S54 H locs eS54 V hS => ?_)
          replace hG := gLt_e hG eS54
          have w55 := st_irr w0 eS54 (by simp [smK])
          refine lv_iconst (v := 1) hx hb dX13_atQueue_170 (by decide) ?_
          exact mRetZ C hr hlk V hS (by clear hG V hS hl C hts hown hx hb hml hr hlk; first | rfl | exact pz nope9 | exact pz nope9) (⟨pas_1 h1 w55, hG.symm⟩) dX13_atQueue_171
        · replace hG := gIf_p hG c53
          refine lv_aload_n hx hb dX13_atQueue_156 rfl (lv_at hl 0 rfl) ?_
          refine lv_iload_n hx hb dX13_atQueue_157 rfl (lv_at hl 1 rfl) ?_
          refine lv_iload_n hx hb dX13_atQueue_158 rfl (lv_at hl 3 rfl) ?_
          refine mGoI (mRunV (As := [.int t, .int b]) (rest := []) C hml V (c_passes l D cs o ad A S t b  (fre_stp h1 w0) (h2) (w0.1)) gM_passes okM_passes ⟨rfl, rfl, Nat.le_of_ble_eq_true rfl, Nat.le_of_ble_eq_true rfl⟩ hl.1 rfl (Nat.le_of_ble_eq_true rfl) dX13_atQueue_159 ⟨Nat.zero_le _, Nat.zero_le _⟩) hS (fun r57 S56 H locs hq58 V hS => ?_)
          obtain ⟨hq58, ghq58⟩ := hq58
          replace hG := gC_e hG ghq58
          exact mRetZ C hr hlk V hS (by clear hG V hS hl C hts hown hx hb hml hr hlk; first | rfl | exact pz nope9 | exact pz hq58) (⟨pas_tr h1 w0 hq58, hG.symm⟩) dX13_atQueue_162
    · replace hG := gIf_p hG c32
      exact j_atQueue_12 l D cs o ad A S t q b h1 h2 h3 h4 C hml hr hlk   _ _ _ (trivial) hG V hS (lv_sub hl [0, 1, 2, 3] rfl)

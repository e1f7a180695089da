theorem pz {S S9 : mS} {t r : Int32} (h : pas S S9 t r) : narrow .boolean (.int r) = .int r := by
  rcases h.2.2.2 with ⟨q, -⟩ | q <;> rw [q] <;> rfl

def G_atCell_J129 (t : Int32) (j129_s2 : Int32) (SJ129 : mS) : Int32 × mS := gLt (sA SJ129 14 t (j129_s2) : mS) (fun S2 => ((1 : Int32), S2))
def G_atCell_J114 (t : Int32) (j114_4 : Int32) (SJ114 : mS) : Int32 × mS := if (j114_4 : Int32) = 0 then (G_atCell_J129 t 0 SJ114) else (G_atCell_J129 t 1 SJ114)
def G_atCell_J95 (t : Int32) (b : Int32) (j95_s0 : Int32) (SJ95 : mS) : Int32 × mS := if (j95_s0 : Int32) = 0 then (G_atCell_J114 t j95_s0 SJ95) else (gLt (G_part SJ95 t 3 : Int32) (fun r9 => gLt (sA SJ95 29 b (r9) : mS) (fun S11 => G_atCell_J114 t j95_s0 S11)))
def G_atCell_J69 (t : Int32) (q : Int32) (b : Int32) (SJ69 : mS) : Int32 × mS := if (q : Int32) = 16 then (gLt (G_part SJ69 t 2 : Int32) (fun r16 => if ((gA SJ69 29 b) : Int32) = r16 then (G_atCell_J95 t b 1 SJ69) else (G_atCell_J95 t b 0 SJ69))) else (((1 : Int32), SJ69))
def G_atCell_J36 (t : Int32) (q : Int32) (b : Int32) (SJ36 : mS) : Int32 × mS := if (q : Int32) = 15 then (gLt (G_part SJ36 t 2 : Int32) (fun r22 => gLt (sA SJ36 29 b (((gA SJ36 29 b) + r22)) : mS) (fun S24 => gLt (sA S24 14 t ((gA S24 29 b)) : mS) (fun S26 => G_atCell_J69 t q b  S26)))) else (G_atCell_J69 t q b  SJ36)
def G_atCell_J18 (t : Int32) (q : Int32) (b : Int32) (SJ18 : mS) : Int32 × mS := if (q : Int32) = 14 then (gLt (sA SJ18 29 b ((gA SJ18 14 t)) : mS) (fun S30 => G_atCell_J36 t q b  S30)) else (G_atCell_J36 t q b  SJ18)
def G_atCell (S : mS) (t : Int32) (q : Int32) (b : Int32) : Int32 × mS := if (q : Int32) = 13 then (gLt (sA S 14 t ((gA S 29 b)) : mS) (fun S33 => G_atCell_J18 t q b  S33)) else (G_atCell_J18 t q b  S)
set_option maxHeartbeats 400000 in
set_option maxRecDepth 100000 in
theorem j_atCell_129 {p : Program} {e : Env} {s : State} {m : MethodId} {below : List Frame} {meth : Method} {c : Code} (l : Launch) (D : va_G) (cs : ClassId × ClassId × ClassId) (o : Nat) (ad : Nat → Nat) (A : Nat → Prop) (S : mS) (t : Int32) (q : Int32) (b : Int32)  (h1 : fre S t) (h2 : 0 ≤ b ∧ b < 24) (h3 : mInv S) (h4 : gA S 28 b ≠ 5) (C : mC p s m ([.ref o, .int t, .int q, .int b] : List Value).toArray c cX13_atCell D cs) (hml : c.maxLocals = 5) (hr : meth.sig.returnType = (some .boolean)) (hlk : meth.locks = false) (j129_s2 : Int32) (SJ129 : mS) (H : Heap) (locs : List Loc) (ls : Array Slot) (hj129 : stp S SJ129) (hG : G_atCell S t q b = G_atCell_J129 t j129_s2 SJ129) (V : mV D cs o ad A SJ129 H) (hS : va_S A s.heap H locs) (hl : lv_has ls 5 [(0, .ref o), (1, .int t), (2, .int q), (3, .int b)]) : W p l e ({ frames := 1, cells := 0, slots := 0, locals := 22 } : Room) s m ([.ref o, .int t, .int q, .int b] : List Value).toArray below meth c H locs 0 0 (MQ below (va_Qi (fun r9 S9 => (pas S S9 t r9) ∧ (r9, S9) = G_atCell S t q b) (mB D cs o ad A) A) ([.ref o, .int t, .int q, .int b] : List Value).toArray s 0 0 A) (F0 m 129 ls [.int j129_s2, .int t, .ref (ad 14)]) := by
  have hx := C.1
  have hb := C.2.1
  have hown := C.2.2.1
  have hts := C.2.2.2.1
  rw [G_atCell_J129] at hG
  have w1 := hj129
  refine mSt14 C V hS (vin (N := 8) rfl (h1.1.1) (h1.1.2)) dX13_atCell_129 (fun S2 H locs eS2 V hS => ?_)
  replace hG := gLt_e hG eS2
  have w3 := st_irr w1 eS2 (by simp [smK])
  refine lv_iconst (v := 1) hx hb dX13_atCell_130 (by decide) ?_
  exact mRetZ C hr hlk V hS (by clear hG V hS hl C hts hown hx hb hml hr hlk; first | rfl | decide | (subst_vars; rfl)) (⟨pas_1 h1 w3, hG.symm⟩) dX13_atCell_131
set_option maxHeartbeats 400000 in
set_option maxRecDepth 100000 in
theorem j_atCell_114 {p : Program} {e : Env} {s : State} {m : MethodId} {below : List Frame} {meth : Method} {c : Code} (l : Launch) (D : va_G) (cs : ClassId × ClassId × ClassId) (o : Nat) (ad : Nat → Nat) (A : Nat → Prop) (S : mS) (t : Int32) (q : Int32) (b : Int32)  (h1 : fre S t) (h2 : 0 ≤ b ∧ b < 24) (h3 : mInv S) (h4 : gA S 28 b ≠ 5) (C : mC p s m ([.ref o, .int t, .int q, .int b] : List Value).toArray c cX13_atCell D cs) (hml : c.maxLocals = 5) (hr : meth.sig.returnType = (some .boolean)) (hlk : meth.locks = false) (j114_4 : Int32) (SJ114 : mS) (H : Heap) (locs : List Loc) (ls : Array Slot) (hj114 : stp S SJ114) (hG : G_atCell S t q b = G_atCell_J114 t j114_4 SJ114) (V : mV D cs o ad A SJ114 H) (hS : va_S A s.heap H locs) (hl : lv_has ls 5 [(0, .ref o), (1, .int t), (2, .int q), (3, .int b), (4, .int j114_4)]) : W p l e ({ frames := 1, cells := 0, slots := 0, locals := 22 } : Room) s m ([.ref o, .int t, .int q, .int b] : List Value).toArray below meth c H locs 0 0 (MQ below (va_Qi (fun r9 S9 => (pas S S9 t r9) ∧ (r9, S9) = G_atCell S t q b) (mB D cs o ad A) A) ([.ref o, .int t, .int q, .int b] : List Value).toArray s 0 0 A) (F0 m 114 ls []) := by
  have hx := C.1
  have hb := C.2.1
  have hown := C.2.2.1
  have hts := C.2.2.2.1
  rw [G_atCell_J114] at hG
  have w4 := hj114
  refine lv_aload_n hx hb dX13_atCell_114 rfl (lv_at hl 0 rfl) ?_
  refine mG14 C V dX13_atCell_115 ?_
  refine lv_iload_n hx hb dX13_atCell_118 rfl (lv_at hl 1 rfl) ?_
  refine lv_iload hx hb dX13_atCell_119 (lv_at hl 4 rfl) ?_
  refine lv_if_eq (tgt := 128) hx hb dX13_atCell_121 (by decide) (fun c5 => ?_) (fun c5 => ?_)
  · replace hG := gIf_p hG c5
    refine lv_iconst (v := 0) hx hb dX13_atCell_128 (by decide) ?_
    exact j_atCell_129 l D cs o ad A S t q b h1 h2 h3 h4 C hml hr hlk 0 SJ114 _ _ _ (w4) hG V hS (lv_sub hl [0, 1, 2, 3] rfl)
  · replace hG := gIf_n hG c5
    refine lv_iconst (v := 1) hx hb dX13_atCell_124 (by decide) ?_
    refine lv_goto (tgt := 129) hx hb dX13_atCell_125 (by decide) ?_
    exact j_atCell_129 l D cs o ad A S t q b h1 h2 h3 h4 C hml hr hlk 1 SJ114 _ _ _ (w4) hG V hS (lv_sub hl [0, 1, 2, 3] rfl)
set_option maxHeartbeats 400000 in
set_option maxRecDepth 100000 in
theorem j_atCell_95 {p : Program} {e : Env} {s : State} {m : MethodId} {below : List Frame} {meth : Method} {c : Code} (l : Launch) (D : va_G) (cs : ClassId × ClassId × ClassId) (o : Nat) (ad : Nat → Nat) (A : Nat → Prop) (S : mS) (t : Int32) (q : Int32) (b : Int32)  (h1 : fre S t) (h2 : 0 ≤ b ∧ b < 24) (h3 : mInv S) (h4 : gA S 28 b ≠ 5) (C : mC p s m ([.ref o, .int t, .int q, .int b] : List Value).toArray c cX13_atCell D cs) (hml : c.maxLocals = 5) (hr : meth.sig.returnType = (some .boolean)) (hlk : meth.locks = false) (j95_s0 : Int32) (SJ95 : mS) (H : Heap) (locs : List Loc) (ls : Array Slot) (hj95 : stp S SJ95) (hG : G_atCell S t q b = G_atCell_J95 t b j95_s0 SJ95) (V : mV D cs o ad A SJ95 H) (hS : va_S A s.heap H locs) (hl : lv_has ls 5 [(0, .ref o), (1, .int t), (2, .int q), (3, .int b)]) : W p l e ({ frames := 1, cells := 0, slots := 0, locals := 22 } : Room) s m ([.ref o, .int t, .int q, .int b] : List Value).toArray below meth c H locs 0 0 (MQ below (va_Qi (fun r9 S9 => (pas S S9 t r9) ∧ (r9, S9) = G_atCell S t q b) (mB D cs o ad A) A) ([.ref o, .int t, .int q, .int b] : List Value).toArray s 0 0 A) (F0 m 95 ls [.int j95_s0]) := by
  have hx := C.1
  have hb := C.2.1
  have hown := C.2.2.1
  have hts := C.2.2.2.1
  rw [G_atCell_J95] at hG
  have w6 := hj95
  refine lv_istore (lv' := [(4, .int j95_s0), (0, .ref o), (1, .int t), (2, .int q), (3, .int b)]) hx hb dX13_atCell_95 hl (by decide) rfl (fun ls hl => ?_)
  refine lv_iload hx hb dX13_atCell_97 (lv_at hl 0 rfl) ?_
  refine lv_if_eq (tgt := 114) hx hb dX13_atCell_99 (by decide) (fun c7 => ?_) (fun c7 => ?_)
  · replace hG := gIf_p hG c7
    exact j_atCell_114 l D cs o ad A S t q b h1 h2 h3 h4 C hml hr hlk j95_s0 SJ95 _ _ _ (w6) hG V hS (lv_sub hl [1, 2, 3, 4, 0] rfl)
  · replace hG := gIf_n hG c7
    refine lv_aload_n hx hb dX13_atCell_102 rfl (lv_at hl 1 rfl) ?_
    refine mG29 C V dX13_atCell_103 ?_
    refine lv_iload_n hx hb dX13_atCell_106 rfl (lv_at hl 4 rfl) ?_
    refine lv_aload_n hx hb dX13_atCell_107 rfl (lv_at hl 1 rfl) ?_
    refine lv_iload_n hx hb dX13_atCell_108 rfl (lv_at hl 2 rfl) ?_
    refine lv_iconst (v := 3) hx hb dX13_atCell_109 (by decide) ?_
    refine mGoQ (mRunV (As := [.int t, .int 3]) (rest := [.int b, .ref (ad 29)]) C hml V (c_part l D cs o ad A SJ95 t 3  (h1.1) (at60 h1 w6) (by clear hG V hS hl C hts hown hx hb hml hr hlk; decide)) gM_part okM_part ⟨rfl, rfl, Nat.le_of_ble_eq_true rfl, Nat.le_of_ble_eq_true rfl⟩ hl.1 rfl (Nat.le_of_ble_eq_true rfl) dX13_atCell_110 ⟨Nat.zero_le _, Nat.zero_le _⟩) hS (fun r9 H locs hq10 V hS => ?_)
    obtain ⟨hq10, ghq10⟩ := hq10
    replace hG := gLt_e hG ghq10
    refine mSt29 C V hS (vin (N := 24) rfl (h2.1) (h2.2)) dX13_atCell_113 (fun S11 H locs eS11 V hS => ?_)
    replace hG := gLt_e hG eS11
    have w12 := st_first w6 h4 h2 eS11
    exact j_atCell_114 l D cs o ad A S t q b h1 h2 h3 h4 C hml hr hlk j95_s0 S11 _ _ _ (w12) hG V hS (lv_sub hl [1, 2, 3, 4, 0] rfl)
set_option maxHeartbeats 400000 in
set_option maxRecDepth 100000 in
theorem j_atCell_69 {p : Program} {e : Env} {s : State} {m : MethodId} {below : List Frame} {meth : Method} {c : Code} (l : Launch) (D : va_G) (cs : ClassId × ClassId × ClassId) (o : Nat) (ad : Nat → Nat) (A : Nat → Prop) (S : mS) (t : Int32) (q : Int32) (b : Int32)  (h1 : fre S t) (h2 : 0 ≤ b ∧ b < 24) (h3 : mInv S) (h4 : gA S 28 b ≠ 5) (C : mC p s m ([.ref o, .int t, .int q, .int b] : List Value).toArray c cX13_atCell D cs) (hml : c.maxLocals = 5) (hr : meth.sig.returnType = (some .boolean)) (hlk : meth.locks = false)  (SJ69 : mS) (H : Heap) (locs : List Loc) (ls : Array Slot) (hj69 : stp S SJ69) (hG : G_atCell S t q b = G_atCell_J69 t q b  SJ69) (V : mV D cs o ad A SJ69 H) (hS : va_S A s.heap H locs) (hl : lv_has ls 5 [(0, .ref o), (1, .int t), (2, .int q), (3, .int b)]) : W p l e ({ frames := 1, cells := 0, slots := 0, locals := 22 } : Room) s m ([.ref o, .int t, .int q, .int b] : List Value).toArray below meth c H locs 0 0 (MQ below (va_Qi (fun r9 S9 => (pas S S9 t r9) ∧ (r9, S9) = G_atCell S t q b) (mB D cs o ad A) A) ([.ref o, .int t, .int q, .int b] : List Value).toArray s 0 0 A) (F0 m 69 ls []) := by
  have hx := C.1
  have hb := C.2.1
  have hown := C.2.2.1
  have hts := C.2.2.2.1
  rw [G_atCell_J69] at hG
  have w13 := hj69
  refine lv_iload_n hx hb dX13_atCell_69 rfl (lv_at hl 2 rfl) ?_
  refine lv_bipush (v := 16) hx hb dX13_atCell_70 (by decide) ?_
  refine lv_icmp_ne (tgt := 130) hx hb dX13_atCell_72 (by decide) (fun c14 => ?_) (fun c14 => ?_)
  · replace hG := gIf_n hG c14
    refine lv_iconst (v := 1) hx hb dX13_atCell_130 (by decide) ?_
    exact mRetZ C hr hlk V hS (by clear hG V hS hl C hts hown hx hb hml hr hlk; first | rfl | decide | (subst_vars; rfl)) (⟨pas_1 h1 w13, hG.symm⟩) dX13_atCell_131
  · replace hG := gIf_p hG c14
    refine lv_aload_n hx hb dX13_atCell_75 rfl (lv_at hl 0 rfl) ?_
    refine mG29 C V dX13_atCell_76 ?_
    refine lv_iload_n hx hb dX13_atCell_79 rfl (lv_at hl 3 rfl) ?_
    refine mLd29 C V (vin (N := 24) rfl (h2.1) (h2.2)) dX13_atCell_80 ?_
    refine lv_aload_n hx hb dX13_atCell_81 rfl (lv_at hl 0 rfl) ?_
    refine lv_iload_n hx hb dX13_atCell_82 rfl (lv_at hl 1 rfl) ?_
    refine lv_iconst (v := 2) hx hb dX13_atCell_83 (by decide) ?_
    refine mGoQ (mRunV (As := [.int t, .int 2]) (rest := [.int (gA SJ69 29 b)]) C hml V (c_part l D cs o ad A SJ69 t 2  (h1.1) (at60 h1 w13) (by clear hG V hS hl C hts hown hx hb hml hr hlk; decide)) gM_part okM_part ⟨rfl, rfl, Nat.le_of_ble_eq_true rfl, Nat.le_of_ble_eq_true rfl⟩ hl.1 rfl (Nat.le_of_ble_eq_true rfl) dX13_atCell_84 ⟨Nat.zero_le _, Nat.zero_le _⟩) hS (fun r16 H locs hq17 V hS => ?_)
    obtain ⟨hq17, ghq17⟩ := hq17
    replace hG := gLt_e hG ghq17
    refine lv_icmp_ne (tgt := 94) hx hb dX13_atCell_87 (by decide) (fun c18 => ?_) (fun c18 => ?_)
    · replace hG := gIf_n hG c18
      refine lv_iconst (v := 0) hx hb dX13_atCell_94 (by decide) ?_
      exact j_atCell_95 l D cs o ad A S t q b h1 h2 h3 h4 C hml hr hlk 0 SJ69 _ _ _ (w13) hG V hS (lv_sub hl [0, 1, 2, 3] rfl)
    · replace hG := gIf_p hG c18
      refine lv_iconst (v := 1) hx hb dX13_atCell_90 (by decide) ?_
      refine lv_goto (tgt := 95) hx hb dX13_atCell_91 (by decide) ?_
      exact j_atCell_95 l D cs o ad A S t q b h1 h2 h3 h4 C hml hr hlk 1 SJ69 _ _ _ (w13) hG V hS (lv_sub hl [0, 1, 2, 3] rfl)
set_option maxHeartbeats 400000 in
set_option maxRecDepth 100000 in
theorem j_atCell_36 {p : Program} {e : Env} {s : State} {m : MethodId} {below : List Frame} {meth : Method} {c : Code} (l : Launch) (D : va_G) (cs : ClassId × ClassId × ClassId) (o : Nat) (ad : Nat → Nat) (A : Nat → Prop) (S : mS) (t : Int32) (q : Int32) (b : Int32)  (h1 : fre S t) (h2 : 0 ≤ b ∧ b < 24) (h3 : mInv S) (h4 : gA S 28 b ≠ 5) (C : mC p s m ([.ref o, .int t, .int q, .int b] : List Value).toArray c cX13_atCell D cs) (hml : c.maxLocals = 5) (hr : meth.sig.returnType = (some .boolean)) (hlk : meth.locks = false)  (SJ36 : mS) (H : Heap) (locs : List Loc) (ls : Array Slot) (hj36 : stp S SJ36) (hG : G_atCell S t q b = G_atCell_J36 t q b  SJ36) (V : mV D cs o ad A SJ36 H) (hS : va_S A s.heap H locs) (hl : lv_has ls 5 [(0, .ref o), (1, .int t), (2, .int q), (3, .int b)]) : W p l e ({ frames := 1, cells := 0, slots := 0, locals := 22 } : Room) s m ([.ref o, .int t, .int q, .int b] : List Value).toArray below meth c H locs 0 0 (MQ below (va_Qi (fun r9 S9 => (pas S S9 t r9) ∧ (r9, S9) = G_atCell S t q b) (mB D cs o ad A) A) ([.ref o, .int t, .int q, .int b] : List Value).toArray s 0 0 A) (F0 m 36 ls []) := by
  have hx := C.1
  have hb := C.2.1
  have hown := C.2.2.1
  have hts := C.2.2.2.1
  rw [G_atCell_J36] at hG
  have w19 := hj36
  refine lv_iload_n hx hb dX13_atCell_36 rfl (lv_at hl 2 rfl) ?_
  refine lv_bipush (v := 15) hx hb dX13_atCell_37 (by decide) ?_
  refine lv_icmp_ne (tgt := 69) hx hb dX13_atCell_39 (by decide) (fun c20 => ?_) (fun c20 => ?_)
  · replace hG := gIf_n hG c20
    exact j_atCell_69 l D cs o ad A S t q b h1 h2 h3 h4 C hml hr hlk  SJ36 _ _ _ (w19) hG V hS (lv_sub hl [0, 1, 2, 3] rfl)
  · replace hG := gIf_p hG c20
    refine lv_aload_n hx hb dX13_atCell_42 rfl (lv_at hl 0 rfl) ?_
    refine mG29 C V dX13_atCell_43 ?_
    refine lv_iload_n hx hb dX13_atCell_46 rfl (lv_at hl 3 rfl) ?_
    refine lv_dup2_11 hx hb dX13_atCell_47 rfl rfl ?_
    refine mLd29 C V (vin (N := 24) rfl (h2.1) (h2.2)) dX13_atCell_48 ?_
    refine lv_aload_n hx hb dX13_atCell_49 rfl (lv_at hl 0 rfl) ?_
    refine lv_iload_n hx hb dX13_atCell_50 rfl (lv_at hl 1 rfl) ?_
    refine lv_iconst (v := 2) hx hb dX13_atCell_51 (by decide) ?_
    refine mGoQ (mRunV (As := [.int t, .int 2]) (rest := [.int (gA SJ36 29 b), .int b, .ref (ad 29)]) C hml V (c_part l D cs o ad A SJ36 t 2  (h1.1) (at60 h1 w19) (by clear hG V hS hl C hts hown hx hb hml hr hlk; decide)) gM_part okM_part ⟨rfl, rfl, Nat.le_of_ble_eq_true rfl, Nat.le_of_ble_eq_true rfl⟩ hl.1 rfl (Nat.le_of_ble_eq_true rfl) dX13_atCell_52 ⟨Nat.zero_le _, Nat.zero_le _⟩) hS (fun r22 H locs hq23 V hS => ?_)
    obtain ⟨hq23, ghq23⟩ := hq23
    replace hG := gLt_e hG ghq23
    refine lv_iadd hx hb dX13_atCell_55 ?_
    refine mSt29 C V hS (vin (N := 24) rfl (h2.1) (h2.2)) dX13_atCell_56 (fun S24 H locs eS24 V hS => ?_)
    replace hG := gLt_e hG eS24
    have w25 := st_first w19 h4 h2 eS24
    refine lv_aload_n hx hb dX13_atCell_57 rfl (lv_at hl 0 rfl) ?_
    refine mG14 C V dX13_atCell_58 ?_
    refine lv_iload_n hx hb dX13_atCell_61 rfl (lv_at hl 1 rfl) ?_
    refine lv_aload_n hx hb dX13_atCell_62 rfl (lv_at hl 0 rfl) ?_
    refine mG29 C V dX13_atCell_63 ?_
    refine lv_iload_n hx hb dX13_atCell_66 rfl (lv_at hl 3 rfl) ?_
    refine mLd29 C V (vin (N := 24) rfl (h2.1) (h2.2)) dX13_atCell_67 ?_
    refine mSt14 C V hS (vin (N := 8) rfl (h1.1.1) (h1.1.2)) dX13_atCell_68 (fun S26 H locs eS26 V hS => ?_)
    replace hG := gLt_e hG eS26
    have w27 := st_irr w25 eS26 (by simp [smK])
    exact j_atCell_69 l D cs o ad A S t q b h1 h2 h3 h4 C hml hr hlk  S26 _ _ _ (w27) hG V hS (lv_sub hl [0, 1, 2, 3] rfl)
set_option maxHeartbeats 400000 in
set_option maxRecDepth 100000 in
theorem j_atCell_18 {p : Program} {e : Env} {s : State} {m : MethodId} {below : List Frame} {meth : Method} {c : Code} (l : Launch) (D : va_G) (cs : ClassId × ClassId × ClassId) (o : Nat) (ad : Nat → Nat) (A : Nat → Prop) (S : mS) (t : Int32) (q : Int32) (b : Int32)  (h1 : fre S t) (h2 : 0 ≤ b ∧ b < 24) (h3 : mInv S) (h4 : gA S 28 b ≠ 5) (C : mC p s m ([.ref o, .int t, .int q, .int b] : List Value).toArray c cX13_atCell D cs) (hml : c.maxLocals = 5) (hr : meth.sig.returnType = (some .boolean)) (hlk : meth.locks = false)  (SJ18 : mS) (H : Heap) (locs : List Loc) (ls : Array Slot) (hj18 : stp S SJ18) (hG : G_atCell S t q b = G_atCell_J18 t q b  SJ18) (V : mV D cs o ad A SJ18 H) (hS : va_S A s.heap H locs) (hl : lv_has ls 5 [(0, .ref o), (1, .int t), (2, .int q), (3, .int b)]) : W p l e ({ frames := 1, cells := 0, slots := 0, locals := 22 } : Room) s m ([.ref o, .int t, .int q, .int b] : List Value).toArray below meth c H locs 0 0 (MQ below (va_Qi (fun r9 S9 => (pas S S9 t r9) ∧ (r9, S9) = G_atCell S t q b) (mB D cs o ad A) A) ([.ref o, .int t, .int q, .int b] : List Value).toArray s 0 0 A) (F0 m 18 ls []) := by
  have hx := C.1
  have hb := C.2.1
  have hown := C.2.2.1
  have hts := C.2.2.2.1
  rw [G_atCell_J18] at hG
  have w28 := hj18
  refine lv_iload_n hx hb dX13_atCell_18 rfl (lv_at hl 2 rfl) ?_
  refine lv_bipush (v := 14) hx hb dX13_atCell_19 (by decide) ?_
  refine lv_icmp_ne (tgt := 36) hx hb dX13_atCell_21 (by decide) (fun c29 => ?_) (fun c29 => ?_)
  · replace hG := gIf_n hG c29
    exact j_atCell_36 l D cs o ad A S t q b h1 h2 h3 h4 C hml hr hlk  SJ18 _ _ _ (w28) hG V hS (lv_sub hl [0, 1, 2, 3] rfl)
  · replace hG := gIf_p hG c29
    refine lv_aload_n hx hb dX13_atCell_24 rfl (lv_at hl 0 rfl) ?_
    refine mG29 C V dX13_atCell_25 ?_
    refine lv_iload_n hx hb dX13_atCell_28 rfl (lv_at hl 3 rfl) ?_
    refine lv_aload_n hx hb dX13_atCell_29 rfl (lv_at hl 0 rfl) ?_
    refine mG14 C V dX13_atCell_30 ?_
    refine lv_iload_n hx hb dX13_atCell_33 rfl (lv_at hl 1 rfl) ?_
    refine mLd14 C V (vin (N := 8) rfl (h1.1.1) (h1.1.2)) dX13_atCell_34 ?_
    refine mSt29 C V hS (vin (N := 24) rfl (h2.1) (h2.2)) dX13_atCell_35 (fun S30 H locs eS30 V hS => ?_)
    replace hG := gLt_e hG eS30
    have w31 := st_first w28 h4 h2 eS30
    exact j_atCell_36 l D cs o ad A S t q b h1 h2 h3 h4 C hml hr hlk  S30 _ _ _ (w31) hG V hS (lv_sub hl [0, 1, 2, 3] rfl)
set_option maxHeartbeats 400000 in
set_option maxRecDepth 100000 in
theorem c_atCell (l : Launch) (D : va_G) (cs : ClassId × ClassId × ClassId) (o : Nat) (ad : Nat → Nat) (A : Nat → Prop) (S : mS) (t : Int32) (q : Int32) (b : Int32)  (h1 : fre S t) (h2 : 0 ≤ b ∧ b < 24) (h3 : mInv S) (h4 : gA S 28 b ≠ 5) : Met l yX13_atCell (Cond.code yX13_atCell cX13_atCell 5 (some .boolean) :: tM) ({ frames := 1, cells := 0, slots := 0, locals := 22 }) (va_Pc [.ref o, .int t, .int q, .int b] (mB D cs o ad A S)) (va_Qi (fun r9 S9 => (pas S S9 t r9) ∧ (r9, S9) = G_atCell S t q b) (mB D cs o ad A) A) 0 0 A := by
  refine mMet (by decide) rfl (Nat.le_of_ble_eq_true rfl) ?_
  intro p e s m below meth c ls C hml hr hlk V hl
  have hx := C.1
  have hb := C.2.1
  have hown := C.2.2.1
  have hts := C.2.2.2.1
  have hS : va_S A s.heap s.heap [] := va_S.rf
  have hl : lv_has ls 5 [(0, .ref o), (1, .int t), (2, .int q), (3, .int b)] := hl
  have hG := G_atCell.eq_1 S t q b
  have w0 : stp S S := stp_rf h3
  refine lv_iload_n hx hb dX13_atCell_0 rfl (lv_at hl 2 rfl) ?_
  refine lv_bipush (v := 13) hx hb dX13_atCell_1 (by decide) ?_
  refine lv_icmp_ne (tgt := 18) hx hb dX13_atCell_3 (by decide) (fun c32 => ?_) (fun c32 => ?_)
  · replace hG := gIf_n hG c32
    exact j_atCell_18 l D cs o ad A S t q b h1 h2 h3 h4 C hml hr hlk  S _ _ _ (w0) hG V hS (lv_sub hl [0, 1, 2, 3] rfl)
  · replace hG := gIf_p hG c32
    refine lv_aload_n hx hb dX13_atCell_6 rfl (lv_at hl 0 rfl) ?_
    refine mG14 C V dX13_atCell_7 ?_
    refine lv_iload_n hx hb dX13_atCell_10 rfl (lv_at hl 1 rfl) ?_
    refine lv_aload_n hx hb dX13_atCell_11 rfl (lv_at hl 0 rfl) ?_
    refine mG29 C V dX13_atCell_12 ?_
    refine lv_iload_n hx hb dX13_atCell_15 rfl (lv_at hl 3 rfl) ?_
    refine mLd29 C V (vin (N := 24) rfl (h2.1) (h2.2)) dX13_atCell_16 ?_
    refine mSt14 C V hS (vin (N := 8) rfl (h1.1.1) (h1.1.2)) dX13_atCell_17 (fun S33 H locs eS33 V hS => ?_)
    replace hG := gLt_e hG eS33
    have w34 := st_irr w0 eS33 (by simp [smK])
    exact j_atCell_18 l D cs o ad A S t q b h1 h2 h3 h4 C hml hr hlk  S33 _ _ _ (w34) hG V hS (lv_sub hl [0, 1, 2, 3] rfl)
def G_opened_L40 (b : Int32) : Nat → mS → mS
  | 0, SL40 => SL40
  | N40 + 1, SL40 => if ((gA SL40 33 b) : Int32) ≤ 0 then (SL40) else (gLt (G_part SL40 (gA SL40 32 (8 * b)) 0 : Int32) (fun r5 => if (r5 : Int32) = 29 then (gC (G_firstGoesOn SL40 b) (fun r9 S8 => gLt (sA S8 29 b (((gA S8 29 b) + 1)) : mS) (fun S12 => G_opened_L40 b N40  S12))) else (SL40)))
def G_opened (S : mS) (b : Int32) : mS := if ((gA S 33 b) : Int32) ≤ 0 then (G_opened_L40 b ((gA S 33 b).toInt.toNat + 1)  S) else (gLt (G_part S (gA S 32 (8 * b)) 0 : Int32) (fun r15 => if (r15 : Int32) = 31 then (gC (G_firstGoesOn S b) (fun r31 S30 => gLt (sA S30 31 b (r31) : mS) (fun S34 => S34))) else (G_opened_L40 b ((gA S 33 b).toInt.toNat + 1)  S)))
set_option maxHeartbeats 400000 in
set_option maxRecDepth 100000 in
theorem c_opened (l : Launch) (D : va_G) (cs : ClassId × ClassId × ClassId) (o : Nat) (ad : Nat → Nat) (A : Nat → Prop) (S : mS) (b : Int32)  (h2 : 0 ≤ b ∧ b < 24) (h3 : mInv S) (h4 : gA S 28 b ≠ 5) : Met l yX13_opened (Cond.code yX13_opened cX13_opened 2 none :: tM) ({ frames := 2, cells := 0, slots := 0, locals := 46 }) (va_Pc [.ref o, .int b] (mB D cs o ad A S)) (va_Qv (fun S9 => (stp S S9) ∧ S9 = G_opened S b) (mB D cs o ad A) A) 0 0 A := by
  refine mMet (by decide) rfl (Nat.le_of_ble_eq_true rfl) ?_
  intro p e s m below meth c ls C hml hr hlk V hl
  have hx := C.1
  have hb := C.2.1
  have hown := C.2.2.1
  have hts := C.2.2.2.1
  have hS : va_S A s.heap s.heap [] := va_S.rf
  have hl : lv_has ls 2 [(0, .ref o), (1, .int b)] := hl
  have hG := G_opened.eq_1 S b
  have w0 : stp S S := stp_rf h3
  refine lv_aload_n hx hb dX13_opened_0 rfl (lv_at hl 0 rfl) ?_
  refine mG33 C V dX13_opened_1 ?_
  refine lv_iload_n hx hb dX13_opened_4 rfl (lv_at hl 1 rfl) ?_
  refine mLd33 C V (vin (N := 24) rfl (h2.1) (h2.2)) dX13_opened_5 ?_
  refine lv_if_le (tgt := 40) hx hb dX13_opened_6 (by decide) (fun c1 => ?_) (fun c1 => ?_)
  · replace hG := gIf_p hG c1
    have loop40 : ∀ (N40 : Nat)  (SL40 : mS) (H : Heap) (locs : List Loc) (ls : Array Slot), (stp S SL40) → ((gA SL40 33 b).toInt.toNat) < N40 → (G_opened S b = G_opened_L40 b N40  SL40) → mV D cs o ad A SL40 H → va_S A s.heap H locs → lv_has ls 2 [(0, .ref o), (1, .int b)] → W p l e ({ frames := 2, cells := 0, slots := 0, locals := 46 } : Room) s m ([.ref o, .int b] : List Value).toArray below meth c H locs 0 0 (MQ below (va_Qv (fun S9 => (stp S S9) ∧ S9 = G_opened S b) (mB D cs o ad A) A) ([.ref o, .int b] : List Value).toArray s 0 0 A) (F0 m 40 ls []) := by
      intro N40
      induction N40 with
      | zero => intro  SL40 H locs ls hi40 hm40; exact absurd hm40 (Nat.not_lt_zero _)
      | succ N40 ih40 =>
        intro  SL40 H locs ls hi40 hm40 hG V hS hl
        rw [G_opened_L40] at hG
        have w2 := hi40
        refine lv_aload_n hx hb dX13_opened_40 rfl (lv_at hl 0 rfl) ?_
        refine mG33 C V dX13_opened_41 ?_
        refine lv_iload_n hx hb dX13_opened_44 rfl (lv_at hl 1 rfl) ?_
        refine mLd33 C V (vin (N := 24) rfl (h2.1) (h2.2)) dX13_opened_45 ?_
        refine lv_if_le (tgt := 87) hx hb dX13_opened_46 (by decide) (fun c3 => ?_) (fun c3 => ?_)
        · replace hG := gIf_p hG c3
          exact mRetV C hr hlk V hS (⟨w2, hG.symm⟩) dX13_opened_87
        · replace hG := gIf_n hG c3
          refine lv_aload_n hx hb dX13_opened_49 rfl (lv_at hl 0 rfl) ?_
          refine lv_aload_n hx hb dX13_opened_50 rfl (lv_at hl 0 rfl) ?_
          refine mG32 C V dX13_opened_51 ?_
          refine lv_bipush (v := 8) hx hb dX13_opened_54 (by decide) ?_
          refine lv_iload_n hx hb dX13_opened_56 rfl (lv_at hl 1 rfl) ?_
          refine lv_imul hx hb dX13_opened_57 ?_
          refine mLd32 C V (vin (N := 192) rfl ((a_8b h2).1) ((a_8b h2).2)) dX13_opened_58 ?_
          refine lv_iconst (v := 0) hx hb dX13_opened_59 (by decide) ?_
          refine mGoQ (mRunV (As := [.int (gA SL40 32 (8 * b)), .int 0]) (rest := []) C hml V (c_part l D cs o ad A SL40 (gA SL40 32 (8 * b)) 0  ((row0 h2 w2.1 (i_gt c3)).1) ((row0 h2 w2.1 (i_gt c3)).2) (by clear hG V hS hl C hts hown hx hb hml hr hlk ih40 hm40; decide)) gM_part okM_part ⟨rfl, rfl, Nat.le_of_ble_eq_true rfl, Nat.le_of_ble_eq_true rfl⟩ hl.1 rfl (Nat.le_of_ble_eq_true rfl) dX13_opened_60 ⟨Nat.zero_le _, Nat.zero_le _⟩) hS (fun r5 H locs hq6 V hS => ?_)
          obtain ⟨hq6, ghq6⟩ := hq6
          replace hG := gLt_e hG ghq6
          refine lv_bipush (v := 29) hx hb dX13_opened_63 (by decide) ?_
          refine lv_icmp_ne (tgt := 87) hx hb dX13_opened_65 (by decide) (fun c7 => ?_) (fun c7 => ?_)
          · replace hG := gIf_n hG c7
            exact mRetV C hr hlk V hS (⟨w2, hG.symm⟩) dX13_opened_87
          · replace hG := gIf_p hG c7
            refine lv_aload_n hx hb dX13_opened_68 rfl (lv_at hl 0 rfl) ?_
            refine lv_iload_n hx hb dX13_opened_69 rfl (lv_at hl 1 rfl) ?_
            refine mGoI (mRunV (As := [.int b]) (rest := []) C hml V (c_firstGoesOn l D cs o ad A SL40 b  (h2) (w2.1) ((i_gt c3))) gM_firstGoesOn okM_firstGoesOn ⟨rfl, rfl, Nat.le_of_ble_eq_true rfl, Nat.le_of_ble_eq_true rfl⟩ hl.1 rfl (Nat.le_of_ble_eq_true rfl) dX13_opened_70 ⟨Nat.zero_le _, Nat.zero_le _⟩) hS (fun r9 S8 H locs hq10 V hS => ?_)
            obtain ⟨hq10, ghq10⟩ := hq10
            replace hG := gC_e hG ghq10
            have w11 := stp_tr w2 hq10.1
            refine lv_pop hx hb dX13_opened_73 rfl ?_
            refine lv_aload_n hx hb dX13_opened_74 rfl (lv_at hl 0 rfl) ?_
            refine mG29 C V dX13_opened_75 ?_
            refine lv_iload_n hx hb dX13_opened_78 rfl (lv_at hl 1 rfl) ?_
            refine lv_dup2_11 hx hb dX13_opened_79 rfl rfl ?_
            refine mLd29 C V (vin (N := 24) rfl (h2.1) (h2.2)) dX13_opened_80 ?_
            refine lv_iconst (v := 1) hx hb dX13_opened_81 (by decide) ?_
            refine lv_iadd hx hb dX13_opened_82 ?_
            refine mSt29 C V hS (vin (N := 24) rfl (h2.1) (h2.2)) dX13_opened_83 (fun S12 H locs eS12 V hS => ?_)
            replace hG := gLt_e hG eS12
            have w13 := st_first w11 h4 h2 eS12
            refine lv_goto (tgt := 40) hx hb dX13_opened_84 (by decide) ?_
            exact ih40  S12 _ _ _ (w13) (msd hm40 (by clear hG V hS hl C hts hown hx hb hml hr hlk ih40 hm40; rw [eS12]; simp only [gA_sA, if_neg (show ¬ (33 = 29) by decide)]; exact hq10.2.2.2.1.1) (by clear hG V hS hl C hts hown hx hb hml hr hlk ih40 hm40; rw [eS12]; simp only [gA_sA, if_neg (show ¬ (33 = 29) by decide)]; exact hq10.2.2.2.1.2)) hG V hS (lv_sub hl [0, 1] rfl)
    exact loop40 ((gA S 33 b).toInt.toNat + 1)  S _ _ _ (w0) (Nat.lt_succ_self _) hG V hS (lv_sub hl [0, 1] rfl)
  · replace hG := gIf_n hG c1
    refine lv_aload_n hx hb dX13_opened_9 rfl (lv_at hl 0 rfl) ?_
    refine lv_aload_n hx hb dX13_opened_10 rfl (lv_at hl 0 rfl) ?_
    refine mG32 C V dX13_opened_11 ?_
    refine lv_bipush (v := 8) hx hb dX13_opened_14 (by decide) ?_
    refine lv_iload_n hx hb dX13_opened_16 rfl (lv_at hl 1 rfl) ?_
    refine lv_imul hx hb dX13_opened_17 ?_
    refine mLd32 C V (vin (N := 192) rfl ((a_8b h2).1) ((a_8b h2).2)) dX13_opened_18 ?_
    refine lv_iconst (v := 0) hx hb dX13_opened_19 (by decide) ?_
    refine mGoQ (mRunV (As := [.int (gA S 32 (8 * b)), .int 0]) (rest := []) C hml V (c_part l D cs o ad A S (gA S 32 (8 * b)) 0  ((row0 h2 w0.1 (i_gt c1)).1) ((row0 h2 w0.1 (i_gt c1)).2) (by clear hG V hS hl C hts hown hx hb hml hr hlk; decide)) gM_part okM_part ⟨rfl, rfl, Nat.le_of_ble_eq_true rfl, Nat.le_of_ble_eq_true rfl⟩ hl.1 rfl (Nat.le_of_ble_eq_true rfl) dX13_opened_20 ⟨Nat.zero_le _, Nat.zero_le _⟩) hS (fun r15 H locs hq16 V hS => ?_)
    obtain ⟨hq16, ghq16⟩ := hq16
    replace hG := gLt_e hG ghq16
    refine lv_bipush (v := 31) hx hb dX13_opened_23 (by decide) ?_
    refine lv_icmp_ne (tgt := 40) hx hb dX13_opened_25 (by decide) (fun c17 => ?_) (fun c17 => ?_)
    · replace hG := gIf_n hG c17
      have loop40 : ∀ (N40 : Nat)  (SL40 : mS) (H : Heap) (locs : List Loc) (ls : Array Slot), (stp S SL40) → ((gA SL40 33 b).toInt.toNat) < N40 → (G_opened S b = G_opened_L40 b N40  SL40) → mV D cs o ad A SL40 H → va_S A s.heap H locs → lv_has ls 2 [(0, .ref o), (1, .int b)] → W p l e ({ frames := 2, cells := 0, slots := 0, locals := 46 } : Room) s m ([.ref o, .int b] : List Value).toArray below meth c H locs 0 0 (MQ below (va_Qv (fun S9 => (stp S S9) ∧ S9 = G_opened S b) (mB D cs o ad A) A) ([.ref o, .int b] : List Value).toArray s 0 0 A) (F0 m 40 ls []) := by
        intro N40
        induction N40 with
        | zero => intro  SL40 H locs ls hi40 hm40; exact absurd hm40 (Nat.not_lt_zero _)
        | succ N40 ih40 =>
          intro  SL40 H locs ls hi40 hm40 hG V hS hl
          rw [G_opened_L40] at hG
          have w18 := hi40
          refine lv_aload_n hx hb dX13_opened_40 rfl (lv_at hl 0 rfl) ?_
          refine mG33 C V dX13_opened_41 ?_
          refine lv_iload_n hx hb dX13_opened_44 rfl (lv_at hl 1 rfl) ?_
          refine mLd33 C V (vin (N := 24) rfl (h2.1) (h2.2)) dX13_opened_45 ?_
          refine lv_if_le (tgt := 87) hx hb dX13_opened_46 (by decide) (fun c19 => ?_) (fun c19 => ?_)
          · replace hG := gIf_p hG c19
            exact mRetV C hr hlk V hS (⟨w18, hG.symm⟩) dX13_opened_87
          · replace hG := gIf_n hG c19
            refine lv_aload_n hx hb dX13_opened_49 rfl (lv_at hl 0 rfl) ?_
            refine lv_aload_n hx hb dX13_opened_50 rfl (lv_at hl 0 rfl) ?_
            refine mG32 C V dX13_opened_51 ?_
            refine lv_bipush (v := 8) hx hb dX13_opened_54 (by decide) ?_
            refine lv_iload_n hx hb dX13_opened_56 rfl (lv_at hl 1 rfl) ?_
            refine lv_imul hx hb dX13_opened_57 ?_
            refine mLd32 C V (vin (N := 192) rfl ((a_8b h2).1) ((a_8b h2).2)) dX13_opened_58 ?_
            refine lv_iconst (v := 0) hx hb dX13_opened_59 (by decide) ?_
            refine mGoQ (mRunV (As := [.int (gA SL40 32 (8 * b)), .int 0]) (rest := []) C hml V (c_part l D cs o ad A SL40 (gA SL40 32 (8 * b)) 0  ((row0 h2 w18.1 (i_gt c19)).1) ((row0 h2 w18.1 (i_gt c19)).2) (by clear hG V hS hl C hts hown hx hb hml hr hlk ih40 hm40; decide)) gM_part okM_part ⟨rfl, rfl, Nat.le_of_ble_eq_true rfl, Nat.le_of_ble_eq_true rfl⟩ hl.1 rfl (Nat.le_of_ble_eq_true rfl) dX13_opened_60 ⟨Nat.zero_le _, Nat.zero_le _⟩) hS (fun r21 H locs hq22 V hS => ?_)
            obtain ⟨hq22, ghq22⟩ := hq22
            replace hG := gLt_e hG ghq22
            refine lv_bipush (v := 29) hx hb dX13_opened_63 (by decide) ?_
            refine lv_icmp_ne (tgt := 87) hx hb dX13_opened_65 (by decide) (fun c23 => ?_) (fun c23 => ?_)
            · replace hG := gIf_n hG c23
              exact mRetV C hr hlk V hS (⟨w18, hG.symm⟩) dX13_opened_87
            · replace hG := gIf_p hG c23
              refine lv_aload_n hx hb dX13_opened_68 rfl (lv_at hl 0 rfl) ?_
              refine lv_iload_n hx hb dX13_opened_69 rfl (lv_at hl 1 rfl) ?_
              refine mGoI (mRunV (As := [.int b]) (rest := []) C hml V (c_firstGoesOn l D cs o ad A SL40 b  (h2) (w18.1) ((i_gt c19))) gM_firstGoesOn okM_firstGoesOn ⟨rfl, rfl, Nat.le_of_ble_eq_true rfl, Nat.le_of_ble_eq_true rfl⟩ hl.1 rfl (Nat.le_of_ble_eq_true rfl) dX13_opened_70 ⟨Nat.zero_le _, Nat.zero_le _⟩) hS (fun r25 S24 H locs hq26 V hS => ?_)
              obtain ⟨hq26, ghq26⟩ := hq26
              replace hG := gC_e hG ghq26
              have w27 := stp_tr w18 hq26.1
              refine lv_pop hx hb dX13_opened_73 rfl ?_
              refine lv_aload_n hx hb dX13_opened_74 rfl (lv_at hl 0 rfl) ?_
              refine mG29 C V dX13_opened_75 ?_
              refine lv_iload_n hx hb dX13_opened_78 rfl (lv_at hl 1 rfl) ?_
              refine lv_dup2_11 hx hb dX13_opened_79 rfl rfl ?_
              refine mLd29 C V (vin (N := 24) rfl (h2.1) (h2.2)) dX13_opened_80 ?_
              refine lv_iconst (v := 1) hx hb dX13_opened_81 (by decide) ?_
              refine lv_iadd hx hb dX13_opened_82 ?_
              refine mSt29 C V hS (vin (N := 24) rfl (h2.1) (h2.2)) dX13_opened_83 (fun S28 H locs eS28 V hS => ?_)
              replace hG := gLt_e hG eS28
              have w29 := st_first w27 h4 h2 eS28
              refine lv_goto (tgt := 40) hx hb dX13_opened_84 (by decide) ?_
              exact ih40  S28 _ _ _ (w29) (msd hm40 (by clear hG V hS hl C hts hown hx hb hml hr hlk ih40 hm40; rw [eS28]; simp only [gA_sA, if_neg (show ¬ (33 = 29) by decide)]; exact hq26.2.2.2.1.1) (by clear hG V hS hl C hts hown hx hb hml hr hlk ih40 hm40; rw [eS28]; simp only [gA_sA, if_neg (show ¬ (33 = 29) by decide)]; exact hq26.2.2.2.1.2)) hG V hS (lv_sub hl [0, 1] rfl)
      exact loop40 ((gA S 33 b).toInt.toNat + 1)  S _ _ _ (w0) (Nat.lt_succ_self _) hG V hS (lv_sub hl [0, 1] rfl)
    · replace hG := gIf_p hG c17
      refine lv_aload_n hx hb dX13_opened_28 rfl (lv_at hl 0 rfl) ?_
      refine mG31 C V dX13_opened_29 ?_
      refine lv_iload_n hx hb dX13_opened_32 rfl (lv_at hl 1 rfl) ?_
      refine lv_aload_n hx hb dX13_opened_33 rfl (lv_at hl 0 rfl) ?_
      refine lv_iload_n hx hb dX13_opened_34 rfl (lv_at hl 1 rfl) ?_
      refine mGoI (mRunV (As := [.int b]) (rest := [.int b, .ref (ad 31)]) C hml V (c_firstGoesOn l D cs o ad A S b  (h2) (w0.1) ((i_gt c1))) gM_firstGoesOn okM_firstGoesOn ⟨rfl, rfl, Nat.le_of_ble_eq_true rfl, Nat.le_of_ble_eq_true rfl⟩ hl.1 rfl (Nat.le_of_ble_eq_true rfl) dX13_opened_35 ⟨Nat.zero_le _, Nat.zero_le _⟩) hS (fun r31 S30 H locs hq32 V hS => ?_)
      obtain ⟨hq32, ghq32⟩ := hq32
      replace hG := gC_e hG ghq32
      have w33 := stp_tr w0 hq32.1
      refine mSt31 C V hS (vin (N := 24) rfl (h2.1) (h2.2)) dX13_opened_38 (fun S34 H locs eS34 V hS => ?_)
      replace hG := gLt_e hG eS34
      have w35 := st_owner w33 h2 eS34 (own8 hq32.2.2.1)
      exact mRetV C hr hlk V hS (⟨w35, hG.symm⟩) dX13_opened_39
def G_atGate_J163 (SJ163 : mS) : Int32 × mS := ((1 : Int32), SJ163)
def G_atGate_J117 (t : Int32) (b : Int32) (SJ117 : mS) : Int32 × mS := gC (G_passes SJ117 t b) (fun r4 S3 => ((r4 : Int32), S3))
def G_atGate_J24 (t : Int32) (b : Int32) (SJ24 : mS) : Int32 × mS := gC (G_passes SJ24 t b) (fun r8 S7 => ((r8 : Int32), S7))
def G_atGate (S : mS) (t : Int32) (q : Int32) (b : Int32) : Int32 × mS := if (q : Int32) = 29 then (if 0 ≤ ((gA S 31 b) : Int32) then (G_atGate_J24 t b  S) else (if ((gA S 33 b) : Int32) ≤ 0 then (gLt (sA S 29 b (((gA S 29 b) + 1)) : mS) (fun S40 => G_atGate_J163   S40)) else (G_atGate_J24 t b  S))) else (if (q : Int32) = 30 then (if ((gA S 29 b) : Int32) = 0 then (gC (G_fails S t 3) (fun r36 S35 => ((r36 : Int32), S35))) else (gLt (sA S 29 b (((gA S 29 b) - 1)) : mS) (fun S28 => if ((gA S28 29 b) : Int32) = 0 then (gLt (G_opened S28 b : mS) (fun S31 => G_atGate_J163   S31)) else (G_atGate_J163   S28)))) else (if (q : Int32) = 31 then (if 0 ≤ ((gA S 31 b) : Int32) then (G_atGate_J117 t b  S) else (if ((gA S 29 b) : Int32) ≤ 0 then (gLt (sA S 31 b (t) : mS) (fun S25 => G_atGate_J163   S25)) else (G_atGate_J117 t b  S))) else (if ((gA S 31 b) : Int32) = t then (gLt (sA S 31 b ((-1)) : mS) (fun S14 => gLt (G_opened S14 b : mS) (fun S16 => G_atGate_J163   S16))) else (gC (G_fails S t 1) (fun r21 S20 => ((r21 : Int32), S20))))))
set_option maxHeartbeats 400000 in
set_option maxRecDepth 100000 in
theorem j_atGate_163 {p : Program} {e : Env} {s : State} {m : MethodId} {below : List Frame} {meth : Method} {c : Code} (l : Launch) (D : va_G) (cs : ClassId × ClassId × ClassId) (o : Nat) (ad : Nat → Nat) (A : Nat → Prop) (S : mS) (t : Int32) (q : Int32) (b : Int32)  (h1 : fre S t) (h2 : 0 ≤ b ∧ b < 24) (h3 : mInv S) (h4 : gA S 28 b ≠ 5) (C : mC p s m ([.ref o, .int t, .int q, .int b] : List Value).toArray c cX13_atGate D cs) (hml : c.maxLocals = 4) (hr : meth.sig.returnType = (some .boolean)) (hlk : meth.locks = false)  (SJ163 : mS) (H : Heap) (locs : List Loc) (ls : Array Slot) (hj163 : stp S SJ163) (hG : G_atGate S t q b = G_atGate_J163   SJ163) (V : mV D cs o ad A SJ163 H) (hS : va_S A s.heap H locs) (hl : lv_has ls 4 [(0, .ref o), (1, .int t), (2, .int q), (3, .int b)]) : W p l e ({ frames := 3, cells := 0, slots := 0, locals := 67 } : Room) s m ([.ref o, .int t, .int q, .int b] : List Value).toArray below meth c H locs 0 0 (MQ below (va_Qi (fun r9 S9 => (pas S S9 t r9) ∧ (r9, S9) = G_atGate S t q b) (mB D cs o ad A) A) ([.ref o, .int t, .int q, .int b] : List Value).toArray s 0 0 A) (F0 m 163 ls []) := by
  have hx := C.1
  have hb := C.2.1
  have hown := C.2.2.1
  have hts := C.2.2.2.1
  rw [G_atGate_J163] at hG
  have w1 := hj163
  refine lv_iconst (v := 1) hx hb dX13_atGate_163 (by decide) ?_
  exact mRetZ C hr hlk V hS (by clear hG V hS hl C hts hown hx hb hml hr hlk; first | rfl | exact pz nope9 | exact pz nope9 | (rw [nope9.1]; rfl) | (rw [nope9.1]; rfl)) (⟨pas_1 h1 w1, hG.symm⟩) dX13_atGate_164
set_option maxHeartbeats 400000 in
set_option maxRecDepth 100000 in
theorem j_atGate_117 {p : Program} {e : Env} {s : State} {m : MethodId} {below : List Frame} {meth : Method} {c : Code} (l : Launch) (D : va_G) (cs : ClassId × ClassId × ClassId) (o : Nat) (ad : Nat → Nat) (A : Nat → Prop) (S : mS) (t : Int32) (q : Int32) (b : Int32)  (h1 : fre S t) (h2 : 0 ≤ b ∧ b < 24) (h3 : mInv S) (h4 : gA S 28 b ≠ 5) (C : mC p s m ([.ref o, .int t, .int q, .int b] : List Value).toArray c cX13_atGate D cs) (hml : c.maxLocals = 4) (hr : meth.sig.returnType = (some .boolean)) (hlk : meth.locks = false)  (SJ117 : mS) (H : Heap) (locs : List Loc) (ls : Array Slot) (hj117 : stp S SJ117) (hG : G_atGate S t q b = G_atGate_J117 t b  SJ117) (V : mV D cs o ad A SJ117 H) (hS : va_S A s.heap H locs) (hl : lv_has ls 4 [(0, .ref o), (1, .int t), (2, .int q), (3, .int b)]) : W p l e ({ frames := 3, cells := 0, slots := 0, locals := 67 } : Room) s m ([.ref o, .int t, .int q, .int b] : List Value).toArray below meth c H locs 0 0 (MQ below (va_Qi (fun r9 S9 => (pas S S9 t r9) ∧ (r9, S9) = G_atGate S t q b) (mB D cs o ad A) A) ([.ref o, .int t, .int q, .int b] : List Value).toArray s 0 0 A) (F0 m 117 ls []) := by
  have hx := C.1
  have hb := C.2.1
  have hown := C.2.2.1
  have hts := C.2.2.2.1
  rw [G_atGate_J117] at hG
  have w2 := hj117
  refine lv_aload_n hx hb dX13_atGate_117 rfl (lv_at hl 0 rfl) ?_
  refine lv_iload_n hx hb dX13_atGate_118 rfl (lv_at hl 1 rfl) ?_
  refine lv_iload_n hx hb dX13_atGate_119 rfl (lv_at hl 3 rfl) ?_
  refine mGoI (mRunV (As := [.int t, .int b]) (rest := []) C hml V (c_passes l D cs o ad A SJ117 t b  (fre_stp h1 w2) (h2) (w2.1)) gM_passes okM_passes ⟨rfl, rfl, Nat.le_of_ble_eq_true rfl, Nat.le_of_ble_eq_true rfl⟩ hl.1 rfl (Nat.le_of_ble_eq_true rfl) dX13_atGate_120 ⟨Nat.zero_le _, Nat.zero_le _⟩) hS (fun r4 S3 H locs hq5 V hS => ?_)
  obtain ⟨hq5, ghq5⟩ := hq5
  replace hG := gC_e hG ghq5
  exact mRetZ C hr hlk V hS (by clear hG V hS hl C hts hown hx hb hml hr hlk; first | rfl | exact pz nope9 | exact pz hq5 | (rw [nope9.1]; rfl) | (rw [nope9.1]; rfl)) (⟨pas_tr h1 hj117 hq5, hG.symm⟩) dX13_atGate_123
set_option maxHeartbeats 400000 in
set_option maxRecDepth 100000 in
theorem j_atGate_24 {p : Program} {e : Env} {s : State} {m : MethodId} {below : List Frame} {meth : Method} {c : Code} (l : Launch) (D : va_G) (cs : ClassId × ClassId × ClassId) (o : Nat) (ad : Nat → Nat) (A : Nat → Prop) (S : mS) (t : Int32) (q : Int32) (b : Int32)  (h1 : fre S t) (h2 : 0 ≤ b ∧ b < 24) (h3 : mInv S) (h4 : gA S 28 b ≠ 5) (C : mC p s m ([.ref o, .int t, .int q, .int b] : List Value).toArray c cX13_atGate D cs) (hml : c.maxLocals = 4) (hr : meth.sig.returnType = (some .boolean)) (hlk : meth.locks = false)  (SJ24 : mS) (H : Heap) (locs : List Loc) (ls : Array Slot) (hj24 : stp S SJ24) (hG : G_atGate S t q b = G_atGate_J24 t b  SJ24) (V : mV D cs o ad A SJ24 H) (hS : va_S A s.heap H locs) (hl : lv_has ls 4 [(0, .ref o), (1, .int t), (2, .int q), (3, .int b)]) : W p l e ({ frames := 3, cells := 0, slots := 0, locals := 67 } : Room) s m ([.ref o, .int t, .int q, .int b] : List Value).toArray below meth c H locs 0 0 (MQ below (va_Qi (fun r9 S9 => (pas S S9 t r9) ∧ (r9, S9) = G_atGate S t q b) (mB D cs o ad A) A) ([.ref o, .int t, .int q, .int b] : List Value).toArray s 0 0 A) (F0 m 24 ls []) := by
  have hx := C.1
  have hb := C.2.1
  have hown := C.2.2.1
  have hts := C.2.2.2.1
  rw [G_atGate_J24] at hG
  have w6 := hj24
  refine lv_aload_n hx hb dX13_atGate_24 rfl (lv_at hl 0 rfl) ?_
  refine lv_iload_n hx hb dX13_atGate_25 rfl (lv_at hl 1 rfl) ?_
  refine lv_iload_n hx hb dX13_atGate_26 rfl (lv_at hl 3 rfl) ?_
  refine mGoI (mRunV (As := [.int t, .int b]) (rest := []) C hml V (c_passes l D cs o ad A SJ24 t b  (fre_stp h1 w6) (h2) (w6.1)) gM_passes okM_passes ⟨rfl, rfl, Nat.le_of_ble_eq_true rfl, Nat.le_of_ble_eq_true rfl⟩ hl.1 rfl (Nat.le_of_ble_eq_true rfl) dX13_atGate_27 ⟨Nat.zero_le _, Nat.zero_le _⟩) hS (fun r8 S7 H locs hq9 V hS => ?_)
  obtain ⟨hq9, ghq9⟩ := hq9
  replace hG := gC_e hG ghq9
  exact mRetZ C hr hlk V hS (by clear hG V hS hl C hts hown hx hb hml hr hlk; first | rfl | exact pz hq9 | exact pz nope9 | (rw [nope9.1]; rfl) | (rw [nope9.1]; rfl)) (⟨pas_tr h1 hj24 hq9, hG.symm⟩) dX13_atGate_30
set_option maxHeartbeats 400000 in
set_option maxRecDepth 100000 in
theorem c_atGate (l : Launch) (D : va_G) (cs : ClassId × ClassId × ClassId) (o : Nat) (ad : Nat → Nat) (A : Nat → Prop) (S : mS) (t : Int32) (q : Int32) (b : Int32)  (h1 : fre S t) (h2 : 0 ≤ b ∧ b < 24) (h3 : mInv S) (h4 : gA S 28 b ≠ 5) : Met l yX13_atGate (Cond.code yX13_atGate cX13_atGate 4 (some .boolean) :: tM) ({ frames := 3, cells := 0, slots := 0, locals := 67 }) (va_Pc [.ref o, .int t, .int q, .int b] (mB D cs o ad A S)) (va_Qi (fun r9 S9 => (pas S S9 t r9) ∧ (r9, S9) = G_atGate S t q b) (mB D cs o ad A) A) 0 0 A := by
  refine mMet (by decide) rfl (Nat.le_of_ble_eq_true rfl) ?_
  intro p e s m below meth c ls C hml hr hlk V hl
  have hx := C.1
  have hb := C.2.1
  have hown := C.2.2.1
  have hts := C.2.2.2.1
  have hS : va_S A s.heap s.heap [] := va_S.rf
  have hl : lv_has ls 4 [(0, .ref o), (1, .int t), (2, .int q), (3, .int b)] := hl
  have hG := G_atGate.eq_1 S t q b
  have w0 : stp S S := stp_rf h3
  refine lv_iload_n hx hb dX13_atGate_0 rfl (lv_at hl 2 rfl) ?_
  refine lv_bipush (v := 29) hx hb dX13_atGate_1 (by decide) ?_
  refine lv_icmp_ne (tgt := 44) hx hb dX13_atGate_3 (by decide) (fun c10 => ?_) (fun c10 => ?_)
  · replace hG := gIf_n hG c10
    refine lv_iload_n hx hb dX13_atGate_44 rfl (lv_at hl 2 rfl) ?_
    refine lv_bipush (v := 30) hx hb dX13_atGate_45 (by decide) ?_
    refine lv_icmp_ne (tgt := 93) hx hb dX13_atGate_47 (by decide) (fun c11 => ?_) (fun c11 => ?_)
    · replace hG := gIf_n hG c11
      refine lv_iload_n hx hb dX13_atGate_93 rfl (lv_at hl 2 rfl) ?_
      refine lv_bipush (v := 31) hx hb dX13_atGate_94 (by decide) ?_
      refine lv_icmp_ne (tgt := 134) hx hb dX13_atGate_96 (by decide) (fun c12 => ?_) (fun c12 => ?_)
      · replace hG := gIf_n hG c12
        refine lv_aload_n hx hb dX13_atGate_134 rfl (lv_at hl 0 rfl) ?_
        refine mG31 C V dX13_atGate_135 ?_
        refine lv_iload_n hx hb dX13_atGate_138 rfl (lv_at hl 3 rfl) ?_
        refine mLd31 C V (vin (N := 24) rfl (h2.1) (h2.2)) dX13_atGate_139 ?_
        refine lv_iload_n hx hb dX13_atGate_140 rfl (lv_at hl 1 rfl) ?_
        refine lv_icmp_eq (tgt := 151) hx hb dX13_atGate_141 (by decide) (fun c13 => ?_) (fun c13 => ?_)
        · replace hG := gIf_p hG c13
          refine lv_aload_n hx hb dX13_atGate_151 rfl (lv_at hl 0 rfl) ?_
          refine mG31 C V dX13_atGate_152 ?_
          refine lv_iload_n hx hb dX13_atGate_155 rfl (lv_at hl 3 rfl) ?_
          refine lv_iconst (v := (-1)) hx hb dX13_atGate_156 (by decide) ?_
          refine mSt31 C V hS (vin (N := 24) rfl (h2.1) (h2.2)) dX13_atGate_157 (fun S14 H locs eS14 V hS => ?_)
          replace hG := gLt_e hG eS14
          have w15 := st_owner w0 h2 eS14 (by decide)
          refine lv_aload_n hx hb dX13_atGate_158 rfl (lv_at hl 0 rfl) ?_
          refine lv_iload_n hx hb dX13_atGate_159 rfl (lv_at hl 3 rfl) ?_
          refine mGoV (mRunV (As := [.int b]) (rest := []) C hml V (c_opened l D cs o ad A S14 b  (h2) (w15.1) (by clear hG V hS hl C hts hown hx hb hml hr hlk; rw [w15.2.2.1 28 b (by simp)]; exact h4)) gM_opened okM_opened ⟨rfl, rfl, Nat.le_of_ble_eq_true rfl, Nat.le_of_ble_eq_true rfl⟩ hl.1 rfl (Nat.le_of_ble_eq_true rfl) dX13_atGate_160 ⟨Nat.zero_le _, Nat.zero_le _⟩) hS (fun S16 H locs hq18 V hS => ?_)
          obtain ⟨hq18, ghq18⟩ := hq18
          replace hG := gLt_e hG ghq18
          have w19 := stp_tr w15 hq18
          exact j_atGate_163 l D cs o ad A S t q b h1 h2 h3 h4 C hml hr hlk  S16 _ _ _ (w19) hG V hS (lv_sub hl [0, 1, 2, 3] rfl)
        · replace hG := gIf_n hG c13
          refine lv_aload_n hx hb dX13_atGate_144 rfl (lv_at hl 0 rfl) ?_
          refine lv_iload_n hx hb dX13_atGate_145 rfl (lv_at hl 1 rfl) ?_
          refine lv_iconst (v := 1) hx hb dX13_atGate_146 (by decide) ?_
          refine mGoI (mRunV (As := [.int t, .int 1]) (rest := []) C hml V (c_fails l D cs o ad A S t 1  (h1.1)) gM_fails okM_fails ⟨rfl, rfl, Nat.le_of_ble_eq_true rfl, Nat.le_of_ble_eq_true rfl⟩ hl.1 rfl (Nat.le_of_ble_eq_true rfl) dX13_atGate_147 ⟨Nat.zero_le _, Nat.zero_le _⟩) hS (fun r21 S20 H locs hq22 V hS => ?_)
          obtain ⟨hq22, ghq22⟩ := hq22
          replace hG := gC_e hG ghq22
          exact mRetZ C hr hlk V hS (by clear hG V hS hl C hts hown hx hb hml hr hlk; first | rfl | exact pz nope9 | exact pz nope9 | (rw [nope9.1]; rfl) | (rw [hq22.1]; rfl)) (⟨by clear hG V hS hl C hts hown hx hb hml hr hlk; obtain ⟨q1, q2⟩ := hq22; rw [q1]; exact pas_f h1 w0 q2, hG.symm⟩) dX13_atGate_150
      · replace hG := gIf_p hG c12
        refine lv_aload_n hx hb dX13_atGate_99 rfl (lv_at hl 0 rfl) ?_
        refine mG31 C V dX13_atGate_100 ?_
        refine lv_iload_n hx hb dX13_atGate_103 rfl (lv_at hl 3 rfl) ?_
        refine mLd31 C V (vin (N := 24) rfl (h2.1) (h2.2)) dX13_atGate_104 ?_
        refine lv_if_ge (tgt := 117) hx hb dX13_atGate_105 (by decide) (fun c23 => ?_) (fun c23 => ?_)
        · replace hG := gIf_p hG c23
          exact j_atGate_117 l D cs o ad A S t q b h1 h2 h3 h4 C hml hr hlk  S _ _ _ (w0) hG V hS (lv_sub hl [0, 1, 2, 3] rfl)
        · replace hG := gIf_n hG c23
          refine lv_aload_n hx hb dX13_atGate_108 rfl (lv_at hl 0 rfl) ?_
          refine mG29 C V dX13_atGate_109 ?_
          refine lv_iload_n hx hb dX13_atGate_112 rfl (lv_at hl 3 rfl) ?_
          refine mLd29 C V (vin (N := 24) rfl (h2.1) (h2.2)) dX13_atGate_113 ?_
          refine lv_if_le (tgt := 124) hx hb dX13_atGate_114 (by decide) (fun c24 => ?_) (fun c24 => ?_)
          · replace hG := gIf_p hG c24
            refine lv_aload_n hx hb dX13_atGate_124 rfl (lv_at hl 0 rfl) ?_
            refine mG31 C V dX13_atGate_125 ?_
            refine lv_iload_n hx hb dX13_atGate_128 rfl (lv_at hl 3 rfl) ?_
            refine lv_iload_n hx hb dX13_atGate_129 rfl (lv_at hl 1 rfl) ?_
            refine mSt31 C V hS (vin (N := 24) rfl (h2.1) (h2.2)) dX13_atGate_130 (fun S25 H locs eS25 V hS => ?_)
            replace hG := gLt_e hG eS25
            have w26 := st_owner w0 h2 eS25 (own8 h1.1)
            refine lv_goto (tgt := 163) hx hb dX13_atGate_131 (by decide) ?_
            exact j_atGate_163 l D cs o ad A S t q b h1 h2 h3 h4 C hml hr hlk  S25 _ _ _ (w26) hG V hS (lv_sub hl [0, 1, 2, 3] rfl)
          · replace hG := gIf_n hG c24
            exact j_atGate_117 l D cs o ad A S t q b h1 h2 h3 h4 C hml hr hlk  S _ _ _ (w0) hG V hS (lv_sub hl [0, 1, 2, 3] rfl)
    · replace hG := gIf_p hG c11
      refine lv_aload_n hx hb dX13_atGate_50 rfl (lv_at hl 0 rfl) ?_
      refine mG29 C V dX13_atGate_51 ?_
      refine lv_iload_n hx hb dX13_atGate_54 rfl (lv_at hl 3 rfl) ?_
      refine mLd29 C V (vin (N := 24) rfl (h2.1) (h2.2)) dX13_atGate_55 ?_
      refine lv_if_ne (tgt := 66) hx hb dX13_atGate_56 (by decide) (fun c27 => ?_) (fun c27 => ?_)
      · replace hG := gIf_n hG c27
        refine lv_aload_n hx hb dX13_atGate_66 rfl (lv_at hl 0 rfl) ?_
        refine mG29 C V dX13_atGate_67 ?_
        refine lv_iload_n hx hb dX13_atGate_70 rfl (lv_at hl 3 rfl) ?_
        refine lv_dup2_11 hx hb dX13_atGate_71 rfl rfl ?_
        refine mLd29 C V (vin (N := 24) rfl (h2.1) (h2.2)) dX13_atGate_72 ?_
        refine lv_iconst (v := 1) hx hb dX13_atGate_73 (by decide) ?_
        refine lv_isub hx hb dX13_atGate_74 ?_
        refine mSt29 C V hS (vin (N := 24) rfl (h2.1) (h2.2)) dX13_atGate_75 (fun S28 H locs eS28 V hS => ?_)
        replace hG := gLt_e hG eS28
        have w29 := st_first w0 h4 h2 eS28
        refine lv_aload_n hx hb dX13_atGate_76 rfl (lv_at hl 0 rfl) ?_
        refine mG29 C V dX13_atGate_77 ?_
        refine lv_iload_n hx hb dX13_atGate_80 rfl (lv_at hl 3 rfl) ?_
        refine mLd29 C V (vin (N := 24) rfl (h2.1) (h2.2)) dX13_atGate_81 ?_
        refine lv_if_ne (tgt := 163) hx hb dX13_atGate_82 (by decide) (fun c30 => ?_) (fun c30 => ?_)
        · replace hG := gIf_n hG c30
          exact j_atGate_163 l D cs o ad A S t q b h1 h2 h3 h4 C hml hr hlk  S28 _ _ _ (w29) hG V hS (lv_sub hl [0, 1, 2, 3] rfl)
        · replace hG := gIf_p hG c30
          refine lv_aload_n hx hb dX13_atGate_85 rfl (lv_at hl 0 rfl) ?_
          refine lv_iload_n hx hb dX13_atGate_86 rfl (lv_at hl 3 rfl) ?_
          refine mGoV (mRunV (As := [.int b]) (rest := []) C hml V (c_opened l D cs o ad A S28 b  (h2) (w29.1) (by clear hG V hS hl C hts hown hx hb hml hr hlk; rw [w29.2.2.1 28 b (by simp)]; exact h4)) gM_opened okM_opened ⟨rfl, rfl, Nat.le_of_ble_eq_true rfl, Nat.le_of_ble_eq_true rfl⟩ hl.1 rfl (Nat.le_of_ble_eq_true rfl) dX13_atGate_87 ⟨Nat.zero_le _, Nat.zero_le _⟩) hS (fun S31 H locs hq33 V hS => ?_)
          obtain ⟨hq33, ghq33⟩ := hq33
          replace hG := gLt_e hG ghq33
          have w34 := stp_tr w29 hq33
          refine lv_goto (tgt := 163) hx hb dX13_atGate_90 (by decide) ?_
          exact j_atGate_163 l D cs o ad A S t q b h1 h2 h3 h4 C hml hr hlk  S31 _ _ _ (w34) hG V hS (lv_sub hl [0, 1, 2, 3] rfl)
      · replace hG := gIf_p hG c27
        refine lv_aload_n hx hb dX13_atGate_59 rfl (lv_at hl 0 rfl) ?_
        refine lv_iload_n hx hb dX13_atGate_60 rfl (lv_at hl 1 rfl) ?_
        refine lv_iconst (v := 3) hx hb dX13_atGate_61 (by decide) ?_
        refine mGoI (mRunV (As := [.int t, .int 3]) (rest := []) C hml V (c_fails l D cs o ad A S t 3  (h1.1)) gM_fails okM_fails ⟨rfl, rfl, Nat.le_of_ble_eq_true rfl, Nat.le_of_ble_eq_true rfl⟩ hl.1 rfl (Nat.le_of_ble_eq_true rfl) dX13_atGate_62 ⟨Nat.zero_le _, Nat.zero_le _⟩) hS (fun r36 S35 H locs hq37 V hS => ?_)
        obtain ⟨hq37, ghq37⟩ := hq37
        replace hG := gC_e hG ghq37
        exact mRetZ C hr hlk V hS (by clear hG V hS hl C hts hown hx hb hml hr hlk; first | rfl | exact pz nope9 | exact pz nope9 | (rw [hq37.1]; rfl) | (rw [nope9.1]; rfl)) (⟨by clear hG V hS hl C hts hown hx hb hml hr hlk; obtain ⟨q1, q2⟩ := hq37; rw [q1]; exact pas_f h1 w0 q2, hG.symm⟩) dX13_atGate_65
  · replace hG := gIf_p hG c10
    refine lv_aload_n hx hb dX13_atGate_6 rfl (lv_at hl 0 rfl) ?_
    refine mG31 C V dX13_atGate_7 ?_
    refine lv_iload_n hx hb dX13_atGate_10 rfl (lv_at hl 3 rfl) ?_
    refine mLd31 C V (vin (N := 24) rfl (h2.1) (h2.2)) dX13_atGate_11 ?_
    refine lv_if_ge (tgt := 24) hx hb dX13_atGate_12 (by decide) (fun c38 => ?_) (fun c38 => ?_)
    · replace hG := gIf_p hG c38
      exact j_atGate_24 l D cs o ad A S t q b h1 h2 h3 h4 C hml hr hlk  S _ _ _ (w0) hG V hS (lv_sub hl [0, 1, 2, 3] rfl)
    · replace hG := gIf_n hG c38
      refine lv_aload_n hx hb dX13_atGate_15 rfl (lv_at hl 0 rfl) ?_
      refine mG33 C V dX13_atGate_16 ?_
      refine lv_iload_n hx hb dX13_atGate_19 rfl (lv_at hl 3 rfl) ?_
      refine mLd33 C V (vin (N := 24) rfl (h2.1) (h2.2)) dX13_atGate_20 ?_
      refine lv_if_le (tgt := 31) hx hb dX13_atGate_21 (by decide) (fun c39 => ?_) (fun c39 => ?_)
      · replace hG := gIf_p hG c39
        refine lv_aload_n hx hb dX13_atGate_31 rfl (lv_at hl 0 rfl) ?_
        refine mG29 C V dX13_atGate_32 ?_
        refine lv_iload_n hx hb dX13_atGate_35 rfl (lv_at hl 3 rfl) ?_
        refine lv_dup2_11 hx hb dX13_atGate_36 rfl rfl ?_
        refine mLd29 C V (vin (N := 24) rfl (h2.1) (h2.2)) dX13_atGate_37 ?_
        refine lv_iconst (v := 1) hx hb dX13_atGate_38 (by decide) ?_
        refine lv_iadd hx hb dX13_atGate_39 ?_
        refine mSt29 C V hS (vin (N := 24) rfl (h2.1) (h2.2)) dX13_atGate_40 (fun S40 H locs eS40 V hS => ?_)
        replace hG := gLt_e hG eS40
        have w41 := st_first w0 h4 h2 eS40
        refine lv_goto (tgt := 163) hx hb dX13_atGate_41 (by decide) ?_
        exact j_atGate_163 l D cs o ad A S t q b h1 h2 h3 h4 C hml hr hlk  S40 _ _ _ (w41) hG V hS (lv_sub hl [0, 1, 2, 3] rfl)
      · replace hG := gIf_n hG c39
        exact j_atGate_24 l D cs o ad A S t q b h1 h2 h3 h4 C hml hr hlk  S _ _ _ (w0) hG V hS (lv_sub hl [0, 1, 2, 3] rfl)
def G_atSemaphore_J177 (SJ177 : mS) : Int32 × mS := ((1 : Int32), SJ177)
def G_atSemaphore_J160 (t : Int32) (b : Int32) (j160_s2 : Int32) (SJ160 : mS) : Int32 × mS := gLt (sA SJ160 14 t (j160_s2) : mS) (fun S3 => if ((gA S3 29 b) : Int32) ≤ 0 then (G_atSemaphore_J177   S3) else (gLt (sA S3 29 b (0) : mS) (fun S6 => G_atSemaphore_J177   S6)))
def G_atSemaphore_J34 (t : Int32) (b : Int32) (SJ34 : mS) : Int32 × mS := gC (G_passes SJ34 t b) (fun r10 S9 => ((r10 : Int32), S9))
def G_atSemaphore_L72 (b : Int32) : Nat → mS → Int32 × mS
  | 0, SL72 => ((0 : Int32), SL72)
  | N72 + 1, SL72 => if ((gA SL72 33 b) : Int32) ≤ 0 then (G_atSemaphore_J177   SL72) else (gLt (G_part SL72 (gA SL72 32 (8 * b)) 2 : Int32) (fun r23 => if ((gA SL72 29 b) : Int32) < r23 then (G_atSemaphore_J177   SL72) else (gLt (G_part SL72 (gA SL72 32 (8 * b)) 2 : Int32) (fun r27 => gLt (sA SL72 29 b (((gA SL72 29 b) - r27)) : mS) (fun S29 => gC (G_firstGoesOn S29 b) (fun r32 S31 => G_atSemaphore_L72 b N72  S31))))))
def G_atSemaphore (S : mS) (t : Int32) (q : Int32) (b : Int32) : Int32 × mS := gLt (G_part S t 2 : Int32) (fun r13 => if (q : Int32) = 17 then (if ((gA S 29 b) : Int32) < r13 then (G_atSemaphore_J34 t b  S) else (if ((gA S 33 b) : Int32) ≤ 0 then (gLt (sA S 29 b (((gA S 29 b) - r13)) : mS) (fun S37 => G_atSemaphore_J177   S37)) else (G_atSemaphore_J34 t b  S))) else (if (q : Int32) = 18 then (gLt (sA S 29 b (((gA S 29 b) + r13)) : mS) (fun S18 => G_atSemaphore_L72 b ((gA S18 33 b).toInt.toNat + 1)  S18)) else (if ((gA S 29 b) : Int32) ≤ 0 then (G_atSemaphore_J160 t b 0 S) else (G_atSemaphore_J160 t b (gA S 29 b) S))))
set_option maxHeartbeats 400000 in
set_option maxRecDepth 100000 in
theorem j_atSemaphore_177 {p : Program} {e : Env} {s : State} {m : MethodId} {below : List Frame} {meth : Method} {c : Code} (l : Launch) (D : va_G) (cs : ClassId × ClassId × ClassId) (o : Nat) (ad : Nat → Nat) (A : Nat → Prop) (S : mS) (t : Int32) (q : Int32) (b : Int32)  (h1 : fre S t) (h2 : 0 ≤ b ∧ b < 24) (h3 : mInv S) (h4 : gA S 28 b ≠ 5) (C : mC p s m ([.ref o, .int t, .int q, .int b] : List Value).toArray c cX13_atSemaphore D cs) (hml : c.maxLocals = 5) (hr : meth.sig.returnType = (some .boolean)) (hlk : meth.locks = false)  (SJ177 : mS) (H : Heap) (locs : List Loc) (ls : Array Slot) (hj177 : stp S SJ177) (hG : G_atSemaphore S t q b = G_atSemaphore_J177   SJ177) (V : mV D cs o ad A SJ177 H) (hS : va_S A s.heap H locs) (hl : lv_has ls 5 [(0, .ref o), (1, .int t), (2, .int q), (3, .int b)]) : W p l e ({ frames := 2, cells := 0, slots := 0, locals := 46 } : Room) s m ([.ref o, .int t, .int q, .int b] : List Value).toArray below meth c H locs 0 0 (MQ below (va_Qi (fun r9 S9 => (pas S S9 t r9) ∧ (r9, S9) = G_atSemaphore S t q b) (mB D cs o ad A) A) ([.ref o, .int t, .int q, .int b] : List Value).toArray s 0 0 A) (F0 m 177 ls []) := by
  have hx := C.1
  have hb := C.2.1
  have hown := C.2.2.1
  have hts := C.2.2.2.1
  rw [G_atSemaphore_J177] at hG
  have w1 := hj177
  refine lv_iconst (v := 1) hx hb dX13_atSemaphore_177 (by decide) ?_
  exact mRetZ C hr hlk V hS (by clear hG V hS hl C hts hown hx hb hml hr hlk; first | rfl | exact pz nope9) (⟨pas_1 h1 w1, hG.symm⟩) dX13_atSemaphore_178
set_option maxHeartbeats 400000 in
set_option maxRecDepth 100000 in
theorem j_atSemaphore_160 {p : Program} {e : Env} {s : State} {m : MethodId} {below : List Frame} {meth : Method} {c : Code} (l : Launch) (D : va_G) (cs : ClassId × ClassId × ClassId) (o : Nat) (ad : Nat → Nat) (A : Nat → Prop) (S : mS) (t : Int32) (q : Int32) (b : Int32)  (h1 : fre S t) (h2 : 0 ≤ b ∧ b < 24) (h3 : mInv S) (h4 : gA S 28 b ≠ 5) (C : mC p s m ([.ref o, .int t, .int q, .int b] : List Value).toArray c cX13_atSemaphore D cs) (hml : c.maxLocals = 5) (hr : meth.sig.returnType = (some .boolean)) (hlk : meth.locks = false) (j160_s2 : Int32) (SJ160 : mS) (H : Heap) (locs : List Loc) (ls : Array Slot) (hj160 : stp S SJ160) (hG : G_atSemaphore S t q b = G_atSemaphore_J160 t b j160_s2 SJ160) (V : mV D cs o ad A SJ160 H) (hS : va_S A s.heap H locs) (hl : lv_has ls 5 [(0, .ref o), (1, .int t), (2, .int q), (3, .int b)]) : W p l e ({ frames := 2, cells := 0, slots := 0, locals := 46 } : Room) s m ([.ref o, .int t, .int q, .int b] : List Value).toArray below meth c H locs 0 0 (MQ below (va_Qi (fun r9 S9 => (pas S S9 t r9) ∧ (r9, S9) = G_atSemaphore S t q b) (mB D cs o ad A) A) ([.ref o, .int t, .int q, .int b] : List Value).toArray s 0 0 A) (F0 m 160 ls [.int j160_s2, .int t, .ref (ad 14)]) := by
  have hx := C.1
  have hb := C.2.1
  have hown := C.2.2.1
  have hts := C.2.2.2.1
  rw [G_atSemaphore_J160] at hG
  have w2 := hj160
  refine mSt14 C V hS (vin (N := 8) rfl (h1.1.1) (h1.1.2)) dX13_atSemaphore_160 (fun S3 H locs eS3 V hS => ?_)
  replace hG := gLt_e hG eS3
  have w4 := st_irr w2 eS3 (by simp [smK])
  refine lv_aload_n hx hb dX13_atSemaphore_161 rfl (lv_at hl 0 rfl) ?_
  refine mG29 C V dX13_atSemaphore_162 ?_
  refine lv_iload_n hx hb dX13_atSemaphore_165 rfl (lv_at hl 3 rfl) ?_
  refine mLd29 C V (vin (N := 24) rfl (h2.1) (h2.2)) dX13_atSemaphore_166 ?_
  refine lv_if_le (tgt := 177) hx hb dX13_atSemaphore_167 (by decide) (fun c5 => ?_) (fun c5 => ?_)
  · replace hG := gIf_p hG c5
    exact j_atSemaphore_177 l D cs o ad A S t q b h1 h2 h3 h4 C hml hr hlk  S3 _ _ _ (w4) hG V hS (lv_sub hl [0, 1, 2, 3] rfl)
  · replace hG := gIf_n hG c5
    refine lv_aload_n hx hb dX13_atSemaphore_170 rfl (lv_at hl 0 rfl) ?_
    refine mG29 C V dX13_atSemaphore_171 ?_
    refine lv_iload_n hx hb dX13_atSemaphore_174 rfl (lv_at hl 3 rfl) ?_
    refine lv_iconst (v := 0) hx hb dX13_atSemaphore_175 (by decide) ?_
    refine mSt29 C V hS (vin (N := 24) rfl (h2.1) (h2.2)) dX13_atSemaphore_176 (fun S6 H locs eS6 V hS => ?_)
    replace hG := gLt_e hG eS6
    have w7 := st_first w4 h4 h2 eS6
    exact j_atSemaphore_177 l D cs o ad A S t q b h1 h2 h3 h4 C hml hr hlk  S6 _ _ _ (w7) hG V hS (lv_sub hl [0, 1, 2, 3] rfl)
set_option maxHeartbeats 400000 in
set_option maxRecDepth 100000 in
theorem j_atSemaphore_34 {p : Program} {e : Env} {s : State} {m : MethodId} {below : List Frame} {meth : Method} {c : Code} (l : Launch) (D : va_G) (cs : ClassId × ClassId × ClassId) (o : Nat) (ad : Nat → Nat) (A : Nat → Prop) (S : mS) (t : Int32) (q : Int32) (b : Int32)  (h1 : fre S t) (h2 : 0 ≤ b ∧ b < 24) (h3 : mInv S) (h4 : gA S 28 b ≠ 5) (C : mC p s m ([.ref o, .int t, .int q, .int b] : List Value).toArray c cX13_atSemaphore D cs) (hml : c.maxLocals = 5) (hr : meth.sig.returnType = (some .boolean)) (hlk : meth.locks = false)  (SJ34 : mS) (H : Heap) (locs : List Loc) (ls : Array Slot) (hj34 : stp S SJ34) (hG : G_atSemaphore S t q b = G_atSemaphore_J34 t b  SJ34) (V : mV D cs o ad A SJ34 H) (hS : va_S A s.heap H locs) (hl : lv_has ls 5 [(0, .ref o), (1, .int t), (2, .int q), (3, .int b)]) : W p l e ({ frames := 2, cells := 0, slots := 0, locals := 46 } : Room) s m ([.ref o, .int t, .int q, .int b] : List Value).toArray below meth c H locs 0 0 (MQ below (va_Qi (fun r9 S9 => (pas S S9 t r9) ∧ (r9, S9) = G_atSemaphore S t q b) (mB D cs o ad A) A) ([.ref o, .int t, .int q, .int b] : List Value).toArray s 0 0 A) (F0 m 34 ls []) := by
  have hx := C.1
  have hb := C.2.1
  have hown := C.2.2.1
  have hts := C.2.2.2.1
  rw [G_atSemaphore_J34] at hG
  have w8 := hj34
  refine lv_aload_n hx hb dX13_atSemaphore_34 rfl (lv_at hl 0 rfl) ?_
  refine lv_iload_n hx hb dX13_atSemaphore_35 rfl (lv_at hl 1 rfl) ?_
  refine lv_iload_n hx hb dX13_atSemaphore_36 rfl (lv_at hl 3 rfl) ?_
  refine mGoI (mRunV (As := [.int t, .int b]) (rest := []) C hml V (c_passes l D cs o ad A SJ34 t b  (fre_stp h1 w8) (h2) (w8.1)) gM_passes okM_passes ⟨rfl, rfl, Nat.le_of_ble_eq_true rfl, Nat.le_of_ble_eq_true rfl⟩ hl.1 rfl (Nat.le_of_ble_eq_true rfl) dX13_atSemaphore_37 ⟨Nat.zero_le _, Nat.zero_le _⟩) hS (fun r10 S9 H locs hq11 V hS => ?_)
  obtain ⟨hq11, ghq11⟩ := hq11
  replace hG := gC_e hG ghq11
  exact mRetZ C hr hlk V hS (by clear hG V hS hl C hts hown hx hb hml hr hlk; first | rfl | exact pz hq11) (⟨pas_tr h1 hj34 hq11, hG.symm⟩) dX13_atSemaphore_40
set_option maxHeartbeats 400000 in
set_option maxRecDepth 100000 in
theorem c_atSemaphore (l : Launch) (D : va_G) (cs : ClassId × ClassId × ClassId) (o : Nat) (ad : Nat → Nat) (A : Nat → Prop) (S : mS) (t : Int32) (q : Int32) (b : Int32)  (h1 : fre S t) (h2 : 0 ≤ b ∧ b < 24) (h3 : mInv S) (h4 : gA S 28 b ≠ 5) : Met l yX13_atSemaphore (Cond.code yX13_atSemaphore cX13_atSemaphore 5 (some .boolean) :: tM) ({ frames := 2, cells := 0, slots := 0, locals := 46 }) (va_Pc [.ref o, .int t, .int q, .int b] (mB D cs o ad A S)) (va_Qi (fun r9 S9 => (pas S S9 t r9) ∧ (r9, S9) = G_atSemaphore S t q b) (mB D cs o ad A) A) 0 0 A := by
  refine mMet (by decide) rfl (Nat.le_of_ble_eq_true rfl) ?_
  intro p e s m below meth c ls C hml hr hlk V hl
  have hx := C.1
  have hb := C.2.1
  have hown := C.2.2.1
  have hts := C.2.2.2.1
  have hS : va_S A s.heap s.heap [] := va_S.rf
  have hl : lv_has ls 5 [(0, .ref o), (1, .int t), (2, .int q), (3, .int b)] := hl
  have hG := G_atSemaphore.eq_1 S t q b
  have w0 : stp S S := stp_rf h3
  refine lv_aload_n hx hb dX13_atSemaphore_0 rfl (lv_at hl 0 rfl) ?_
  refine lv_iload_n hx hb dX13_atSemaphore_1 rfl (lv_at hl 1 rfl) ?_
  refine lv_iconst (v := 2) hx hb dX13_atSemaphore_2 (by decide) ?_
  refine mGoQ (mRunV (As := [.int t, .int 2]) (rest := []) C hml V (c_part l D cs o ad A S t 2  (h1.1) (at60 h1 w0) (by clear hG V hS hl C hts hown hx hb hml hr hlk; decide)) gM_part okM_part ⟨rfl, rfl, Nat.le_of_ble_eq_true rfl, Nat.le_of_ble_eq_true rfl⟩ hl.1 rfl (Nat.le_of_ble_eq_true rfl) dX13_atSemaphore_3 ⟨Nat.zero_le _, Nat.zero_le _⟩) hS (fun r13 H locs hq14 V hS => ?_)
  obtain ⟨hq14, ghq14⟩ := hq14
  replace hG := gLt_e hG ghq14
  refine lv_istore (lv' := [(4, .int r13), (0, .ref o), (1, .int t), (2, .int q), (3, .int b)]) hx hb dX13_atSemaphore_6 hl (by decide) rfl (fun ls hl => ?_)
  refine lv_iload_n hx hb dX13_atSemaphore_8 rfl (lv_at hl 3 rfl) ?_
  refine lv_bipush (v := 17) hx hb dX13_atSemaphore_9 (by decide) ?_
  refine lv_icmp_ne (tgt := 55) hx hb dX13_atSemaphore_11 (by decide) (fun c15 => ?_) (fun c15 => ?_)
  · replace hG := gIf_n hG c15
    refine lv_iload_n hx hb dX13_atSemaphore_55 rfl (lv_at hl 3 rfl) ?_
    refine lv_bipush (v := 18) hx hb dX13_atSemaphore_56 (by decide) ?_
    refine lv_icmp_ne (tgt := 136) hx hb dX13_atSemaphore_58 (by decide) (fun c16 => ?_) (fun c16 => ?_)
    · replace hG := gIf_n hG c16
      refine lv_aload_n hx hb dX13_atSemaphore_136 rfl (lv_at hl 1 rfl) ?_
      refine mG14 C V dX13_atSemaphore_137 ?_
      refine lv_iload_n hx hb dX13_atSemaphore_140 rfl (lv_at hl 2 rfl) ?_
      refine lv_aload_n hx hb dX13_atSemaphore_141 rfl (lv_at hl 1 rfl) ?_
      refine mG29 C V dX13_atSemaphore_142 ?_
      refine lv_iload_n hx hb dX13_atSemaphore_145 rfl (lv_at hl 4 rfl) ?_
      refine mLd29 C V (vin (N := 24) rfl (h2.1) (h2.2)) dX13_atSemaphore_146 ?_
      refine lv_if_le (tgt := 159) hx hb dX13_atSemaphore_147 (by decide) (fun c17 => ?_) (fun c17 => ?_)
      · replace hG := gIf_p hG c17
        refine lv_iconst (v := 0) hx hb dX13_atSemaphore_159 (by decide) ?_
        exact j_atSemaphore_160 l D cs o ad A S t q b h1 h2 h3 h4 C hml hr hlk 0 S _ _ _ (w0) hG V hS (lv_sub hl [1, 2, 3, 4] rfl)
      · replace hG := gIf_n hG c17
        refine lv_aload_n hx hb dX13_atSemaphore_150 rfl (lv_at hl 1 rfl) ?_
        refine mG29 C V dX13_atSemaphore_151 ?_
        refine lv_iload_n hx hb dX13_atSemaphore_154 rfl (lv_at hl 4 rfl) ?_
        refine mLd29 C V (vin (N := 24) rfl (h2.1) (h2.2)) dX13_atSemaphore_155 ?_
        refine lv_goto (tgt := 160) hx hb dX13_atSemaphore_156 (by decide) ?_
        exact j_atSemaphore_160 l D cs o ad A S t q b h1 h2 h3 h4 C hml hr hlk (gA S 29 b) S _ _ _ (w0) hG V hS (lv_sub hl [1, 2, 3, 4] rfl)
    · replace hG := gIf_p hG c16
      refine lv_aload_n hx hb dX13_atSemaphore_61 rfl (lv_at hl 1 rfl) ?_
      refine mG29 C V dX13_atSemaphore_62 ?_
      refine lv_iload_n hx hb dX13_atSemaphore_65 rfl (lv_at hl 4 rfl) ?_
      refine lv_dup2_11 hx hb dX13_atSemaphore_66 rfl rfl ?_
      refine mLd29 C V (vin (N := 24) rfl (h2.1) (h2.2)) dX13_atSemaphore_67 ?_
      refine lv_iload hx hb dX13_atSemaphore_68 (lv_at hl 0 rfl) ?_
      refine lv_iadd hx hb dX13_atSemaphore_70 ?_
      refine mSt29 C V hS (vin (N := 24) rfl (h2.1) (h2.2)) dX13_atSemaphore_71 (fun S18 H locs eS18 V hS => ?_)
      replace hG := gLt_e hG eS18
      have w19 := st_first w0 h4 h2 eS18
      have loop72 : ∀ (N72 : Nat)  (SL72 : mS) (H : Heap) (locs : List Loc) (ls : Array Slot), (stp S SL72) → ((gA SL72 33 b).toInt.toNat) < N72 → (G_atSemaphore S t q b = G_atSemaphore_L72 b N72  SL72) → mV D cs o ad A SL72 H → va_S A s.heap H locs → lv_has ls 5 [(0, .ref o), (1, .int t), (2, .int q), (3, .int b)] → W p l e ({ frames := 2, cells := 0, slots := 0, locals := 46 } : Room) s m ([.ref o, .int t, .int q, .int b] : List Value).toArray below meth c H locs 0 0 (MQ below (va_Qi (fun r9 S9 => (pas S S9 t r9) ∧ (r9, S9) = G_atSemaphore S t q b) (mB D cs o ad A) A) ([.ref o, .int t, .int q, .int b] : List Value).toArray s 0 0 A) (F0 m 72 ls []) := by
        intro N72
        induction N72 with
        | zero => intro  SL72 H locs ls hi72 hm72; exact absurd hm72 (Nat.not_lt_zero _)
        | succ N72 ih72 =>
          intro  SL72 H locs ls hi72 hm72 hG V hS hl
          rw [G_atSemaphore_L72] at hG
          have w20 := hi72
          refine lv_aload_n hx hb dX13_atSemaphore_72 rfl (lv_at hl 0 rfl) ?_
          refine mG33 C V dX13_atSemaphore_73 ?_
          refine lv_iload_n hx hb dX13_atSemaphore_76 rfl (lv_at hl 3 rfl) ?_
          refine mLd33 C V (vin (N := 24) rfl (h2.1) (h2.2)) dX13_atSemaphore_77 ?_
          refine lv_if_le (tgt := 177) hx hb dX13_atSemaphore_78 (by decide) (fun c21 => ?_) (fun c21 => ?_)
          · replace hG := gIf_p hG c21
            exact j_atSemaphore_177 l D cs o ad A S t q b h1 h2 h3 h4 C hml hr hlk  SL72 _ _ _ (w20) hG V hS (lv_sub hl [0, 1, 2, 3] rfl)
          · replace hG := gIf_n hG c21
            refine lv_aload_n hx hb dX13_atSemaphore_81 rfl (lv_at hl 0 rfl) ?_
            refine mG29 C V dX13_atSemaphore_82 ?_
            refine lv_iload_n hx hb dX13_atSemaphore_85 rfl (lv_at hl 3 rfl) ?_
            refine mLd29 C V (vin (N := 24) rfl (h2.1) (h2.2)) dX13_atSemaphore_86 ?_
            refine lv_aload_n hx hb dX13_atSemaphore_87 rfl (lv_at hl 0 rfl) ?_
            refine lv_aload_n hx hb dX13_atSemaphore_88 rfl (lv_at hl 0 rfl) ?_
            refine mG32 C V dX13_atSemaphore_89 ?_
            refine lv_bipush (v := 8) hx hb dX13_atSemaphore_92 (by decide) ?_
            refine lv_iload_n hx hb dX13_atSemaphore_94 rfl (lv_at hl 3 rfl) ?_
            refine lv_imul hx hb dX13_atSemaphore_95 ?_
            refine mLd32 C V (vin (N := 192) rfl ((a_8b h2).1) ((a_8b h2).2)) dX13_atSemaphore_96 ?_
            refine lv_iconst (v := 2) hx hb dX13_atSemaphore_97 (by decide) ?_
            refine mGoQ (mRunV (As := [.int (gA SL72 32 (8 * b)), .int 2]) (rest := [.int (gA SL72 29 b)]) C hml V (c_part l D cs o ad A SL72 (gA SL72 32 (8 * b)) 2  ((row0 h2 w20.1 (i_gt c21)).1) ((row0 h2 w20.1 (i_gt c21)).2) (by clear hG V hS hl C hts hown hx hb hml hr hlk ih72 hm72; decide)) gM_part okM_part ⟨rfl, rfl, Nat.le_of_ble_eq_true rfl, Nat.le_of_ble_eq_true rfl⟩ hl.1 rfl (Nat.le_of_ble_eq_true rfl) dX13_atSemaphore_98 ⟨Nat.zero_le _, Nat.zero_le _⟩) hS (fun r23 H locs hq24 V hS => ?_)
            obtain ⟨hq24, ghq24⟩ := hq24
            replace hG := gLt_e hG ghq24
            refine lv_icmp_lt (tgt := 177) hx hb dX13_atSemaphore_101 (by decide) (fun c25 => ?_) (fun c25 => ?_)
            · replace hG := gIf_p hG c25
              exact j_atSemaphore_177 l D cs o ad A S t q b h1 h2 h3 h4 C hml hr hlk  SL72 _ _ _ (w20) hG V hS (lv_sub hl [0, 1, 2, 3] rfl)
            · replace hG := gIf_n hG c25
              refine lv_aload_n hx hb dX13_atSemaphore_104 rfl (lv_at hl 0 rfl) ?_
              refine mG29 C V dX13_atSemaphore_105 ?_
              refine lv_iload_n hx hb dX13_atSemaphore_108 rfl (lv_at hl 3 rfl) ?_
              refine lv_dup2_11 hx hb dX13_atSemaphore_109 rfl rfl ?_
              refine mLd29 C V (vin (N := 24) rfl (h2.1) (h2.2)) dX13_atSemaphore_110 ?_
              refine lv_aload_n hx hb dX13_atSemaphore_111 rfl (lv_at hl 0 rfl) ?_
              refine lv_aload_n hx hb dX13_atSemaphore_112 rfl (lv_at hl 0 rfl) ?_
              refine mG32 C V dX13_atSemaphore_113 ?_
              refine lv_bipush (v := 8) hx hb dX13_atSemaphore_116 (by decide) ?_
              refine lv_iload_n hx hb dX13_atSemaphore_118 rfl (lv_at hl 3 rfl) ?_
              refine lv_imul hx hb dX13_atSemaphore_119 ?_
              refine mLd32 C V (vin (N := 192) rfl ((a_8b h2).1) ((a_8b h2).2)) dX13_atSemaphore_120 ?_
              refine lv_iconst (v := 2) hx hb dX13_atSemaphore_121 (by decide) ?_
              refine mGoQ (mRunV (As := [.int (gA SL72 32 (8 * b)), .int 2]) (rest := [.int (gA SL72 29 b), .int b, .ref (ad 29)]) C hml V (c_part l D cs o ad A SL72 (gA SL72 32 (8 * b)) 2  ((row0 h2 w20.1 (i_gt c21)).1) ((row0 h2 w20.1 (i_gt c21)).2) (by clear hG V hS hl C hts hown hx hb hml hr hlk ih72 hm72; decide)) gM_part okM_part ⟨rfl, rfl, Nat.le_of_ble_eq_true rfl, Nat.le_of_ble_eq_true rfl⟩ hl.1 rfl (Nat.le_of_ble_eq_true rfl) dX13_atSemaphore_122 ⟨Nat.zero_le _, Nat.zero_le _⟩) hS (fun r27 H locs hq28 V hS => ?_)
              obtain ⟨hq28, ghq28⟩ := hq28
              replace hG := gLt_e hG ghq28
              refine lv_isub hx hb dX13_atSemaphore_125 ?_
              refine mSt29 C V hS (vin (N := 24) rfl (h2.1) (h2.2)) dX13_atSemaphore_126 (fun S29 H locs eS29 V hS => ?_)
              replace hG := gLt_e hG eS29
              have w30 := st_first w20 h4 h2 eS29
              refine lv_aload_n hx hb dX13_atSemaphore_127 rfl (lv_at hl 0 rfl) ?_
              refine lv_iload_n hx hb dX13_atSemaphore_128 rfl (lv_at hl 3 rfl) ?_
              refine mGoI (mRunV (As := [.int b]) (rest := []) C hml V (c_firstGoesOn l D cs o ad A S29 b  (h2) (w30.1) (by clear hG V hS hl C hts hown hx hb hml hr hlk ih72 hm72; rw [eS29]; simp only [gA_sA, if_neg (show ¬ (33 = 29) by decide)]; exact i_gt c21)) gM_firstGoesOn okM_firstGoesOn ⟨rfl, rfl, Nat.le_of_ble_eq_true rfl, Nat.le_of_ble_eq_true rfl⟩ hl.1 rfl (Nat.le_of_ble_eq_true rfl) dX13_atSemaphore_129 ⟨Nat.zero_le _, Nat.zero_le _⟩) hS (fun r32 S31 H locs hq33 V hS => ?_)
              obtain ⟨hq33, ghq33⟩ := hq33
              replace hG := gC_e hG ghq33
              have w34 := stp_tr w30 hq33.1
              refine lv_pop hx hb dX13_atSemaphore_132 rfl ?_
              refine lv_goto (tgt := 72) hx hb dX13_atSemaphore_133 (by decide) ?_
              exact ih72  S31 _ _ _ (w34) (msd hm72 hq33.2.2.2.1.1 (by clear hG V hS hl C hts hown hx hb hml hr hlk ih72 hm72; have q9 := hq33.2.2.2.1.2; rw [eS29] at q9; simp only [gA_sA, if_neg (show ¬ (33 = 29) by decide)] at q9; exact q9)) hG V hS (lv_sub hl [0, 1, 2, 3] rfl)
      exact loop72 ((gA S18 33 b).toInt.toNat + 1)  S18 _ _ _ (w19) (Nat.lt_succ_self _) hG V hS (lv_sub hl [1, 2, 3, 4] rfl)
  · replace hG := gIf_p hG c15
    refine lv_aload_n hx hb dX13_atSemaphore_14 rfl (lv_at hl 1 rfl) ?_
    refine mG29 C V dX13_atSemaphore_15 ?_
    refine lv_iload_n hx hb dX13_atSemaphore_18 rfl (lv_at hl 4 rfl) ?_
    refine mLd29 C V (vin (N := 24) rfl (h2.1) (h2.2)) dX13_atSemaphore_19 ?_
    refine lv_iload hx hb dX13_atSemaphore_20 (lv_at hl 0 rfl) ?_
    refine lv_icmp_lt (tgt := 34) hx hb dX13_atSemaphore_22 (by decide) (fun c35 => ?_) (fun c35 => ?_)
    · replace hG := gIf_p hG c35
      exact j_atSemaphore_34 l D cs o ad A S t q b h1 h2 h3 h4 C hml hr hlk  S _ _ _ (w0) hG V hS (lv_sub hl [1, 2, 3, 4] rfl)
    · replace hG := gIf_n hG c35
      refine lv_aload_n hx hb dX13_atSemaphore_25 rfl (lv_at hl 1 rfl) ?_
      refine mG33 C V dX13_atSemaphore_26 ?_
      refine lv_iload_n hx hb dX13_atSemaphore_29 rfl (lv_at hl 4 rfl) ?_
      refine mLd33 C V (vin (N := 24) rfl (h2.1) (h2.2)) dX13_atSemaphore_30 ?_
      refine lv_if_le (tgt := 41) hx hb dX13_atSemaphore_31 (by decide) (fun c36 => ?_) (fun c36 => ?_)
      · replace hG := gIf_p hG c36
        refine lv_aload_n hx hb dX13_atSemaphore_41 rfl (lv_at hl 1 rfl) ?_
        refine mG29 C V dX13_atSemaphore_42 ?_
        refine lv_iload_n hx hb dX13_atSemaphore_45 rfl (lv_at hl 4 rfl) ?_
        refine lv_dup2_11 hx hb dX13_atSemaphore_46 rfl rfl ?_
        refine mLd29 C V (vin (N := 24) rfl (h2.1) (h2.2)) dX13_atSemaphore_47 ?_
        refine lv_iload hx hb dX13_atSemaphore_48 (lv_at hl 0 rfl) ?_
        refine lv_isub hx hb dX13_atSemaphore_50 ?_
        refine mSt29 C V hS (vin (N := 24) rfl (h2.1) (h2.2)) dX13_atSemaphore_51 (fun S37 H locs eS37 V hS => ?_)
        replace hG := gLt_e hG eS37
        have w38 := st_first w0 h4 h2 eS37
        refine lv_goto (tgt := 177) hx hb dX13_atSemaphore_52 (by decide) ?_
        exact j_atSemaphore_177 l D cs o ad A S t q b h1 h2 h3 h4 C hml hr hlk  S37 _ _ _ (w38) hG V hS (lv_sub hl [1, 2, 3, 4] rfl)
      · replace hG := gIf_n hG c36
        exact j_atSemaphore_34 l D cs o ad A S t q b h1 h2 h3 h4 C hml hr hlk  S _ _ _ (w0) hG V hS (lv_sub hl [1, 2, 3, 4] rfl)

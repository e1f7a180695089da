def G_firstGoesOn (S : mS) (b : Int32) : Int32 × mS := gLt ((gA S 32 (8 * b)) : Int32) (fun x1 => gLt (G_leaves S b x1 : mS) (fun S2 => gLt (G_goesOn S2 x1 : mS) (fun S5 => ((x1 : Int32), S5))))
set_option maxHeartbeats 400000 in
set_option maxRecDepth 100000 in
theorem c_firstGoesOn (l : Launch) (D : va_G) (cs : ClassId × ClassId × ClassId) (o : Nat) (ad : Nat → Nat) (A : Nat → Prop) (S : mS) (b : Int32)  (h1 : 0 ≤ b ∧ b < 24) (h2 : mInv S) (h3 : 0 < gA S 33 b) : Met l yX13_firstGoesOn (Cond.code yX13_firstGoesOn cX13_firstGoesOn 3 (some .int) :: tM) ({ frames := 1, cells := 0, slots := 0, locals := 24 }) (va_Pc [.ref o, .int b] (mB D cs o ad A S)) (va_Qi (fun r9 S9 => (stp S S9 ∧ r9 = gA S 32 (8 * b) ∧ (0 ≤ r9 ∧ r9 < 8) ∧ (0 ≤ gA S9 33 b ∧ gA S9 33 b < gA S 33 b) ∧ (∀ k i, k ≠ 13 → k ≠ 15 → k ≠ 16 → k ≠ 32 → k ≠ 33 → gA S9 k i = gA S k i)) ∧ (r9, S9) = G_firstGoesOn S b) (mB D cs o ad A) A) 0 0 A := by
  refine mMet (by decide) rfl (Nat.le_of_ble_eq_true rfl) ?_
  intro p e s m below meth c ls C hml hr hlk V hl
  have hx := C.1
  have hb := C.2.1
  have hown := C.2.2.1
  have hts := C.2.2.2.1
  have hS : va_S A s.heap s.heap [] := va_S.rf
  have hl : lv_has ls 3 [(0, .ref o), (1, .int b)] := hl
  have hG := G_firstGoesOn.eq_1 S b
  refine lv_aload_n hx hb dX13_firstGoesOn_0 rfl (lv_at hl 0 rfl) ?_
  refine mG32 C V dX13_firstGoesOn_1 ?_
  refine lv_bipush (v := 8) hx hb dX13_firstGoesOn_4 (by decide) ?_
  refine lv_iload_n hx hb dX13_firstGoesOn_6 rfl (lv_at hl 1 rfl) ?_
  refine lv_imul hx hb dX13_firstGoesOn_7 ?_
  refine mLd32 C V (vin (N := 192) rfl (by clear hG V hS hl C hts hown hx hb hml hr hlk; clear h2; grind) (by clear hG V hS hl C hts hown hx hb hml hr hlk; clear h2; grind)) dX13_firstGoesOn_8 ?_
  refine lv_topi (fun x1 ex1 => ?_)
  replace hG := gLt_e hG ex1
  refine lv_istore_n (lv' := [(2, .int x1), (0, .ref o), (1, .int b)]) hx hb dX13_firstGoesOn_9 rfl hl (by decide) rfl (fun ls hl => ?_)
  have hin : ∃ i, 0 ≤ i ∧ i < gA S 33 b ∧ gA S 32 (8 * b + i) = x1 := ⟨0, by decide, h3, by rw [ex1, Int32.add_zero]⟩
  refine lv_aload_n hx hb dX13_firstGoesOn_10 rfl (lv_at hl 1 rfl) ?_
  refine lv_iload_n hx hb dX13_firstGoesOn_11 rfl (lv_at hl 2 rfl) ?_
  refine lv_iload_n hx hb dX13_firstGoesOn_12 rfl (lv_at hl 0 rfl) ?_
  refine mGoV (mRunV (As := [.int b, .int x1]) (rest := []) C hml V (c_leaves l D cs o ad A S b x1  (h1) (pre_lv h1 h2) (rd_lv h1 h2)) gM_leaves okM_leaves ⟨rfl, rfl, Nat.le_of_ble_eq_true rfl, Nat.le_of_ble_eq_true rfl⟩ hl.1 rfl (Nat.le_of_ble_eq_true rfl) dX13_firstGoesOn_13 ⟨Nat.zero_le _, Nat.zero_le _⟩) hS (fun S2 H locs hq4 V hS => ?_)
  obtain ⟨hq4, ghq4⟩ := hq4
  replace hG := gLt_e hG ghq4
  refine lv_aload_n hx hb dX13_firstGoesOn_16 rfl (lv_at hl 1 rfl) ?_
  refine lv_iload_n hx hb dX13_firstGoesOn_17 rfl (lv_at hl 0 rfl) ?_
  refine mGoV (mRunV (As := [.int x1]) (rest := []) C hml V (c_goesOn l D cs o ad A S2 x1  ((in_row h1 h2 hin).1)) gM_goesOn okM_goesOn ⟨rfl, rfl, Nat.le_of_ble_eq_true rfl, Nat.le_of_ble_eq_true rfl⟩ hl.1 rfl (Nat.le_of_ble_eq_true rfl) dX13_firstGoesOn_18 ⟨Nat.zero_le _, Nat.zero_le _⟩) hS (fun S5 H locs hq7 V hS => ?_)
  obtain ⟨hq7, ghq7⟩ := hq7
  replace hG := gLt_e hG ghq7
  refine lv_iload_n hx hb dX13_firstGoesOn_21 rfl (lv_at hl 0 rfl) ?_
  exact mRetI C hr hlk V hS (⟨by clear hG V hS hl C hts hown hx hb hml hr hlk; obtain ⟨q1, q2, q3⟩ := lg_inv h1 h2 hin hq4 hq7; exact ⟨q1, ex1, (in_row h1 h2 hin).1, q2, q3⟩, hG.symm⟩) dX13_firstGoesOn_22
def G_has_J60 (b : Int32) (t : Int32) (SJ60 : mS) : mS := gLt (G_leaves SJ60 b t : mS) (fun S1 => gLt (G_goesOn S1 t : mS) (fun S4 => S4))
def G_has (S : mS) (b : Int32) (t : Int32) : mS := gLt (sA S 31 b (t) : mS) (fun S7 => if ((gA S7 22 t) : Int32) = 0 then (gLt (sA S7 29 b (1) : mS) (fun S9 => if ((gA S9 22 t) : Int32) = 0 then (gLt (sA S9 22 t (vp_nar .boolean 0) : mS) (fun S11 => G_has_J60 b t  S11)) else (gLt (sA S9 14 t ((gA S9 19 t)) : mS) (fun S12 => gLt (sA S12 22 t (vp_nar .boolean 0) : mS) (fun S13 => G_has_J60 b t  S13))))) else (gLt (sA S7 29 b ((gA S7 18 t)) : mS) (fun S14 => if ((gA S14 22 t) : Int32) = 0 then (gLt (sA S14 22 t (vp_nar .boolean 0) : mS) (fun S16 => G_has_J60 b t  S16)) else (gLt (sA S14 14 t ((gA S14 19 t)) : mS) (fun S17 => gLt (sA S17 22 t (vp_nar .boolean 0) : mS) (fun S18 => G_has_J60 b t  S18))))))
set_option maxHeartbeats 400000 in
set_option maxRecDepth 100000 in
theorem j_has_60 {p : Program} {e : Env} {s : State} {m : MethodId} {below : List Frame} {meth : Method} {c : Code} (l : Launch) (D : va_G) (cs : ClassId × ClassId × ClassId) (o : Nat) (ad : Nat → Nat) (A : Nat → Prop) (S : mS) (b : Int32) (t : Int32)  (h1 : 0 ≤ b ∧ b < 24) (h2 : mInv S) (h3 : gA S 28 b = 1) (h4 : ∃ i, 0 ≤ i ∧ i < gA S 33 b ∧ gA S 32 (8 * b + i) = t) (C : mC p s m ([.ref o, .int b, .int t] : List Value).toArray c cX13_has D cs) (hml : c.maxLocals = 3) (hr : meth.sig.returnType = none) (hlk : meth.locks = false)  (SJ60 : mS) (H : Heap) (locs : List Loc) (ls : Array Slot) (hj60 : stp S SJ60 ∧ (∀ k i, k ≠ 14 → k ≠ 22 → k ≠ 29 → k ≠ 31 → gA SJ60 k i = gA S k i)) (hG : G_has S b t = G_has_J60 b t  SJ60) (V : mV D cs o ad A SJ60 H) (hS : va_S A s.heap H locs) (hl : lv_has ls 3 [(0, .ref o), (1, .int b), (2, .int t)]) : W p l e ({ frames := 1, cells := 0, slots := 0, locals := 24 } : Room) s m ([.ref o, .int b, .int t] : List Value).toArray below meth c H locs 0 0 (MQ below (va_Qv (fun S9 => (stp S S9 ∧ (∀ k i, k = 34 ∨ k = 35 → gA S9 k i = gA S k i)) ∧ S9 = G_has S b t) (mB D cs o ad A) A) ([.ref o, .int b, .int t] : List Value).toArray s 0 0 A) (F0 m 60 ls []) := by
  have hx := C.1
  have hb := C.2.1
  have hown := C.2.2.1
  have hts := C.2.2.2.1
  obtain ⟨w1, w2⟩ := id hj60
  have hin : ∃ i, 0 ≤ i ∧ i < gA SJ60 33 b ∧ gA SJ60 32 (8 * b + i) = t := by obtain ⟨i, a1, a2, a3⟩ := h4; exact ⟨i, a1, by rw [w2 33 b (by decide) (by decide) (by decide) (by decide)]; exact a2, by rw [w2 32 _ (by decide) (by decide) (by decide) (by decide)]; exact a3⟩
  rw [G_has_J60] at hG
  refine lv_aload_n hx hb dX13_has_60 rfl (lv_at hl 0 rfl) ?_
  refine lv_iload_n hx hb dX13_has_61 rfl (lv_at hl 1 rfl) ?_
  refine lv_iload_n hx hb dX13_has_62 rfl (lv_at hl 2 rfl) ?_
  refine mGoV (mRunV (As := [.int b, .int t]) (rest := []) C hml V (c_leaves l D cs o ad A SJ60 b t  (h1) (pre_lv h1 w1.1) (rd_lv h1 w1.1)) gM_leaves okM_leaves ⟨rfl, rfl, Nat.le_of_ble_eq_true rfl, Nat.le_of_ble_eq_true rfl⟩ hl.1 rfl (Nat.le_of_ble_eq_true rfl) dX13_has_63 ⟨Nat.zero_le _, Nat.zero_le _⟩) hS (fun S1 H locs hq3 V hS => ?_)
  obtain ⟨hq3, ghq3⟩ := hq3
  replace hG := gLt_e hG ghq3
  refine lv_aload_n hx hb dX13_has_66 rfl (lv_at hl 0 rfl) ?_
  refine lv_iload_n hx hb dX13_has_67 rfl (lv_at hl 2 rfl) ?_
  refine mGoV (mRunV (As := [.int t]) (rest := []) C hml V (c_goesOn l D cs o ad A S1 t  ((in_row h1 h2 h4).1)) gM_goesOn okM_goesOn ⟨rfl, rfl, Nat.le_of_ble_eq_true rfl, Nat.le_of_ble_eq_true rfl⟩ hl.1 rfl (Nat.le_of_ble_eq_true rfl) dX13_has_68 ⟨Nat.zero_le _, Nat.zero_le _⟩) hS (fun S4 H locs hq6 V hS => ?_)
  obtain ⟨hq6, ghq6⟩ := hq6
  replace hG := gLt_e hG ghq6
  exact mRetV C hr hlk V hS (⟨by clear hG V hS hl C hts hown hx hb hml hr hlk; obtain ⟨q1, q2, q3⟩ := lg_inv h1 w1.1 hin hq3 hq6; exact ⟨stp_tr w1 q1, fun k i hk => by rcases hk with rfl | rfl <;> rw [q3 _ i (by decide) (by decide) (by decide) (by decide) (by decide), w2 _ i (by decide) (by decide) (by decide) (by decide)]⟩, hG.symm⟩) dX13_has_71
set_option maxHeartbeats 400000 in
set_option maxRecDepth 100000 in
theorem c_has (l : Launch) (D : va_G) (cs : ClassId × ClassId × ClassId) (o : Nat) (ad : Nat → Nat) (A : Nat → Prop) (S : mS) (b : Int32) (t : Int32)  (h1 : 0 ≤ b ∧ b < 24) (h2 : mInv S) (h3 : gA S 28 b = 1) (h4 : ∃ i, 0 ≤ i ∧ i < gA S 33 b ∧ gA S 32 (8 * b + i) = t) : Met l yX13_has (Cond.code yX13_has cX13_has 3 none :: tM) ({ frames := 1, cells := 0, slots := 0, locals := 24 }) (va_Pc [.ref o, .int b, .int t] (mB D cs o ad A S)) (va_Qv (fun S9 => (stp S S9 ∧ (∀ k i, k = 34 ∨ k = 35 → gA S9 k i = gA S k i)) ∧ S9 = G_has S b t) (mB D cs o ad A) A) 0 0 A := by
  refine mMet (by decide) rfl (Nat.le_of_ble_eq_true rfl) ?_
  intro p e s m below meth c ls C hml hr hlk V hl
  have hx := C.1
  have hb := C.2.1
  have hown := C.2.2.1
  have hts := C.2.2.2.1
  have hS : va_S A s.heap s.heap [] := va_S.rf
  have hl : lv_has ls 3 [(0, .ref o), (1, .int b), (2, .int t)] := hl
  have ht := (in_row h1 h2 h4).1
  have hG := G_has.eq_1 S b t
  refine lv_aload_n hx hb dX13_has_0 rfl (lv_at hl 0 rfl) ?_
  refine mG31 C V dX13_has_1 ?_
  refine lv_iload_n hx hb dX13_has_4 rfl (lv_at hl 1 rfl) ?_
  refine lv_iload_n hx hb dX13_has_5 rfl (lv_at hl 2 rfl) ?_
  refine mSt31 C V hS (vin (N := 24) rfl (by clear hG V hS hl C hts hown hx hb hml hr hlk; clear h2 h4; grind) (by clear hG V hS hl C hts hown hx hb hml hr hlk; clear h2 h4; grind)) dX13_has_6 (fun S7 H locs eS7 V hS => ?_)
  replace hG := gLt_e hG eS7
  refine lv_aload_n hx hb dX13_has_7 rfl (lv_at hl 0 rfl) ?_
  refine mG29 C V dX13_has_8 ?_
  refine lv_iload_n hx hb dX13_has_11 rfl (lv_at hl 1 rfl) ?_
  refine lv_aload_n hx hb dX13_has_12 rfl (lv_at hl 0 rfl) ?_
  refine mG22 C V dX13_has_13 ?_
  refine lv_iload_n hx hb dX13_has_16 rfl (lv_at hl 2 rfl) ?_
  refine mLd22 C V (vin (N := 8) rfl (by clear hG V hS hl C hts hown hx hb hml hr hlk; clear h2 h4; grind) (by clear hG V hS hl C hts hown hx hb hml hr hlk; clear h2 h4; grind)) dX13_has_17 ?_
  refine lv_if_eq (tgt := 30) hx hb dX13_has_18 (by decide) (fun c8 => ?_) (fun c8 => ?_)
  · replace hG := gIf_p hG c8
    refine lv_iconst (v := 1) hx hb dX13_has_30 (by decide) ?_
    refine mSt29 C V hS (vin (N := 24) rfl (by clear hG V hS hl C hts hown hx hb hml hr hlk; clear h2 h4; grind) (by clear hG V hS hl C hts hown hx hb hml hr hlk; clear h2 h4; grind)) dX13_has_31 (fun S9 H locs eS9 V hS => ?_)
    replace hG := gLt_e hG eS9
    refine lv_aload_n hx hb dX13_has_32 rfl (lv_at hl 0 rfl) ?_
    refine mG22 C V dX13_has_33 ?_
    refine lv_iload_n hx hb dX13_has_36 rfl (lv_at hl 2 rfl) ?_
    refine mLd22 C V (vin (N := 8) rfl (by clear hG V hS hl C hts hown hx hb hml hr hlk; clear h2 h4; grind) (by clear hG V hS hl C hts hown hx hb hml hr hlk; clear h2 h4; grind)) dX13_has_37 ?_
    refine lv_if_eq (tgt := 53) hx hb dX13_has_38 (by decide) (fun c10 => ?_) (fun c10 => ?_)
    · replace hG := gIf_p hG c10
      refine lv_aload_n hx hb dX13_has_53 rfl (lv_at hl 0 rfl) ?_
      refine mG22 C V dX13_has_54 ?_
      refine lv_iload_n hx hb dX13_has_57 rfl (lv_at hl 2 rfl) ?_
      refine lv_iconst (v := 0) hx hb dX13_has_58 (by decide) ?_
      refine mSt22 C V hS (vin (N := 8) rfl (by clear hG V hS hl C hts hown hx hb hml hr hlk; clear h2 h4; grind) (by clear hG V hS hl C hts hown hx hb hml hr hlk; clear h2 h4; grind)) dX13_has_59 (fun S11 H locs eS11 V hS => ?_)
      replace hG := gLt_e hG eS11
      exact j_has_60 l D cs o ad A S b t h1 h2 h3 h4 C hml hr hlk  S11 _ _ _ (by clear hG V hS hl C hts hown hx hb hml hr hlk; first | exact has_j h1 h2 h3 h4 eS7 eS9 (Or.inr ⟨_, nope9⟩) eS11 | exact has_j h1 h2 h3 h4 eS7 eS9 (Or.inl rfl) eS11) hG V hS (lv_sub hl [0, 1, 2] rfl)
    · replace hG := gIf_n hG c10
      refine lv_aload_n hx hb dX13_has_41 rfl (lv_at hl 0 rfl) ?_
      refine mG14 C V dX13_has_42 ?_
      refine lv_iload_n hx hb dX13_has_45 rfl (lv_at hl 2 rfl) ?_
      refine lv_aload_n hx hb dX13_has_46 rfl (lv_at hl 0 rfl) ?_
      refine mG19 C V dX13_has_47 ?_
      refine lv_iload_n hx hb dX13_has_50 rfl (lv_at hl 2 rfl) ?_
      refine mLd19 C V (vin (N := 8) rfl (by clear hG V hS hl C hts hown hx hb hml hr hlk; clear h2 h4; grind) (by clear hG V hS hl C hts hown hx hb hml hr hlk; clear h2 h4; grind)) dX13_has_51 ?_
      refine mSt14 C V hS (vin (N := 8) rfl (by clear hG V hS hl C hts hown hx hb hml hr hlk; clear h2 h4; grind) (by clear hG V hS hl C hts hown hx hb hml hr hlk; clear h2 h4; grind)) dX13_has_52 (fun S12 H locs eS12 V hS => ?_)
      replace hG := gLt_e hG eS12
      refine lv_aload_n hx hb dX13_has_53 rfl (lv_at hl 0 rfl) ?_
      refine mG22 C V dX13_has_54 ?_
      refine lv_iload_n hx hb dX13_has_57 rfl (lv_at hl 2 rfl) ?_
      refine lv_iconst (v := 0) hx hb dX13_has_58 (by decide) ?_
      refine mSt22 C V hS (vin (N := 8) rfl (by clear hG V hS hl C hts hown hx hb hml hr hlk; clear h2 h4; grind) (by clear hG V hS hl C hts hown hx hb hml hr hlk; clear h2 h4; grind)) dX13_has_59 (fun S13 H locs eS13 V hS => ?_)
      replace hG := gLt_e hG eS13
      exact j_has_60 l D cs o ad A S b t h1 h2 h3 h4 C hml hr hlk  S13 _ _ _ (by clear hG V hS hl C hts hown hx hb hml hr hlk; first | exact has_j h1 h2 h3 h4 eS7 eS9 (Or.inr ⟨_, eS12⟩) eS13 | exact has_j h1 h2 h3 h4 eS7 eS9 (Or.inl rfl) eS13) hG V hS (lv_sub hl [0, 1, 2] rfl)
  · replace hG := gIf_n hG c8
    refine lv_aload_n hx hb dX13_has_21 rfl (lv_at hl 0 rfl) ?_
    refine mG18 C V dX13_has_22 ?_
    refine lv_iload_n hx hb dX13_has_25 rfl (lv_at hl 2 rfl) ?_
    refine mLd18 C V (vin (N := 8) rfl (by clear hG V hS hl C hts hown hx hb hml hr hlk; clear h2 h4; grind) (by clear hG V hS hl C hts hown hx hb hml hr hlk; clear h2 h4; grind)) dX13_has_26 ?_
    refine lv_goto (tgt := 31) hx hb dX13_has_27 (by decide) ?_
    refine mSt29 C V hS (vin (N := 24) rfl (by clear hG V hS hl C hts hown hx hb hml hr hlk; clear h2 h4; grind) (by clear hG V hS hl C hts hown hx hb hml hr hlk; clear h2 h4; grind)) dX13_has_31 (fun S14 H locs eS14 V hS => ?_)
    replace hG := gLt_e hG eS14
    refine lv_aload_n hx hb dX13_has_32 rfl (lv_at hl 0 rfl) ?_
    refine mG22 C V dX13_has_33 ?_
    refine lv_iload_n hx hb dX13_has_36 rfl (lv_at hl 2 rfl) ?_
    refine mLd22 C V (vin (N := 8) rfl (by clear hG V hS hl C hts hown hx hb hml hr hlk; clear h2 h4; grind) (by clear hG V hS hl C hts hown hx hb hml hr hlk; clear h2 h4; grind)) dX13_has_37 ?_
    refine lv_if_eq (tgt := 53) hx hb dX13_has_38 (by decide) (fun c15 => ?_) (fun c15 => ?_)
    · replace hG := gIf_p hG c15
      refine lv_aload_n hx hb dX13_has_53 rfl (lv_at hl 0 rfl) ?_
      refine mG22 C V dX13_has_54 ?_
      refine lv_iload_n hx hb dX13_has_57 rfl (lv_at hl 2 rfl) ?_
      refine lv_iconst (v := 0) hx hb dX13_has_58 (by decide) ?_
      refine mSt22 C V hS (vin (N := 8) rfl (by clear hG V hS hl C hts hown hx hb hml hr hlk; clear h2 h4; grind) (by clear hG V hS hl C hts hown hx hb hml hr hlk; clear h2 h4; grind)) dX13_has_59 (fun S16 H locs eS16 V hS => ?_)
      replace hG := gLt_e hG eS16
      exact j_has_60 l D cs o ad A S b t h1 h2 h3 h4 C hml hr hlk  S16 _ _ _ (by clear hG V hS hl C hts hown hx hb hml hr hlk; first | exact has_j h1 h2 h3 h4 eS7 eS14 (Or.inr ⟨_, nope9⟩) eS16 | exact has_j h1 h2 h3 h4 eS7 eS14 (Or.inl rfl) eS16) hG V hS (lv_sub hl [0, 1, 2] rfl)
    · replace hG := gIf_n hG c15
      refine lv_aload_n hx hb dX13_has_41 rfl (lv_at hl 0 rfl) ?_
      refine mG14 C V dX13_has_42 ?_
      refine lv_iload_n hx hb dX13_has_45 rfl (lv_at hl 2 rfl) ?_
      refine lv_aload_n hx hb dX13_has_46 rfl (lv_at hl 0 rfl) ?_
      refine mG19 C V dX13_has_47 ?_
      refine lv_iload_n hx hb dX13_has_50 rfl (lv_at hl 2 rfl) ?_
      refine mLd19 C V (vin (N := 8) rfl (by clear hG V hS hl C hts hown hx hb hml hr hlk; clear h2 h4; grind) (by clear hG V hS hl C hts hown hx hb hml hr hlk; clear h2 h4; grind)) dX13_has_51 ?_
      refine mSt14 C V hS (vin (N := 8) rfl (by clear hG V hS hl C hts hown hx hb hml hr hlk; clear h2 h4; grind) (by clear hG V hS hl C hts hown hx hb hml hr hlk; clear h2 h4; grind)) dX13_has_52 (fun S17 H locs eS17 V hS => ?_)
      replace hG := gLt_e hG eS17
      refine lv_aload_n hx hb dX13_has_53 rfl (lv_at hl 0 rfl) ?_
      refine mG22 C V dX13_has_54 ?_
      refine lv_iload_n hx hb dX13_has_57 rfl (lv_at hl 2 rfl) ?_
      refine lv_iconst (v := 0) hx hb dX13_has_58 (by decide) ?_
      refine mSt22 C V hS (vin (N := 8) rfl (by clear hG V hS hl C hts hown hx hb hml hr hlk; clear h2 h4; grind) (by clear hG V hS hl C hts hown hx hb hml hr hlk; clear h2 h4; grind)) dX13_has_59 (fun S18 H locs eS18 V hS => ?_)
      replace hG := gLt_e hG eS18
      exact j_has_60 l D cs o ad A S b t h1 h2 h3 h4 C hml hr hlk  S18 _ _ _ (by clear hG V hS hl C hts hown hx hb hml hr hlk; first | exact has_j h1 h2 h3 h4 eS7 eS14 (Or.inr ⟨_, eS17⟩) eS18 | exact has_j h1 h2 h3 h4 eS7 eS14 (Or.inl rfl) eS18) hG V hS (lv_sub hl [0, 1, 2] rfl)
theorem fr_j {S S1 S2 : mS} {b : Int32} (hb : 0 ≤ b ∧ b < 24) (h : mInv S) (hk : gA S 28 b = 1) (e1 : S1 = sA S 31 b (-1)) (e2 : S2 = sA S1 29 b 0) : stp S S2 ∧ (∀ k i, k ≠ 29 → k ≠ 31 → gA S2 k i = gA S k i) := by
  have b2 : ∀ k i, k ≠ 29 → k ≠ 31 → gA S2 k i = gA S k i := fun k i k29 k31 => by rw [e2, e1]; simp [gA_sA, k29, k31]
  refine ⟨stp_ow (b := b) h (fun k => by rw [e2, e1]; rfl) ?_ (fun q => by rw [hk] at q; exact absurd q (by decide)) (fun k q _ k29 k31 _ => b2 k q k29 k31) ?_, b2⟩
  · rw [e2, e1]; simp [gA_sA]
  · intro k d hk2 hd; rw [e2, e1]; simp [gA_sA, hd]
theorem st1_stp {S S1 S2 : mS} {b t : Int32} (hb : 0 ≤ b ∧ b < 24) (h : mInv S) (hi : ∃ i, 0 ≤ i ∧ i < gA S 33 b ∧ gA S 32 (8 * b + i) = t) (hk : gA S 28 b = 1) (e1 : S1 = sA S 13 t 1) (e2 : S2 = sA S1 16 t (-1)) : stp S S2 := by
  subst e1
  have eo : ∀ k q, k ≠ 13 → k ≠ 16 → gA S2 k q = gA S k q := fun k q a1 a2 => by rw [e2]; simp [gA_sA, a1, a2]
  have hi2 := id hi
  obtain ⟨i, i0, i1, i2⟩ := hi
  refine ⟨st1_inv hb h ⟨i0, i1⟩ i2 hk e2, fun k => by rw [e2]; rfl, fun k q hk2 => by rcases hk2 with rfl | rfl | rfl <;> exact eo _ q (by decide) (by decide), fun u u0 u1 hn h21 => ?_⟩
  have hne := not_in hb hi2 hn
  refine ⟨fun d j => by rw [eo 33 d (by decide) (by decide), eo 32 _ (by decide) (by decide)]; exact hn d j, by rw [e2]; simp [gA_sA, hne], eo 15 u (by decide) (by decide), by rw [eo 21 u (by decide) (by decide)]; exact h21⟩

def G_freed (S : mS) (b : Int32) : mS := gLt (sA S 31 b ((-1)) : mS) (fun S1 => gLt (sA S1 29 b (0) : mS) (fun S2 => if ((gA S2 33 b) : Int32) = 0 then (S2) else (gLt ((gA S2 32 (8 * b)) : Int32) (fun x4 => if ((gA S2 30 b) : Int32) = 1 then (gLt (G_has S2 b x4 : mS) (fun S8 => S8)) else (gLt (sA S2 13 x4 (1) : mS) (fun S6 => gLt (sA S6 16 x4 ((-1)) : mS) (fun S7 => S7)))))))
set_option maxHeartbeats 400000 in
set_option maxRecDepth 100000 in
theorem c_freed (l : Launch) (D : va_G) (cs : ClassId × ClassId × ClassId) (o : Nat) (ad : Nat → Nat) (A : Nat → Prop) (S : mS) (b : Int32)  (h1 : 0 ≤ b ∧ b < 24) (h2 : mInv S) (h3 : gA S 28 b = 1) : Met l yX13_freed (Cond.code yX13_freed cX13_freed 3 none :: tM) ({ frames := 2, cells := 0, slots := 0, locals := 46 }) (va_Pc [.ref o, .int b] (mB D cs o ad A S)) (va_Qv (fun S9 => (stp S S9 ∧ (∀ k i, k = 34 ∨ k = 35 → gA S9 k i = gA S k i)) ∧ S9 = G_freed S b) (mB D cs o ad A) A) 0 0 A := by
  refine mMet (by decide) rfl (Nat.le_of_ble_eq_true rfl) ?_
  intro p e s m below meth c ls C hml hr hlk V hl
  have hx := C.1
  have hb := C.2.1
  have hown := C.2.2.1
  have hts := C.2.2.2.1
  have hS : va_S A s.heap s.heap [] := va_S.rf
  have hl : lv_has ls 3 [(0, .ref o), (1, .int b)] := hl
  have hG := G_freed.eq_1 S b
  refine lv_aload_n hx hb dX13_freed_0 rfl (lv_at hl 0 rfl) ?_
  refine mG31 C V dX13_freed_1 ?_
  refine lv_iload_n hx hb dX13_freed_4 rfl (lv_at hl 1 rfl) ?_
  refine lv_iconst (v := (-1)) hx hb dX13_freed_5 (by decide) ?_
  refine mSt31 C V hS (vin (N := 24) rfl (by clear hG V hS hl C hts hown hx hb hml hr hlk; clear h2; grind) (by clear hG V hS hl C hts hown hx hb hml hr hlk; clear h2; grind)) dX13_freed_6 (fun S1 H locs eS1 V hS => ?_)
  replace hG := gLt_e hG eS1
  refine lv_aload_n hx hb dX13_freed_7 rfl (lv_at hl 0 rfl) ?_
  refine mG29 C V dX13_freed_8 ?_
  refine lv_iload_n hx hb dX13_freed_11 rfl (lv_at hl 1 rfl) ?_
  refine lv_iconst (v := 0) hx hb dX13_freed_12 (by decide) ?_
  refine mSt29 C V hS (vin (N := 24) rfl (by clear hG V hS hl C hts hown hx hb hml hr hlk; clear h2; grind) (by clear hG V hS hl C hts hown hx hb hml hr hlk; clear h2; grind)) dX13_freed_13 (fun S2 H locs eS2 V hS => ?_)
  replace hG := gLt_e hG eS2
  obtain ⟨w1, w2⟩ := fr_j h1 h2 h3 eS1 eS2
  have w33 : gA S2 33 b = gA S 33 b := w2 33 b (by decide) (by decide)
  have w28 : gA S2 28 b = 1 := (w2 28 b (by decide) (by decide)).trans h3
  have l8 := pre_lv h1 w1.1
  refine lv_aload_n hx hb dX13_freed_14 rfl (lv_at hl 0 rfl) ?_
  refine mG33 C V dX13_freed_15 ?_
  refine lv_iload_n hx hb dX13_freed_18 rfl (lv_at hl 1 rfl) ?_
  refine mLd33 C V (vin (N := 24) rfl (by clear hG V hS hl C hts hown hx hb hml hr hlk; clear h2 w1 w2; grind) (by clear hG V hS hl C hts hown hx hb hml hr hlk; clear h2 w1 w2; grind)) dX13_freed_19 ?_
  refine lv_if_ne (tgt := 24) hx hb dX13_freed_20 (by decide) (fun c3 => ?_) (fun c3 => ?_)
  · replace hG := gIf_n hG c3
    refine lv_aload_n hx hb dX13_freed_24 rfl (lv_at hl 0 rfl) ?_
    refine mG32 C V dX13_freed_25 ?_
    refine lv_bipush (v := 8) hx hb dX13_freed_28 (by decide) ?_
    refine lv_iload_n hx hb dX13_freed_30 rfl (lv_at hl 1 rfl) ?_
    refine lv_imul hx hb dX13_freed_31 ?_
    refine mLd32 C V (vin (N := 192) rfl (by clear hG V hS hl C hts hown hx hb hml hr hlk; clear h2 w1 w2; grind) (by clear hG V hS hl C hts hown hx hb hml hr hlk; clear h2 w1 w2; grind)) dX13_freed_32 ?_
    refine lv_topi (fun x4 ex4 => ?_)
    replace hG := gLt_e hG ex4
    refine lv_istore_n (lv' := [(2, .int x4), (0, .ref o), (1, .int b)]) hx hb dX13_freed_33 rfl hl (by decide) rfl (fun ls hl => ?_)
    have hin : ∃ i, 0 ≤ i ∧ i < gA S2 33 b ∧ gA S2 32 (8 * b + i) = x4 := ⟨0, by decide, by clear hG w1 w2 h2; grind, by rw [ex4, Int32.add_zero]⟩
    have ht := (in_row h1 w1.1 hin).1
    refine lv_aload_n hx hb dX13_freed_34 rfl (lv_at hl 1 rfl) ?_
    refine mG30 C V dX13_freed_35 ?_
    refine lv_iload_n hx hb dX13_freed_38 rfl (lv_at hl 2 rfl) ?_
    refine mLd30 C V (vin (N := 24) rfl (by clear hG V hS hl C hts hown hx hb hml hr hlk; clear h2 w1 w2; grind) (by clear hG V hS hl C hts hown hx hb hml hr hlk; clear h2 w1 w2; grind)) dX13_freed_39 ?_
    refine lv_iconst (v := 1) hx hb dX13_freed_40 (by decide) ?_
    refine lv_icmp_ne (tgt := 53) hx hb dX13_freed_41 (by decide) (fun c5 => ?_) (fun c5 => ?_)
    · replace hG := gIf_n hG c5
      refine lv_aload_n hx hb dX13_freed_53 rfl (lv_at hl 1 rfl) ?_
      refine mG13 C V dX13_freed_54 ?_
      refine lv_iload_n hx hb dX13_freed_57 rfl (lv_at hl 0 rfl) ?_
      refine lv_iconst (v := 1) hx hb dX13_freed_58 (by decide) ?_
      refine mSt13 C V hS (vin (N := 8) rfl (ht.1) (ht.2)) dX13_freed_59 (fun S6 H locs eS6 V hS => ?_)
      replace hG := gLt_e hG eS6
      refine lv_aload_n hx hb dX13_freed_60 rfl (lv_at hl 1 rfl) ?_
      refine mG16 C V dX13_freed_61 ?_
      refine lv_iload_n hx hb dX13_freed_64 rfl (lv_at hl 0 rfl) ?_
      refine lv_iconst (v := (-1)) hx hb dX13_freed_65 (by decide) ?_
      refine mSt16 C V hS (vin (N := 8) rfl (ht.1) (ht.2)) dX13_freed_66 (fun S7 H locs eS7 V hS => ?_)
      replace hG := gLt_e hG eS7
      exact mRetV C hr hlk V hS (⟨by clear hG V hS hl C hts hown hx hb hml hr hlk; first | (obtain ⟨q1, q2⟩ := nope9; exact ⟨stp_tr w1 q1, fun k i hk => (q2 k i hk).trans (by rcases hk with rfl | rfl <;> exact w2 _ i (by decide) (by decide))⟩) | exact ⟨stp_tr w1 (st1_stp h1 w1.1 hin w28 eS6 eS7), fun k i hk => by rw [eS7, eS6]; rcases hk with rfl | rfl <;> simp [gA_sA] <;> exact w2 _ i (by decide) (by decide)⟩, hG.symm⟩) dX13_freed_67
    · replace hG := gIf_p hG c5
      refine lv_aload_n hx hb dX13_freed_44 rfl (lv_at hl 1 rfl) ?_
      refine lv_iload_n hx hb dX13_freed_45 rfl (lv_at hl 2 rfl) ?_
      refine lv_iload_n hx hb dX13_freed_46 rfl (lv_at hl 0 rfl) ?_
      refine mGoV (mRunV (As := [.int b, .int x4]) (rest := []) C hml V (c_has l D cs o ad A S2 b x4  (h1) (w1.1) (w28) (hin)) gM_has okM_has ⟨rfl, rfl, Nat.le_of_ble_eq_true rfl, Nat.le_of_ble_eq_true rfl⟩ hl.1 rfl (Nat.le_of_ble_eq_true rfl) dX13_freed_47 ⟨Nat.zero_le _, Nat.zero_le _⟩) hS (fun S8 H locs hq10 V hS => ?_)
      obtain ⟨hq10, ghq10⟩ := hq10
      replace hG := gLt_e hG ghq10
      refine lv_goto (tgt := 67) hx hb dX13_freed_50 (by decide) ?_
      exact mRetV C hr hlk V hS (⟨by clear hG V hS hl C hts hown hx hb hml hr hlk; first | (obtain ⟨q1, q2⟩ := hq10; exact ⟨stp_tr w1 q1, fun k i hk => (q2 k i hk).trans (by rcases hk with rfl | rfl <;> exact w2 _ i (by decide) (by decide))⟩) | exact ⟨stp_tr w1 (st1_stp h1 w1.1 hin w28 nope9 nope9), fun k i hk => by rw [nope9, nope9]; rcases hk with rfl | rfl <;> simp [gA_sA] <;> exact w2 _ i (by decide) (by decide)⟩, hG.symm⟩) dX13_freed_67
  · replace hG := gIf_p hG c3
    exact mRetV C hr hlk V hS (⟨⟨w1, fun k i hk => by rcases hk with rfl | rfl <;> exact w2 _ i (by clear hG V hS hl C hts hown hx hb hml hr hlk; decide) (by clear hG V hS hl C hts hown hx hb hml hr hlk; decide)⟩, hG.symm⟩) dX13_freed_23
theorem i_lt {x y : Int32} (h : ¬ y ≤ x) : x < y := by grind
theorem rw_next {S : mS} {t x y : Int32} (e : y = x + 1) (w1 : 0 ≤ x) (hx : x < 24) (w3 : ∀ b i, 0 ≤ b → b < x → gA S 28 b = 1 → 0 ≤ i → i < gA S 33 b → gA S 32 (8 * b + i) ≠ t) (hc : gA S 28 x ≠ 1 ∨ ∀ i, 0 ≤ i → i < gA S 33 x → gA S 32 (8 * x + i) ≠ t) :
    0 ≤ y ∧ y ≤ 24 ∧ ∀ b i, 0 ≤ b → b < y → gA S 28 b = 1 → 0 ≤ i → i < gA S 33 b → gA S 32 (8 * b + i) ≠ t := by
  refine ⟨by clear w3 hc; grind, by clear w3 hc; grind, fun b i b0 b1 bk i0 i1 => ?_⟩
  rcases (show b < x ∨ b = x by clear w3 hc; grind) with q | q
  · exact w3 b i b0 q bk i0 i1
  · subst q
    rcases hc with k | k
    · exact absurd bk k
    · exact k i i0 i1
theorem rw_in {S : mS} {t x n : Int32} (h : 0 ≤ n ∧ n ≤ gA S 33 x ∧ ∀ i, 0 ≤ i → i < n → gA S 32 (8 * x + i) ≠ t) (hc : gA S 33 x ≤ n) : ∀ i, 0 ≤ i → i < gA S 33 x → gA S 32 (8 * x + i) ≠ t := fun i i0 i1 => h.2.2 i i0 (by have := h.1; clear h; grind)
theorem rw_nx {S : mS} {t x n y : Int32} (h : 0 ≤ n ∧ n ≤ gA S 33 x ∧ ∀ i, 0 ≤ i → i < n → gA S 32 (8 * x + i) ≠ t) (hc : ¬ gA S 33 x ≤ n) (e : y = n + 1) (hq : gA S 32 (8 * x + n) ≠ t) : 0 ≤ y ∧ y ≤ gA S 33 x ∧ ∀ i, 0 ≤ i → i < y → gA S 32 (8 * x + i) ≠ t := by
  obtain ⟨h1, h2, h3⟩ := h
  refine ⟨by clear h3 hq; grind, by clear h3 hq; grind, fun i i0 i1 => ?_⟩
  rcases (show i < n ∨ i = n by clear h3 hq; grind) with q | q
  · exact h3 i i0 q
  · subst q; exact hq
theorem a_ix {x n L : Int32} (h0 : 0 ≤ x) (h1 : x < 24) (n0 : 0 ≤ n) (hL : L ≤ 8) (n1 : n < L) : 0 ≤ 8 * x + n ∧ 8 * x + n < 192 := by grind
theorem a_dec {x y n : Int32} (e : y = x + 1) (h0 : 0 ≤ x) (h : x < n) : 0 ≤ n - y ∧ n - y < n - x := by grind

def G_rowOf_L23 (S : mS) (t : Int32) (v2_2 : Int32) (K2 : Int32 → Int32) : Nat → Int32 → Int32
  | 0, v23_3 => (0 : Int32)
  | N23 + 1, v23_3 => if (gA S 33 v2_2) ≤ (v23_3 : Int32) then (gLt (v2_2 + (1) : Int32) (fun x6 => K2 x6 )) else (if ((gA S 32 ((8 * v2_2) + v23_3)) : Int32) = t then ((v2_2 : Int32)) else (gLt (v23_3 + (1) : Int32) (fun x8 => G_rowOf_L23 S t v2_2 K2 N23 x8 )))
def G_rowOf_L2 (S : mS) (t : Int32) : Nat → Int32 → Int32
  | 0, v2_2 => (0 : Int32)
  | N2 + 1, v2_2 => if 24 ≤ (v2_2 : Int32) then (((-1) : Int32)) else (if ((gA S 28 v2_2) : Int32) = 1 then (gLt (0 : Int32) (fun x4 => G_rowOf_L23 S t v2_2 (fun z0 => G_rowOf_L2 S t N2 z0) ((gA S 33 v2_2 - x4).toInt.toNat + 1) x4 )) else (gLt (v2_2 + (1) : Int32) (fun x9 => G_rowOf_L2 S t N2 x9 )))
def G_rowOf (S : mS) (t : Int32) : Int32 := gLt (0 : Int32) (fun x1 => G_rowOf_L2 S t ((24 - x1).toInt.toNat + 1) x1 )
set_option maxHeartbeats 400000 in
set_option maxRecDepth 100000 in
theorem c_rowOf (l : Launch) (D : va_G) (cs : ClassId × ClassId × ClassId) (o : Nat) (ad : Nat → Nat) (A : Nat → Prop) (S : mS) (t : Int32)  (h1 : mInv S) : Met l yX13_rowOf (Cond.code yX13_rowOf cX13_rowOf 4 (some .int) :: tM) ({ frames := 0, cells := 0, slots := 0, locals := 0 }) (va_Pc [.ref o, .int t] (mB D cs o ad A S)) (va_Qi (fun r9 S9 => (S9 = S ∧ ((r9 = -1 ∧ ∀ b i, 0 ≤ b → b < 24 → gA S 28 b = 1 → 0 ≤ i → i < gA S 33 b → gA S 32 (8 * b + i) ≠ t) ∨ (0 ≤ r9 ∧ r9 < 24 ∧ gA S 28 r9 = 1 ∧ ∃ i, 0 ≤ i ∧ i < gA S 33 r9 ∧ gA S 32 (8 * r9 + i) = t))) ∧ r9 = G_rowOf S t) (mB D cs o ad A) A) 0 0 A := by
  refine mMet (by decide) rfl (Nat.le_of_ble_eq_true rfl) ?_
  intro p e s m below meth c ls C hml hr hlk V hl
  have hx := C.1
  have hb := C.2.1
  have hown := C.2.2.1
  have hts := C.2.2.2.1
  have hS : va_S A s.heap s.heap [] := va_S.rf
  have hl : lv_has ls 4 [(0, .ref o), (1, .int t)] := hl
  have hG := G_rowOf.eq_1 S t
  refine lv_iconst (v := 0) hx hb dX13_rowOf_0 (by decide) ?_
  refine lv_topi (fun x1 ex1 => ?_)
  replace hG := gLt_e hG ex1
  refine lv_istore_n (lv' := [(2, .int x1), (0, .ref o), (1, .int t)]) hx hb dX13_rowOf_1 rfl hl (by decide) rfl (fun ls hl => ?_)
  have loop2 : ∀ (N2 : Nat) (v2_2 : Int32)  (H : Heap) (locs : List Loc) (ls : Array Slot), (0 ≤ v2_2 ∧ v2_2 ≤ 24 ∧ ∀ b i, 0 ≤ b → b < v2_2 → gA S 28 b = 1 → 0 ≤ i → i < gA S 33 b → gA S 32 (8 * b + i) ≠ t) → ((24 - v2_2).toInt.toNat) < N2 → (G_rowOf S t = G_rowOf_L2 S t N2 v2_2) → mV D cs o ad A S H → va_S A s.heap H locs → lv_has ls 4 [(0, .ref o), (1, .int t), (2, .int v2_2)] → W p l e ({ frames := 0, cells := 0, slots := 0, locals := 0 } : Room) s m ([.ref o, .int t] : List Value).toArray below meth c H locs 0 0 (MQ below (va_Qi (fun r9 S9 => (S9 = S ∧ ((r9 = -1 ∧ ∀ b i, 0 ≤ b → b < 24 → gA S 28 b = 1 → 0 ≤ i → i < gA S 33 b → gA S 32 (8 * b + i) ≠ t) ∨ (0 ≤ r9 ∧ r9 < 24 ∧ gA S 28 r9 = 1 ∧ ∃ i, 0 ≤ i ∧ i < gA S 33 r9 ∧ gA S 32 (8 * r9 + i) = t))) ∧ r9 = G_rowOf S t) (mB D cs o ad A) A) ([.ref o, .int t] : List Value).toArray s 0 0 A) (F0 m 2 ls []) := by
    intro N2
    induction N2 with
    | zero => intro v2_2  H locs ls hi2 hm2; exact absurd hm2 (Nat.not_lt_zero _)
    | succ N2 ih2 =>
      intro v2_2  H locs ls hi2 hm2 hG V hS hl
      rw [G_rowOf_L2] at hG
      obtain ⟨w1, w2, w3⟩ := id hi2
      refine lv_iload_n hx hb dX13_rowOf_2 rfl (lv_at hl 2 rfl) ?_
      refine lv_bipush (v := 24) hx hb dX13_rowOf_3 (by decide) ?_
      refine lv_icmp_ge (tgt := 62) hx hb dX13_rowOf_5 (by decide) (fun c2 => ?_) (fun c2 => ?_)
      · replace hG := gIf_p hG c2
        refine lv_iconst (v := (-1)) hx hb dX13_rowOf_62 (by decide) ?_
        exact mRetI C hr hlk V hS (⟨⟨rfl, Or.inl ⟨rfl, fun b i b0 b1 => w3 b i b0 (by clear hG V hS hl C hts hown hx hb hml hr hlk ih2 hm2; have := c2; clear w3 h1 hi2; grind)⟩⟩, hG.symm⟩) dX13_rowOf_63
      · replace hG := gIf_n hG c2
        refine lv_aload_n hx hb dX13_rowOf_8 rfl (lv_at hl 0 rfl) ?_
        refine mG28 C V dX13_rowOf_9 ?_
        refine lv_iload_n hx hb dX13_rowOf_12 rfl (lv_at hl 2 rfl) ?_
        refine mLd28 C V (vin (N := 24) rfl (w1) (i_lt c2)) dX13_rowOf_13 ?_
        refine lv_iconst (v := 1) hx hb dX13_rowOf_14 (by decide) ?_
        refine lv_icmp_eq (tgt := 21) hx hb dX13_rowOf_15 (by decide) (fun c3 => ?_) (fun c3 => ?_)
        · replace hG := gIf_p hG c3
          refine lv_iconst (v := 0) hx hb dX13_rowOf_21 (by decide) ?_
          refine lv_topi (fun x4 ex4 => ?_)
          replace hG := gLt_e hG ex4
          refine lv_istore_n (lv' := [(3, .int x4), (0, .ref o), (1, .int t), (2, .int v2_2)]) hx hb dX13_rowOf_22 rfl hl (by decide) rfl (fun ls hl => ?_)
          have loop23 : ∀ (N23 : Nat) (v23_3 : Int32)  (H : Heap) (locs : List Loc) (ls : Array Slot), (0 ≤ v23_3 ∧ v23_3 ≤ gA S 33 v2_2 ∧ ∀ i, 0 ≤ i → i < v23_3 → gA S 32 (8 * v2_2 + i) ≠ t) → ((gA S 33 v2_2 - v23_3).toInt.toNat) < N23 → (G_rowOf S t = G_rowOf_L23 S t v2_2 (fun z0 => G_rowOf_L2 S t N2 z0) N23 v23_3) → mV D cs o ad A S H → va_S A s.heap H locs → lv_has ls 4 [(0, .ref o), (1, .int t), (2, .int v2_2), (3, .int v23_3)] → W p l e ({ frames := 0, cells := 0, slots := 0, locals := 0 } : Room) s m ([.ref o, .int t] : List Value).toArray below meth c H locs 0 0 (MQ below (va_Qi (fun r9 S9 => (S9 = S ∧ ((r9 = -1 ∧ ∀ b i, 0 ≤ b → b < 24 → gA S 28 b = 1 → 0 ≤ i → i < gA S 33 b → gA S 32 (8 * b + i) ≠ t) ∨ (0 ≤ r9 ∧ r9 < 24 ∧ gA S 28 r9 = 1 ∧ ∃ i, 0 ≤ i ∧ i < gA S 33 r9 ∧ gA S 32 (8 * r9 + i) = t))) ∧ r9 = G_rowOf S t) (mB D cs o ad A) A) ([.ref o, .int t] : List Value).toArray s 0 0 A) (F0 m 23 ls []) := by
            intro N23
            induction N23 with
            | zero => intro v23_3  H locs ls hi23 hm23; exact absurd hm23 (Nat.not_lt_zero _)
            | succ N23 ih23 =>
              intro v23_3  H locs ls hi23 hm23 hG V hS hl
              rw [G_rowOf_L23] at hG
              refine lv_iload_n hx hb dX13_rowOf_23 rfl (lv_at hl 3 rfl) ?_
              refine lv_aload_n hx hb dX13_rowOf_24 rfl (lv_at hl 0 rfl) ?_
              refine mG33 C V dX13_rowOf_25 ?_
              refine lv_iload_n hx hb dX13_rowOf_28 rfl (lv_at hl 2 rfl) ?_
              refine mLd33 C V (vin (N := 24) rfl (w1) (i_lt c2)) dX13_rowOf_29 ?_
              refine lv_icmp_ge (tgt := 56) hx hb dX13_rowOf_30 (by decide) (fun c5 => ?_) (fun c5 => ?_)
              · replace hG := gIf_p hG c5
                obtain ⟨x6, ex6⟩ : ∃ y : Int32, y = v2_2 + (1) := ⟨_, rfl⟩
                replace hG := gLt_e hG ex6
                refine lv_iinc (v := x6) (lv' := [(2, .int x6), (0, .ref o), (1, .int t), (3, .int v23_3)]) hx hb dX13_rowOf_56 hl (k := 2) rfl (by rw [ex6]; rfl) (by decide) rfl (fun ls hl => ?_)
                refine lv_goto (tgt := 2) hx hb dX13_rowOf_59 (by decide) ?_
                exact ih2 x6  _ _ _ (by clear hG V hS hl C hts hown hx hb hml hr hlk ih2 ih23 hm2 hm23; first | exact rw_next ex6 w1 (i_lt c2) w3 (Or.inl c3) | exact rw_next ex6 w1 (i_lt c2) w3 (Or.inr (rw_in hi23 c5))) (msd hm2 (a_dec ex6 w1 (i_lt c2)).1 (a_dec ex6 w1 (i_lt c2)).2) hG V hS (lv_sub hl [1, 2, 0] rfl)
              · replace hG := gIf_n hG c5
                refine lv_aload_n hx hb dX13_rowOf_33 rfl (lv_at hl 0 rfl) ?_
                refine mG32 C V dX13_rowOf_34 ?_
                refine lv_bipush (v := 8) hx hb dX13_rowOf_37 (by decide) ?_
                refine lv_iload_n hx hb dX13_rowOf_39 rfl (lv_at hl 2 rfl) ?_
                refine lv_imul hx hb dX13_rowOf_40 ?_
                refine lv_iload_n hx hb dX13_rowOf_41 rfl (lv_at hl 3 rfl) ?_
                refine lv_iadd hx hb dX13_rowOf_42 ?_
                refine mLd32 C V (vin (N := 192) rfl ((a_ix w1 (i_lt c2) hi23.1 (pre_lv ⟨w1, i_lt c2⟩ h1).2 (i_lt c5)).1) ((a_ix w1 (i_lt c2) hi23.1 (pre_lv ⟨w1, i_lt c2⟩ h1).2 (i_lt c5)).2)) dX13_rowOf_43 ?_
                refine lv_iload_n hx hb dX13_rowOf_44 rfl (lv_at hl 1 rfl) ?_
                refine lv_icmp_ne (tgt := 50) hx hb dX13_rowOf_45 (by decide) (fun c7 => ?_) (fun c7 => ?_)
                · replace hG := gIf_n hG c7
                  obtain ⟨x8, ex8⟩ : ∃ y : Int32, y = v23_3 + (1) := ⟨_, rfl⟩
                  replace hG := gLt_e hG ex8
                  refine lv_iinc (v := x8) (lv' := [(3, .int x8), (0, .ref o), (1, .int t), (2, .int v2_2)]) hx hb dX13_rowOf_50 hl (k := 3) rfl (by rw [ex8]; rfl) (by decide) rfl (fun ls hl => ?_)
                  refine lv_goto (tgt := 23) hx hb dX13_rowOf_53 (by decide) ?_
                  exact ih23 x8  _ _ _ (rw_nx hi23 c5 ex8 c7) (msd hm23 (a_dec ex8 hi23.1 (i_lt c5)).1 (a_dec ex8 hi23.1 (i_lt c5)).2) hG V hS (lv_sub hl [1, 2, 3, 0] rfl)
                · replace hG := gIf_p hG c7
                  refine lv_iload_n hx hb dX13_rowOf_48 rfl (lv_at hl 2 rfl) ?_
                  exact mRetI C hr hlk V hS (⟨⟨rfl, Or.inr ⟨w1, i_lt c2, c3, v23_3, hi23.1, i_lt c5, c7⟩⟩, hG.symm⟩) dX13_rowOf_49
          exact loop23 ((gA S 33 v2_2 - x4).toInt.toNat + 1) x4  _ _ _ (by clear hG V hS hl C hts hown hx hb hml hr hlk ih2 hm2; rw [ex4]; exact ⟨by decide, (pre_lv ⟨w1, i_lt c2⟩ h1).1, fun i i0 i1 => by exfalso; clear h1 w3 hi2; grind⟩) (Nat.lt_succ_self _) hG V hS (lv_sub hl [1, 2, 3, 0] rfl)
        · replace hG := gIf_n hG c3
          refine lv_goto (tgt := 56) hx hb dX13_rowOf_18 (by decide) ?_
          obtain ⟨x9, ex9⟩ : ∃ y : Int32, y = v2_2 + (1) := ⟨_, rfl⟩
          replace hG := gLt_e hG ex9
          refine lv_iinc (v := x9) (lv' := [(2, .int x9), (0, .ref o), (1, .int t)]) hx hb dX13_rowOf_56 hl (k := 2) rfl (by rw [ex9]; rfl) (by decide) rfl (fun ls hl => ?_)
          refine lv_goto (tgt := 2) hx hb dX13_rowOf_59 (by decide) ?_
          exact ih2 x9  _ _ _ (by clear hG V hS hl C hts hown hx hb hml hr hlk ih2 hm2; first | exact rw_next ex9 w1 (i_lt c2) w3 (Or.inl c3) | exact rw_next ex9 w1 (i_lt c2) w3 (Or.inr (rw_in hi23 nope9))) (msd hm2 (a_dec ex9 w1 (i_lt c2)).1 (a_dec ex9 w1 (i_lt c2)).2) hG V hS (lv_sub hl [1, 2, 0] rfl)
  exact loop2 ((24 - x1).toInt.toNat + 1) x1  _ _ _ (by clear hG V hS hl C hts hown hx hb hml hr hlk; subst_vars; exact ⟨by decide, by decide, fun b i b0 b1 => by exfalso; clear h1; grind⟩) (Nat.lt_succ_self _) hG V hS (lv_sub hl [1, 2, 0] rfl)
theorem sg_j {S SL S1 S2 : mS} {b t n : Int32} (hb : 0 ≤ b ∧ b < 24) (h : mInv S) (ht : 0 ≤ t ∧ t < 8) (h21 : gA S 21 t ≠ 0) (h16 : gA S 16 t = b) (hi : lvI S SL 34 35 b t n (gA S 35 b)) (e1 : S1 = sA SL 35 b n) (e2 : S2 = sA S1 21 t 0) :
    stp S S2 ∧ nR S2 t ∧ gA S2 21 t = 0 ∧ (0 ≤ gA S2 15 t ∧ gA S2 15 t < gA S2 12 t ∧ gA S2 12 t ≤ 60) ∧ gA S2 28 b = 1 ∧ gA S2 35 b + 1 = gA S 35 b := by
  have en : gA S1 35 b = n := by rw [e1]; simp [gA_sA]
  have hp : lvP S S1 34 35 b t := ⟨SL, by rw [en]; exact hi, by rw [en]; exact e1⟩
  obtain ⟨s1, s2, s3⟩ := s2_inv hb ht h h21 h16 hp e2
  obtain ⟨g1, g2, g3, g4, g5, g6, g7, g8, g9, g10, g11⟩ := lvP_f (by decide) hp
  obtain ⟨t13, j, j0, j1, j2⟩ := (h.2.1 t ht.1 ht.2).2.2 h21
  rw [h16] at j1 j2
  have m := h.2.2.2.2.2.2.1 b j hb.1 hb.2 j0 j1
  have eo : ∀ k q, k ≠ 34 → k ≠ 35 → k ≠ 21 → gA S2 k q = gA S k q := fun k q a1 a2 a3 => by rw [e2, gA_sA, if_neg a3]; exact g3 k q a1 a2
  have hat := at_of h ht (Or.inr (Or.inl t13))
  refine ⟨⟨s1, fun k => by rw [e2]; exact g4 k, fun k q hk => by rcases hk with rfl | rfl | rfl <;> exact eo _ q (by decide) (by decide) (by decide), fun u u0 u1 hn hu => ?_⟩, s3, by rw [e2]; simp [gA_sA], ?_, ?_, ?_⟩
  · have hne : u ≠ t := fun q => h21 (by rw [← q]; exact hu)
    exact ⟨s2 u hn, eo 13 u (by decide) (by decide) (by decide), eo 15 u (by decide) (by decide) (by decide), by rw [e2, gA_sA, if_pos rfl, if_neg hne, g3 21 u (by decide) (by decide)]; exact hu⟩
  · rw [eo 15 t (by decide) (by decide) (by decide), eo 12 t (by decide) (by decide) (by decide)]; exact hat
  · rw [eo 28 b (by decide) (by decide) (by decide)]; exact m.2.2.2.2.2.2
  · have := g11 j j0 j1 j2
    rw [e2]; simp only [gA_sA, if_neg (show ¬ (35 = 21) by decide)]; exact this
theorem sg_w {S S2 S3 : mS} {b t : Int32} (hb : 0 ≤ b ∧ b < 24) (ht : 0 ≤ t ∧ t < 8) (h21 : gA S 21 t ≠ 0) (hj : stp S S2 ∧ nR S2 t ∧ gA S2 21 t = 0 ∧ (0 ≤ gA S2 15 t ∧ gA S2 15 t < gA S2 12 t ∧ gA S2 12 t ≤ 60) ∧ gA S2 28 b = 1 ∧ gA S2 35 b + 1 = gA S 35 b)
    (e : S3 = sA (sA (sA (sA S2 13 t 2) 16 t b) 32 (8 * b + gA S2 33 b) t) 33 b (gA S2 33 b + 1)) : stp S S3 ∧ gA S3 28 b = 1 ∧ gA S3 35 b + 1 = gA S 35 b := by
  obtain ⟨⟨j1, j2, j3, j4⟩, j5, j6, j7, j8, j9⟩ := hj
  obtain ⟨w1, w2⟩ := wF_inv hb ht j1 j5 j6 j7 e
  have eo : ∀ k q, k ≠ 13 → k ≠ 16 → k ≠ 32 → k ≠ 33 → gA S3 k q = gA S2 k q := fun k q a1 a2 a3 a4 => by rw [e]; simp [gA_sA, a1, a2, a3, a4]
  refine ⟨⟨w1, fun k => by rw [e]; exact j2 k, fun k q hk => (by rcases hk with rfl | rfl | rfl <;> exact eo _ q (by decide) (by decide) (by decide) (by decide) : gA S3 k q = gA S2 k q).trans (j3 k q hk), fun u u0 u1 hn hu => ?_⟩, (eo 28 b (by decide) (by decide) (by decide) (by decide)).trans j8, by rw [eo 35 b (by decide) (by decide) (by decide) (by decide)]; exact j9⟩
  have hne : u ≠ t := fun q => h21 (by rw [← q]; exact hu)
  obtain ⟨c1, c2, c3, c4⟩ := j4 u u0 u1 hn hu
  exact ⟨w2 u hne c1, by rw [← c2, e]; simp [gA_sA, hne], (eo 15 u (by decide) (by decide) (by decide) (by decide)).trans c3, (eo 21 u (by decide) (by decide) (by decide) (by decide)).trans c4⟩
/-- what a step of t on an object leaves: t goes on, or not -/
def pas (S S9 : mS) (t r : Int32) : Prop := mInv S9 ∧ (∀ k, gI S9 k = gI S k) ∧ (∀ k i, k = 11 ∨ k = 12 ∨ k = 28 → gA S9 k i = gA S k i) ∧ ((r = 1 ∧ fre S9 t ∧ gA S9 15 t = gA S 15 t) ∨ r = 0)
theorem pas_1 {S S9 : mS} {t : Int32} (hf : fre S t) (h : stp S S9) : pas S S9 t 1 := by
  obtain ⟨a1, a2, a3, a4⟩ := h
  obtain ⟨f1, f2, f3, f4⟩ := hf
  obtain ⟨b1, b2, b3, b4⟩ := a4 t f1.1 f1.2 f4 f3
  exact ⟨a1, a2, a3, Or.inl ⟨rfl, ⟨f1, b2.trans f2, b4, b1⟩, b3⟩⟩
theorem pas_w {S S9 : mS} {b t : Int32} (hf : fre S t) (hb : 0 ≤ b ∧ b < 24) (h : mInv S) (e : S9 = sA (sA (sA (sA S 13 t 2) 16 t b) 32 (8 * b + gA S 33 b) t) 33 b (gA S 33 b + 1)) : pas S S9 t 0 := by
  obtain ⟨f1, f2, f3, f4⟩ := hf
  obtain ⟨w1, w2⟩ := wF_inv hb f1 h f4 f3 (at_of h f1 (Or.inl f2)) e
  exact ⟨w1, fun k => by rw [e]; rfl, fun k q hk => by rw [e]; rcases hk with rfl | rfl | rfl <;> simp [gA_sA], Or.inr rfl⟩
theorem fre_stp {S S9 : mS} {t : Int32} (hf : fre S t) (h : stp S S9) : fre S9 t := by
  obtain ⟨-, -, -, h4⟩ := h
  obtain ⟨f1, f2, f3, f4⟩ := hf
  obtain ⟨b1, b2, b3, b4⟩ := h4 t f1.1 f1.2 f4 f3
  exact ⟨f1, b2.trans f2, b4, b1⟩
theorem pas_tr {S S1 S2 : mS} {t r : Int32} (hf : fre S t) (a : stp S S1) (b : pas S1 S2 t r) : pas S S2 t r := by
  obtain ⟨a1, a2, a3, a4⟩ := a
  obtain ⟨b1, b2, b3, b4⟩ := b
  obtain ⟨f1, f2, f3, f4⟩ := hf
  have c := a4 t f1.1 f1.2 f4 f3
  exact ⟨b1, fun k => (b2 k).trans (a2 k), fun k i hk => (b3 k i hk).trans (a3 k i hk), b4.imp (fun q => ⟨q.1, q.2.1, q.2.2.trans c.2.2.1⟩) id⟩

def G_signalled_J104 (b : Int32) (t : Int32) (j104_s0 : Int32) (SJ104 : mS) : mS := gLt (G_waitFor SJ104 t b : mS) (fun S1 => if (j104_s0 : Int32) = 0 then (S1) else (gLt (G_freed S1 b : mS) (fun S5 => S5)))
def G_signalled_L5 (b : Int32) (t : Int32) : Nat → Int32 → Int32 → mS → mS
  | 0, v5_3, v5_4, SL5 => SL5
  | N5 + 1, v5_3, v5_4, SL5 => if (gA SL5 35 b) ≤ (v5_4 : Int32) then (gLt (sA SL5 35 b (v5_3) : mS) (fun S11 => gLt (sA S11 21 t (vp_nar .boolean 0) : mS) (fun S12 => if 0 ≤ ((gA S12 31 b) : Int32) then (G_signalled_J104 b t 0 S12) else (if ((gA S12 33 b) : Int32) = 0 then (G_signalled_J104 b t 1 S12) else (G_signalled_J104 b t 0 S12))))) else (if ((gA SL5 34 ((8 * b) + v5_4)) : Int32) = t then (gLt (v5_4 + (1) : Int32) (fun x19 => G_signalled_L5 b t N5 v5_3 x19 SL5)) else (gLt (sA SL5 34 ((8 * b) + v5_3) ((gA SL5 34 ((8 * b) + v5_4))) : mS) (fun S16 => gLt (v5_3 + (1) : Int32) (fun x17 => gLt (v5_4 + (1) : Int32) (fun x18 => G_signalled_L5 b t N5 x17 x18 S16)))))
def G_signalled (S : mS) (b : Int32) (t : Int32) : mS := gLt (0 : Int32) (fun x8 => gLt (0 : Int32) (fun x9 => G_signalled_L5 b t ((gA S 35 b - x9).toInt.toNat + 1) x8 x9 S))
set_option maxHeartbeats 400000 in
set_option maxRecDepth 100000 in
theorem j_signalled_104 {p : Program} {e : Env} {s : State} {m : MethodId} {below : List Frame} {meth : Method} {c : Code} (l : Launch) (D : va_G) (cs : ClassId × ClassId × ClassId) (o : Nat) (ad : Nat → Nat) (A : Nat → Prop) (S : mS) (b : Int32) (t : Int32)  (h1 : 0 ≤ b ∧ b < 24) (h2 : mInv S) (h3 : 0 ≤ t ∧ t < 8) (h4 : gA S 21 t ≠ 0) (h5 : gA S 16 t = b) (C : mC p s m ([.ref o, .int b, .int t] : List Value).toArray c cX13_signalled D cs) (hml : c.maxLocals = 5) (hr : meth.sig.returnType = none) (hlk : meth.locks = false) (j104_s0 : Int32) (SJ104 : mS) (H : Heap) (locs : List Loc) (ls : Array Slot) (hj104 : stp S SJ104 ∧ nR SJ104 t ∧ gA SJ104 21 t = 0 ∧ (0 ≤ gA SJ104 15 t ∧ gA SJ104 15 t < gA SJ104 12 t ∧ gA SJ104 12 t ≤ 60) ∧ gA SJ104 28 b = 1 ∧ gA SJ104 35 b + 1 = gA S 35 b) (hG : G_signalled S b t = G_signalled_J104 b t j104_s0 SJ104) (V : mV D cs o ad A SJ104 H) (hS : va_S A s.heap H locs) (hl : lv_has ls 5 [(0, .ref o), (1, .int b), (2, .int t)]) : W p l e ({ frames := 3, cells := 0, slots := 0, locals := 68 } : Room) s m ([.ref o, .int b, .int t] : List Value).toArray below meth c H locs 0 0 (MQ below (va_Qv (fun S9 => (stp S S9 ∧ gA S9 35 b + 1 = gA S 35 b) ∧ S9 = G_signalled S b t) (mB D cs o ad A) A) ([.ref o, .int b, .int t] : List Value).toArray s 0 0 A) (F0 m 104 ls [.int j104_s0]) := by
  have hx := C.1
  have hb := C.2.1
  have hown := C.2.2.1
  have hts := C.2.2.2.1
  rw [G_signalled_J104] at hG
  refine lv_istore (lv' := [(4, .int j104_s0), (0, .ref o), (1, .int b), (2, .int t)]) hx hb dX13_signalled_104 hl (by decide) rfl (fun ls hl => ?_)
  refine lv_aload_n hx hb dX13_signalled_106 rfl (lv_at hl 1 rfl) ?_
  refine lv_iload_n hx hb dX13_signalled_107 rfl (lv_at hl 3 rfl) ?_
  refine lv_iload_n hx hb dX13_signalled_108 rfl (lv_at hl 2 rfl) ?_
  refine mGoV (mRunV (As := [.int t, .int b]) (rest := []) C hml V (c_waitFor l D cs o ad A SJ104 t b  (h3) (h1) (roomW h1 h3 hj104.1.1 hj104.2.1)) gM_waitFor okM_waitFor ⟨rfl, rfl, Nat.le_of_ble_eq_true rfl, Nat.le_of_ble_eq_true rfl⟩ hl.1 rfl (Nat.le_of_ble_eq_true rfl) dX13_signalled_109 ⟨Nat.zero_le _, Nat.zero_le _⟩) hS (fun S1 H locs hq3 V hS => ?_)
  obtain ⟨hq3, ghq3⟩ := hq3
  replace hG := gLt_e hG ghq3
  obtain ⟨u1, u2, u3⟩ := sg_w h1 h3 h4 hj104 hq3
  refine lv_iload hx hb dX13_signalled_112 (lv_at hl 0 rfl) ?_
  refine lv_if_eq (tgt := 122) hx hb dX13_signalled_114 (by decide) (fun c4 => ?_) (fun c4 => ?_)
  · replace hG := gIf_p hG c4
    exact mRetV C hr hlk V hS (⟨by clear hG V hS hl C hts hown hx hb hml hr hlk; first | exact ⟨stp_tr u1 nope9.1, by rw [nope9.2 35 _ (by simp)]; exact u3⟩ | exact ⟨u1, u3⟩, hG.symm⟩) dX13_signalled_122
  · replace hG := gIf_n hG c4
    refine lv_aload_n hx hb dX13_signalled_117 rfl (lv_at hl 1 rfl) ?_
    refine lv_iload_n hx hb dX13_signalled_118 rfl (lv_at hl 2 rfl) ?_
    refine mGoV (mRunV (As := [.int b]) (rest := []) C hml V (c_freed l D cs o ad A S1 b  (h1) (u1.1) (u2)) gM_freed okM_freed ⟨rfl, rfl, Nat.le_of_ble_eq_true rfl, Nat.le_of_ble_eq_true rfl⟩ hl.1 rfl (Nat.le_of_ble_eq_true rfl) dX13_signalled_119 ⟨Nat.zero_le _, Nat.zero_le _⟩) hS (fun S5 H locs hq7 V hS => ?_)
    obtain ⟨hq7, ghq7⟩ := hq7
    replace hG := gLt_e hG ghq7
    exact mRetV C hr hlk V hS (⟨by clear hG V hS hl C hts hown hx hb hml hr hlk; first | exact ⟨stp_tr u1 hq7.1, by rw [hq7.2 35 _ (by simp)]; exact u3⟩ | exact ⟨u1, u3⟩, hG.symm⟩) dX13_signalled_122
set_option maxHeartbeats 400000 in
set_option maxRecDepth 100000 in
theorem c_signalled (l : Launch) (D : va_G) (cs : ClassId × ClassId × ClassId) (o : Nat) (ad : Nat → Nat) (A : Nat → Prop) (S : mS) (b : Int32) (t : Int32)  (h1 : 0 ≤ b ∧ b < 24) (h2 : mInv S) (h3 : 0 ≤ t ∧ t < 8) (h4 : gA S 21 t ≠ 0) (h5 : gA S 16 t = b) : Met l yX13_signalled (Cond.code yX13_signalled cX13_signalled 5 none :: tM) ({ frames := 3, cells := 0, slots := 0, locals := 68 }) (va_Pc [.ref o, .int b, .int t] (mB D cs o ad A S)) (va_Qv (fun S9 => (stp S S9 ∧ gA S9 35 b + 1 = gA S 35 b) ∧ S9 = G_signalled S b t) (mB D cs o ad A) A) 0 0 A := by
  refine mMet (by decide) rfl (Nat.le_of_ble_eq_true rfl) ?_
  intro p e s m below meth c ls C hml hr hlk V hl
  have hx := C.1
  have hb := C.2.1
  have hown := C.2.2.1
  have hts := C.2.2.2.1
  have hS : va_S A s.heap s.heap [] := va_S.rf
  have hl : lv_has ls 5 [(0, .ref o), (1, .int b), (2, .int t)] := hl
  have hG := G_signalled.eq_1 S b t
  refine lv_iconst (v := 0) hx hb dX13_signalled_0 (by decide) ?_
  refine lv_topi (fun x8 ex8 => ?_)
  replace hG := gLt_e hG ex8
  refine lv_istore_n (lv' := [(3, .int x8), (0, .ref o), (1, .int b), (2, .int t)]) hx hb dX13_signalled_1 rfl hl (by decide) rfl (fun ls hl => ?_)
  refine lv_iconst (v := 0) hx hb dX13_signalled_2 (by decide) ?_
  refine lv_topi (fun x9 ex9 => ?_)
  replace hG := gLt_e hG ex9
  refine lv_istore (lv' := [(4, .int x9), (3, .int x8), (0, .ref o), (1, .int b), (2, .int t)]) hx hb dX13_signalled_3 hl (by decide) rfl (fun ls hl => ?_)
  have loop5 : ∀ (N5 : Nat) (v5_3 : Int32) (v5_4 : Int32) (SL5 : mS) (H : Heap) (locs : List Loc) (ls : Array Slot), (lvI S SL5 34 35 b t v5_3 v5_4) → ((gA S 35 b - v5_4).toInt.toNat) < N5 → (G_signalled S b t = G_signalled_L5 b t N5 v5_3 v5_4 SL5) → mV D cs o ad A SL5 H → va_S A s.heap H locs → lv_has ls 5 [(0, .ref o), (1, .int b), (2, .int t), (3, .int v5_3), (4, .int v5_4)] → W p l e ({ frames := 3, cells := 0, slots := 0, locals := 68 } : Room) s m ([.ref o, .int b, .int t] : List Value).toArray below meth c H locs 0 0 (MQ below (va_Qv (fun S9 => (stp S S9 ∧ gA S9 35 b + 1 = gA S 35 b) ∧ S9 = G_signalled S b t) (mB D cs o ad A) A) ([.ref o, .int b, .int t] : List Value).toArray s 0 0 A) (F0 m 5 ls []) := by
    intro N5
    induction N5 with
    | zero => intro v5_3 v5_4 SL5 H locs ls hi5 hm5; exact absurd hm5 (Nat.not_lt_zero _)
    | succ N5 ih5 =>
      intro v5_3 v5_4 SL5 H locs ls hi5 hm5 hG V hS hl
      rw [G_signalled_L5] at hG
      have hj := id hi5
      obtain ⟨⟨hj1, hj2, hj3⟩, hj4, -⟩ := hj
      have hj5 : gA SL5 35 b = gA S 35 b := hj4 35 b (by decide)
      clear hj4
      have h35 := (h2.2.2.2.1 b h1.1 h1.2).2.1
      refine lv_iload hx hb dX13_signalled_5 (lv_at hl 4 rfl) ?_
      refine lv_aload_n hx hb dX13_signalled_7 rfl (lv_at hl 0 rfl) ?_
      refine mG35 C V dX13_signalled_8 ?_
      refine lv_iload_n hx hb dX13_signalled_11 rfl (lv_at hl 1 rfl) ?_
      refine mLd35 C V (vin (N := 24) rfl (by clear hG V hS hl C hts hown hx hb hml hr hlk ih5 hm5; clear hi5 h2; grind) (by clear hG V hS hl C hts hown hx hb hml hr hlk ih5 hm5; clear hi5 h2; grind)) dX13_signalled_12 ?_
      refine lv_icmp_ge (tgt := 67) hx hb dX13_signalled_13 (by decide) (fun c10 => ?_) (fun c10 => ?_)
      · replace hG := gIf_p hG c10
        refine lv_aload_n hx hb dX13_signalled_67 rfl (lv_at hl 0 rfl) ?_
        refine mG35 C V dX13_signalled_68 ?_
        refine lv_iload_n hx hb dX13_signalled_71 rfl (lv_at hl 1 rfl) ?_
        refine lv_iload_n hx hb dX13_signalled_72 rfl (lv_at hl 3 rfl) ?_
        refine mSt35 C V hS (vin (N := 24) rfl (by clear hG V hS hl C hts hown hx hb hml hr hlk ih5 hm5; clear hi5 h2; grind) (by clear hG V hS hl C hts hown hx hb hml hr hlk ih5 hm5; clear hi5 h2; grind)) dX13_signalled_73 (fun S11 H locs eS11 V hS => ?_)
        replace hG := gLt_e hG eS11
        refine lv_aload_n hx hb dX13_signalled_74 rfl (lv_at hl 0 rfl) ?_
        refine mG21 C V dX13_signalled_75 ?_
        refine lv_iload_n hx hb dX13_signalled_78 rfl (lv_at hl 2 rfl) ?_
        refine lv_iconst (v := 0) hx hb dX13_signalled_79 (by decide) ?_
        refine mSt21 C V hS (vin (N := 8) rfl (h3.1) (h3.2)) dX13_signalled_80 (fun S12 H locs eS12 V hS => ?_)
        replace hG := gLt_e hG eS12
        have w9 := sg_j h1 h2 h3 h4 h5 (by rw [show v5_4 = gA S 35 b by clear hG hi5 h2; grind] at hi5; exact hi5) eS11 eS12
        refine lv_aload_n hx hb dX13_signalled_81 rfl (lv_at hl 0 rfl) ?_
        refine mG31 C V dX13_signalled_82 ?_
        refine lv_iload_n hx hb dX13_signalled_85 rfl (lv_at hl 1 rfl) ?_
        refine mLd31 C V (vin (N := 24) rfl (h1.1) (h1.2)) dX13_signalled_86 ?_
        refine lv_if_ge (tgt := 103) hx hb dX13_signalled_87 (by decide) (fun c13 => ?_) (fun c13 => ?_)
        · replace hG := gIf_p hG c13
          refine lv_iconst (v := 0) hx hb dX13_signalled_103 (by decide) ?_
          exact j_signalled_104 l D cs o ad A S b t h1 h2 h3 h4 h5 C hml hr hlk 0 S12 _ _ _ (w9) hG V hS (lv_sub hl [0, 1, 2] rfl)
        · replace hG := gIf_n hG c13
          refine lv_aload_n hx hb dX13_signalled_90 rfl (lv_at hl 0 rfl) ?_
          refine mG33 C V dX13_signalled_91 ?_
          refine lv_iload_n hx hb dX13_signalled_94 rfl (lv_at hl 1 rfl) ?_
          refine mLd33 C V (vin (N := 24) rfl (h1.1) (h1.2)) dX13_signalled_95 ?_
          refine lv_if_ne (tgt := 103) hx hb dX13_signalled_96 (by decide) (fun c14 => ?_) (fun c14 => ?_)
          · replace hG := gIf_n hG c14
            refine lv_iconst (v := 0) hx hb dX13_signalled_103 (by decide) ?_
            exact j_signalled_104 l D cs o ad A S b t h1 h2 h3 h4 h5 C hml hr hlk 0 S12 _ _ _ (w9) hG V hS (lv_sub hl [0, 1, 2] rfl)
          · replace hG := gIf_p hG c14
            refine lv_iconst (v := 1) hx hb dX13_signalled_99 (by decide) ?_
            refine lv_goto (tgt := 104) hx hb dX13_signalled_100 (by decide) ?_
            exact j_signalled_104 l D cs o ad A S b t h1 h2 h3 h4 h5 C hml hr hlk 1 S12 _ _ _ (w9) hG V hS (lv_sub hl [0, 1, 2] rfl)
      · replace hG := gIf_n hG c10
        refine lv_aload_n hx hb dX13_signalled_16 rfl (lv_at hl 0 rfl) ?_
        refine mG34 C V dX13_signalled_17 ?_
        refine lv_bipush (v := 8) hx hb dX13_signalled_20 (by decide) ?_
        refine lv_iload_n hx hb dX13_signalled_22 rfl (lv_at hl 1 rfl) ?_
        refine lv_imul hx hb dX13_signalled_23 ?_
        refine lv_iload hx hb dX13_signalled_24 (lv_at hl 4 rfl) ?_
        refine lv_iadd hx hb dX13_signalled_26 ?_
        refine mLd34 C V (vin (N := 192) rfl (by clear hG V hS hl C hts hown hx hb hml hr hlk ih5 hm5; clear hi5 h2; grind) (by clear hG V hS hl C hts hown hx hb hml hr hlk ih5 hm5; clear hi5 h2; grind)) dX13_signalled_27 ?_
        refine lv_iload_n hx hb dX13_signalled_28 rfl (lv_at hl 2 rfl) ?_
        refine lv_icmp_ne (tgt := 35) hx hb dX13_signalled_29 (by decide) (fun c15 => ?_) (fun c15 => ?_)
        · replace hG := gIf_n hG c15
          refine lv_aload_n hx hb dX13_signalled_35 rfl (lv_at hl 0 rfl) ?_
          refine mG34 C V dX13_signalled_36 ?_
          refine lv_bipush (v := 8) hx hb dX13_signalled_39 (by decide) ?_
          refine lv_iload_n hx hb dX13_signalled_41 rfl (lv_at hl 1 rfl) ?_
          refine lv_imul hx hb dX13_signalled_42 ?_
          refine lv_iload_n hx hb dX13_signalled_43 rfl (lv_at hl 3 rfl) ?_
          refine lv_iadd hx hb dX13_signalled_44 ?_
          refine lv_aload_n hx hb dX13_signalled_45 rfl (lv_at hl 0 rfl) ?_
          refine mG34 C V dX13_signalled_46 ?_
          refine lv_bipush (v := 8) hx hb dX13_signalled_49 (by decide) ?_
          refine lv_iload_n hx hb dX13_signalled_51 rfl (lv_at hl 1 rfl) ?_
          refine lv_imul hx hb dX13_signalled_52 ?_
          refine lv_iload hx hb dX13_signalled_53 (lv_at hl 4 rfl) ?_
          refine lv_iadd hx hb dX13_signalled_55 ?_
          refine mLd34 C V (vin (N := 192) rfl (by clear hG V hS hl C hts hown hx hb hml hr hlk ih5 hm5; clear hi5 h2; grind) (by clear hG V hS hl C hts hown hx hb hml hr hlk ih5 hm5; clear hi5 h2; grind)) dX13_signalled_56 ?_
          refine mSt34 C V hS (vin (N := 192) rfl (by clear hG V hS hl C hts hown hx hb hml hr hlk ih5 hm5; clear hi5 h2; grind) (by clear hG V hS hl C hts hown hx hb hml hr hlk ih5 hm5; clear hi5 h2; grind)) dX13_signalled_57 (fun S16 H locs eS16 V hS => ?_)
          replace hG := gLt_e hG eS16
          obtain ⟨x17, ex17⟩ : ∃ y : Int32, y = v5_3 + (1) := ⟨_, rfl⟩
          replace hG := gLt_e hG ex17
          refine lv_iinc (v := x17) (lv' := [(3, .int x17), (0, .ref o), (1, .int b), (2, .int t), (4, .int v5_4)]) hx hb dX13_signalled_58 hl (k := 3) rfl (by rw [ex17]; rfl) (by decide) rfl (fun ls hl => ?_)
          obtain ⟨x18, ex18⟩ : ∃ y : Int32, y = v5_4 + (1) := ⟨_, rfl⟩
          replace hG := gLt_e hG ex18
          refine lv_iinc (v := x18) (lv' := [(4, .int x18), (3, .int x17), (0, .ref o), (1, .int b), (2, .int t)]) hx hb dX13_signalled_61 hl (k := 4) rfl (by rw [ex18]; rfl) (by decide) rfl (fun ls hl => ?_)
          refine lv_goto (tgt := 5) hx hb dX13_signalled_64 (by decide) ?_
          exact ih5 x17 x18 S16 _ _ _ (by clear hG V hS hl C hts hown hx hb hml hr hlk ih5 hm5; subst_vars; first | exact lvI_skip h1 h35.2 (h2.2.2.2.2.2.2.2 _ h1.1 h1.2) hi5 (by clear hi5 h2; grind) (by clear hi5 h2; grind) | exact lvI_keep h1 h35.2 (by decide) (h2.2.2.2.2.2.2.2 _ h1.1 h1.2) hi5 (by clear hi5 h2; grind) (by clear hi5 h2; grind) rfl) (msd hm5 (by clear hG V hS hl C hts hown hx hb hml hr hlk ih5 hm5; clear hi5 h2; subst_vars; grind) (by clear hG V hS hl C hts hown hx hb hml hr hlk ih5 hm5; clear hi5 h2; subst_vars; grind)) hG V hS (lv_sub hl [2, 3, 4, 1, 0] rfl)
        · replace hG := gIf_p hG c15
          refine lv_goto (tgt := 61) hx hb dX13_signalled_32 (by decide) ?_
          obtain ⟨x19, ex19⟩ : ∃ y : Int32, y = v5_4 + (1) := ⟨_, rfl⟩
          replace hG := gLt_e hG ex19
          refine lv_iinc (v := x19) (lv' := [(4, .int x19), (0, .ref o), (1, .int b), (2, .int t), (3, .int v5_3)]) hx hb dX13_signalled_61 hl (k := 4) rfl (by rw [ex19]; rfl) (by decide) rfl (fun ls hl => ?_)
          refine lv_goto (tgt := 5) hx hb dX13_signalled_64 (by decide) ?_
          exact ih5 v5_3 x19 SL5 _ _ _ (by clear hG V hS hl C hts hown hx hb hml hr hlk ih5 hm5; subst_vars; first | exact lvI_skip h1 h35.2 (h2.2.2.2.2.2.2.2 _ h1.1 h1.2) hi5 (by clear hi5 h2; grind) (by clear hi5 h2; grind) | exact lvI_keep h1 h35.2 (by decide) (h2.2.2.2.2.2.2.2 _ h1.1 h1.2) hi5 (by clear hi5 h2; grind) (by clear hi5 h2; grind) rfl) (msd hm5 (by clear hG V hS hl C hts hown hx hb hml hr hlk ih5 hm5; clear hi5 h2; subst_vars; grind) (by clear hG V hS hl C hts hown hx hb hml hr hlk ih5 hm5; clear hi5 h2; subst_vars; grind)) hG V hS (lv_sub hl [1, 2, 3, 4, 0] rfl)
  exact loop5 ((gA S 35 b - x9).toInt.toNat + 1) x8 x9 S _ _ _ (by clear hG V hS hl C hts hown hx hb hml hr hlk; subst_vars; exact lvI_0 (h2.2.2.2.1 _ h1.1 h1.2).2.1.1) (Nat.lt_succ_self _) hG V hS (lv_sub hl [2, 3, 4, 1, 0] rfl)
def G_passes (S : mS) (t : Int32) (b : Int32) : Int32 × mS := if ((gA S 20 t) : Int32) = 0 then (gLt (G_waitFor S t b : mS) (fun S2 => ((0 : Int32), S2))) else (gLt (sA S 20 t (vp_nar .boolean 0) : mS) (fun S5 => gLt (sA S5 14 t ((-2)) : mS) (fun S6 => ((1 : Int32), S6))))
set_option maxHeartbeats 400000 in
set_option maxRecDepth 100000 in
theorem c_passes (l : Launch) (D : va_G) (cs : ClassId × ClassId × ClassId) (o : Nat) (ad : Nat → Nat) (A : Nat → Prop) (S : mS) (t : Int32) (b : Int32)  (h1 : fre S t) (h2 : 0 ≤ b ∧ b < 24) (h3 : mInv S) : Met l yX13_passes (Cond.code yX13_passes cX13_passes 3 (some .boolean) :: tM) ({ frames := 1, cells := 0, slots := 0, locals := 22 }) (va_Pc [.ref o, .int t, .int b] (mB D cs o ad A S)) (va_Qi (fun r9 S9 => (pas S S9 t r9) ∧ (r9, S9) = G_passes S t b) (mB D cs o ad A) A) 0 0 A := by
  refine mMet (by decide) rfl (Nat.le_of_ble_eq_true rfl) ?_
  intro p e s m below meth c ls C hml hr hlk V hl
  have hx := C.1
  have hb := C.2.1
  have hown := C.2.2.1
  have hts := C.2.2.2.1
  have hS : va_S A s.heap s.heap [] := va_S.rf
  have hl : lv_has ls 3 [(0, .ref o), (1, .int t), (2, .int b)] := hl
  have hG := G_passes.eq_1 S t b
  refine lv_aload_n hx hb dX13_passes_0 rfl (lv_at hl 0 rfl) ?_
  refine mG20 C V dX13_passes_1 ?_
  refine lv_iload_n hx hb dX13_passes_4 rfl (lv_at hl 1 rfl) ?_
  refine mLd20 C V (vin (N := 8) rfl (h1.1.1) (h1.1.2)) dX13_passes_5 ?_
  refine lv_if_eq (tgt := 26) hx hb dX13_passes_6 (by decide) (fun c1 => ?_) (fun c1 => ?_)
  · replace hG := gIf_p hG c1
    refine lv_aload_n hx hb dX13_passes_26 rfl (lv_at hl 0 rfl) ?_
    refine lv_iload_n hx hb dX13_passes_27 rfl (lv_at hl 1 rfl) ?_
    refine lv_iload_n hx hb dX13_passes_28 rfl (lv_at hl 2 rfl) ?_
    refine mGoV (mRunV (As := [.int t, .int b]) (rest := []) C hml V (c_waitFor l D cs o ad A S t b  (h1.1) (h2) (roomW h2 h1.1 h3 h1.2.2.2)) gM_waitFor okM_waitFor ⟨rfl, rfl, Nat.le_of_ble_eq_true rfl, Nat.le_of_ble_eq_true rfl⟩ hl.1 rfl (Nat.le_of_ble_eq_true rfl) dX13_passes_29 ⟨Nat.zero_le _, Nat.zero_le _⟩) hS (fun S2 H locs hq4 V hS => ?_)
    obtain ⟨hq4, ghq4⟩ := hq4
    replace hG := gLt_e hG ghq4
    refine lv_iconst (v := 0) hx hb dX13_passes_32 (by decide) ?_
    exact mRetZ C hr hlk V hS (by clear hG V hS hl C hts hown hx hb hml hr hlk; first | rfl | decide | (subst_vars; rfl)) (⟨pas_w h1 h2 h3 hq4, hG.symm⟩) dX13_passes_33
  · replace hG := gIf_n hG c1
    refine lv_aload_n hx hb dX13_passes_9 rfl (lv_at hl 0 rfl) ?_
    refine mG20 C V dX13_passes_10 ?_
    refine lv_iload_n hx hb dX13_passes_13 rfl (lv_at hl 1 rfl) ?_
    refine lv_iconst (v := 0) hx hb dX13_passes_14 (by decide) ?_
    refine mSt20 C V hS (vin (N := 8) rfl (h1.1.1) (h1.1.2)) dX13_passes_15 (fun S5 H locs eS5 V hS => ?_)
    replace hG := gLt_e hG eS5
    refine lv_aload_n hx hb dX13_passes_16 rfl (lv_at hl 0 rfl) ?_
    refine mG14 C V dX13_passes_17 ?_
    refine lv_iload_n hx hb dX13_passes_20 rfl (lv_at hl 1 rfl) ?_
    refine lv_bipush (v := (-2)) hx hb dX13_passes_21 (by decide) ?_
    refine mSt14 C V hS (vin (N := 8) rfl (h1.1.1) (h1.1.2)) dX13_passes_23 (fun S6 H locs eS6 V hS => ?_)
    replace hG := gLt_e hG eS6
    refine lv_iconst (v := 1) hx hb dX13_passes_24 (by decide) ?_
    exact mRetZ C hr hlk V hS (by clear hG V hS hl C hts hown hx hb hml hr hlk; first | rfl | decide | (subst_vars; rfl)) (⟨pas_1 h1 (stp_sm h3 (fun k => by rw [eS6, eS5]; rfl) (fun k i hk => by rw [eS6, eS5]; rcases hk with rfl | rfl | rfl | rfl | rfl | rfl | rfl | rfl | rfl | rfl | rfl | rfl | rfl | rfl | rfl <;> simp [gA_sA])), hG.symm⟩) dX13_passes_25

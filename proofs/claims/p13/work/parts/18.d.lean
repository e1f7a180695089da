def G_atLock_L309 (b : Int32) (j304_s0 : Int32) : Nat → Int32 → mS → Int32 × mS
  | 0, v309_5, SL309 => ((0 : Int32), SL309)
  | N309 + 1, v309_5, SL309 => if j304_s0 ≤ (v309_5 : Int32) then (((1 : Int32), SL309)) else (gLt (G_signalled SL309 b (gA SL309 34 (8 * b)) : mS) (fun S5 => gLt (v309_5 + (1) : Int32) (fun x9 => G_atLock_L309 b j304_s0 N309 x9 S5)))
def G_atLock_J304 (S : mS) (b : Int32) (j304_s0 : Int32) : Int32 × mS := gLt (0 : Int32) (fun x2 => G_atLock_L309 b j304_s0 ((j304_s0 - x2).toInt.toNat + 1) x2 S)
def G_atLock_J160 (SJ160 : mS) : Int32 × mS := ((1 : Int32), SJ160)
def G_atLock_J96 (q : Int32) (j96_4 : Int32) (SJ96 : mS) : Int32 × mS := if (j96_4 : Int32) = 0 then (if (q : Int32) = 8 then (((1 : Int32), SJ96)) else (((0 : Int32), SJ96))) else (((1 : Int32), SJ96))
def G_atLock_J81 (t : Int32) (q : Int32) (j81_4 : Int32) (j81_s2 : Int32) (SJ81 : mS) : Int32 × mS := gLt (sA SJ81 14 t (j81_s2) : mS) (fun S14 => G_atLock_J96 q j81_4 S14)
def G_atLock_J60 (t : Int32) (q : Int32) (b : Int32) (j60_4 : Int32) (SJ60 : mS) : Int32 × mS := if (q : Int32) = 8 then (if (j60_4 : Int32) = 0 then (G_atLock_J81 t q j60_4 0 SJ60) else (G_atLock_J81 t q j60_4 1 SJ60)) else (if (j60_4 : Int32) = 0 then (gLt (G_waitFor SJ60 t b : mS) (fun S19 => G_atLock_J96 q j60_4 S19)) else (G_atLock_J96 q j60_4 SJ60))
def G_atLock_J36 (S : mS) (t : Int32) (q : Int32) (b : Int32) (j36_s0 : Int32) : Int32 × mS := if (j36_s0 : Int32) = 0 then (G_atLock_J60 t q b j36_s0 S) else (gLt (sA S 31 b (t) : mS) (fun S26 => gLt (sA S26 29 b (((gA S26 29 b) + 1)) : mS) (fun S28 => G_atLock_J60 t q b j36_s0 S28)))
def G_atLock_J31 (S : mS) (t : Int32) (q : Int32) (b : Int32) : Int32 × mS := G_atLock_J36 S t q b 1 
def G_atLock_J12 (S : mS) (t : Int32) (q : Int32) (b : Int32) : Int32 × mS := if ((gA S 31 b) : Int32) < 0 then (G_atLock_J31 S t q b  ) else (if ((gA S 31 b) : Int32) = t then (G_atLock_J31 S t q b  ) else (G_atLock_J36 S t q b 0 ))
def G_atLock (S : mS) (t : Int32) (q : Int32) (b : Int32) : Int32 × mS := if (q : Int32) = 7 then (G_atLock_J12 S t q b  ) else (if (q : Int32) = 8 then (G_atLock_J12 S t q b  ) else (if ((gA S 31 b) : Int32) = t then (if (q : Int32) = 9 then (gLt (sA S 29 b (((gA S 29 b) - 1)) : mS) (fun S66 => if ((gA S66 29 b) : Int32) = 0 then (gLt (G_freed S66 b : mS) (fun S69 => G_atLock_J160   S69)) else (G_atLock_J160   S66))) else (if (q : Int32) = 10 then (if ((gA S 20 t) : Int32) = 0 then (gLt (sA S 18 t ((gA S 29 b)) : mS) (fun S42 => gLt (sA S42 19 t (1) : mS) (fun S44 => gLt (sA S44 22 t (vp_nar .boolean 1) : mS) (fun S46 => gLt (sA S46 13 t (2) : mS) (fun S48 => gLt (sA S48 16 t (b) : mS) (fun S50 => gLt (sA S50 21 t (vp_nar .boolean 1) : mS) (fun S52 => gLt (sA S52 34 ((8 * b) + (gA S52 35 b)) (t) : mS) (fun S54 => gLt (sA S54 35 b (((gA S54 35 b) + 1)) : mS) (fun S56 => gLt (G_freed S56 b : mS) (fun S58 => ((0 : Int32), S58))))))))))) else (gLt (sA S 20 t (vp_nar .boolean 0) : mS) (fun S62 => gLt (sA S62 14 t ((-2)) : mS) (fun S64 => ((1 : Int32), S64))))) else (if (q : Int32) = 12 then (G_atLock_J304 S b (gA S 35 b) ) else (if ((gA S 35 b) : Int32) ≤ 0 then (G_atLock_J304 S b 0 ) else (G_atLock_J304 S b 1 ))))) else (gC (G_fails S t 1) (fun r74 S73 => ((r74 : Int32), S73)))))
set_option maxHeartbeats 400000 in
set_option maxRecDepth 100000 in
theorem j_atLock_304 {p : Program} {e : Env} {s : State} {m : MethodId} {below : List Frame} {meth : Method} {c : Code} (l : Launch) (D : va_G) (cs : ClassId × ClassId × ClassId) (o : Nat) (ad : Nat → Nat) (A : Nat → Prop) (S : mS) (t : Int32) (q : Int32) (b : Int32)  (h1 : fre S t) (h2 : 0 ≤ b ∧ b < 24) (h3 : mInv S) (h4 : gA S 28 b = 1) (C : mC p s m ([.ref o, .int t, .int q, .int b] : List Value).toArray c cX13_atLock D cs) (hml : c.maxLocals = 6) (hr : meth.sig.returnType = (some .boolean)) (hlk : meth.locks = false) (j304_s0 : Int32)  (H : Heap) (locs : List Loc) (ls : Array Slot) (hj304 : 0 ≤ j304_s0 ∧ j304_s0 ≤ gA S 35 b ∧ j304_s0 ≤ 8) (hG : G_atLock S t q b = G_atLock_J304 S b j304_s0) (V : mV D cs o ad A S H) (hS : va_S A s.heap H locs) (hl : lv_has ls 6 [(0, .ref o), (1, .int t), (2, .int q), (3, .int b)]) : W p l e ({ frames := 4, cells := 0, slots := 0, locals := 92 } : Room) s m ([.ref o, .int t, .int q, .int b] : List Value).toArray below meth c H locs 0 0 (MQ below (va_Qi (fun r9 S9 => (pas S S9 t r9) ∧ (r9, S9) = G_atLock S t q b) (mB D cs o ad A) A) ([.ref o, .int t, .int q, .int b] : List Value).toArray s 0 0 A) (F0 m 304 ls [.int j304_s0]) := by
  have hx := C.1
  have hb := C.2.1
  have hown := C.2.2.1
  have hts := C.2.2.2.1
  rw [G_atLock_J304] at hG
  have w1 := stp_rf h3
  refine lv_istore (lv' := [(4, .int j304_s0), (0, .ref o), (1, .int t), (2, .int q), (3, .int b)]) hx hb dX13_atLock_304 hl (by decide) rfl (fun ls hl => ?_)
  refine lv_iconst (v := 0) hx hb dX13_atLock_306 (by decide) ?_
  refine lv_topi (fun x2 ex2 => ?_)
  replace hG := gLt_e hG ex2
  refine lv_istore (lv' := [(5, .int x2), (4, .int j304_s0), (0, .ref o), (1, .int t), (2, .int q), (3, .int b)]) hx hb dX13_atLock_307 hl (by decide) rfl (fun ls hl => ?_)
  have loop309 : ∀ (N309 : Nat) (v309_5 : Int32) (SL309 : mS) (H : Heap) (locs : List Loc) (ls : Array Slot), (stp S SL309 ∧ 0 ≤ v309_5 ∧ v309_5 ≤ j304_s0 ∧ j304_s0 ≤ gA SL309 35 b + v309_5 ∧ j304_s0 ≤ 8) → ((j304_s0 - v309_5).toInt.toNat) < N309 → (G_atLock S t q b = G_atLock_L309 b j304_s0 N309 v309_5 SL309) → mV D cs o ad A SL309 H → va_S A s.heap H locs → lv_has ls 6 [(0, .ref o), (1, .int t), (2, .int q), (3, .int b), (4, .int j304_s0), (5, .int v309_5)] → W p l e ({ frames := 4, cells := 0, slots := 0, locals := 92 } : Room) s m ([.ref o, .int t, .int q, .int b] : List Value).toArray below meth c H locs 0 0 (MQ below (va_Qi (fun r9 S9 => (pas S S9 t r9) ∧ (r9, S9) = G_atLock S t q b) (mB D cs o ad A) A) ([.ref o, .int t, .int q, .int b] : List Value).toArray s 0 0 A) (F0 m 309 ls []) := by
    intro N309
    induction N309 with
    | zero => intro v309_5 SL309 H locs ls hi309 hm309; exact absurd hm309 (Nat.not_lt_zero _)
    | succ N309 ih309 =>
      intro v309_5 SL309 H locs ls hi309 hm309 hG V hS hl
      rw [G_atLock_L309] at hG
      have w3 := hi309.1
      refine lv_iload hx hb dX13_atLock_309 (lv_at hl 5 rfl) ?_
      refine lv_iload hx hb dX13_atLock_311 (lv_at hl 4 rfl) ?_
      refine lv_icmp_ge (tgt := 336) hx hb dX13_atLock_313 (by decide) (fun c4 => ?_) (fun c4 => ?_)
      · replace hG := gIf_p hG c4
        refine lv_iconst (v := 1) hx hb dX13_atLock_336 (by decide) ?_
        exact mRetZ C hr hlk V hS (by clear hG V hS hl C hts hown hx hb hml hr hlk ih309 hm309; first | rfl | (rw [nope9.1]; rfl)) (⟨pas_1 h1 w3, hG.symm⟩) dX13_atLock_337
      · replace hG := gIf_n hG c4
        refine lv_aload_n hx hb dX13_atLock_316 rfl (lv_at hl 0 rfl) ?_
        refine lv_iload_n hx hb dX13_atLock_317 rfl (lv_at hl 3 rfl) ?_
        refine lv_aload_n hx hb dX13_atLock_318 rfl (lv_at hl 0 rfl) ?_
        refine mG34 C V dX13_atLock_319 ?_
        refine lv_bipush (v := 8) hx hb dX13_atLock_322 (by decide) ?_
        refine lv_iload_n hx hb dX13_atLock_324 rfl (lv_at hl 3 rfl) ?_
        refine lv_imul hx hb dX13_atLock_325 ?_
        refine mLd34 C V (vin (N := 192) rfl ((a_8b h2).1) ((a_8b h2).2)) dX13_atLock_326 ?_
        refine mGoV (mRunV (As := [.int b, .int (gA SL309 34 (8 * b))]) (rest := []) C hml V (c_signalled l D cs o ad A SL309 b (gA SL309 34 (8 * b))  (h2) (w3.1) ((lk_m h2 w3.1 (a_sg hi309.2.1 (i_lt c4) hi309.2.2.2.1 (lk_35 hi309.1 h2) hi309.2.2.2.2)).1) ((lk_m h2 w3.1 (a_sg hi309.2.1 (i_lt c4) hi309.2.2.2.1 (lk_35 hi309.1 h2) hi309.2.2.2.2)).2.1) ((lk_m h2 w3.1 (a_sg hi309.2.1 (i_lt c4) hi309.2.2.2.1 (lk_35 hi309.1 h2) hi309.2.2.2.2)).2.2)) gM_signalled okM_signalled ⟨rfl, rfl, Nat.le_of_ble_eq_true rfl, Nat.le_of_ble_eq_true rfl⟩ hl.1 rfl (Nat.le_of_ble_eq_true rfl) dX13_atLock_327 ⟨Nat.zero_le _, Nat.zero_le _⟩) hS (fun S5 H locs hq7 V hS => ?_)
        obtain ⟨hq7, ghq7⟩ := hq7
        replace hG := gLt_e hG ghq7
        have w8 := stp_tr w3 hq7.1
        obtain ⟨x9, ex9⟩ : ∃ y : Int32, y = v309_5 + (1) := ⟨_, rfl⟩
        replace hG := gLt_e hG ex9
        refine lv_iinc (v := x9) (lv' := [(5, .int x9), (0, .ref o), (1, .int t), (2, .int q), (3, .int b), (4, .int j304_s0)]) hx hb dX13_atLock_330 hl (k := 5) rfl (by rw [ex9]; rfl) (by decide) rfl (fun ls hl => ?_)
        refine lv_goto (tgt := 309) hx hb dX13_atLock_333 (by decide) ?_
        exact ih309 x9 S5 _ _ _ (⟨w8, a_sg2 ex9 hi309.2.1 (i_lt c4) hi309.2.2.2.1 (lk_35 hi309.1 h2) hi309.2.2.2.2 hq7.2⟩) (msd hm309 (a_dec ex9 hi309.2.1 (i_lt c4)).1 (a_dec ex9 hi309.2.1 (i_lt c4)).2) hG V hS (lv_sub hl [1, 2, 3, 4, 5, 0] rfl)
  exact loop309 ((j304_s0 - x2).toInt.toNat + 1) x2 S _ _ _ (⟨w1, a_n1 hj304 ex2 (lk_35 w1 h2)⟩) (Nat.lt_succ_self _) hG V hS (lv_sub hl [2, 3, 4, 5, 1, 0] rfl)
set_option maxHeartbeats 400000 in
set_option maxRecDepth 100000 in
theorem j_atLock_160 {p : Program} {e : Env} {s : State} {m : MethodId} {below : List Frame} {meth : Method} {c : Code} (l : Launch) (D : va_G) (cs : ClassId × ClassId × ClassId) (o : Nat) (ad : Nat → Nat) (A : Nat → Prop) (S : mS) (t : Int32) (q : Int32) (b : Int32)  (h1 : fre S t) (h2 : 0 ≤ b ∧ b < 24) (h3 : mInv S) (h4 : gA S 28 b = 1) (C : mC p s m ([.ref o, .int t, .int q, .int b] : List Value).toArray c cX13_atLock D cs) (hml : c.maxLocals = 6) (hr : meth.sig.returnType = (some .boolean)) (hlk : meth.locks = false)  (SJ160 : mS) (H : Heap) (locs : List Loc) (ls : Array Slot) (hj160 : stp S SJ160) (hG : G_atLock S t q b = G_atLock_J160   SJ160) (V : mV D cs o ad A SJ160 H) (hS : va_S A s.heap H locs) (hl : lv_has ls 6 [(0, .ref o), (1, .int t), (2, .int q), (3, .int b)]) : W p l e ({ frames := 4, cells := 0, slots := 0, locals := 92 } : Room) s m ([.ref o, .int t, .int q, .int b] : List Value).toArray below meth c H locs 0 0 (MQ below (va_Qi (fun r9 S9 => (pas S S9 t r9) ∧ (r9, S9) = G_atLock S t q b) (mB D cs o ad A) A) ([.ref o, .int t, .int q, .int b] : List Value).toArray s 0 0 A) (F0 m 160 ls []) := by
  have hx := C.1
  have hb := C.2.1
  have hown := C.2.2.1
  have hts := C.2.2.2.1
  rw [G_atLock_J160] at hG
  have w10 := hj160
  refine lv_iconst (v := 1) hx hb dX13_atLock_160 (by decide) ?_
  exact mRetZ C hr hlk V hS (by clear hG V hS hl C hts hown hx hb hml hr hlk; first | rfl | (rw [nope9.1]; rfl)) (⟨pas_1 h1 w10, hG.symm⟩) dX13_atLock_161
set_option maxHeartbeats 400000 in
set_option maxRecDepth 100000 in
theorem j_atLock_96 {p : Program} {e : Env} {s : State} {m : MethodId} {below : List Frame} {meth : Method} {c : Code} (l : Launch) (D : va_G) (cs : ClassId × ClassId × ClassId) (o : Nat) (ad : Nat → Nat) (A : Nat → Prop) (S : mS) (t : Int32) (q : Int32) (b : Int32)  (h1 : fre S t) (h2 : 0 ≤ b ∧ b < 24) (h3 : mInv S) (h4 : gA S 28 b = 1) (C : mC p s m ([.ref o, .int t, .int q, .int b] : List Value).toArray c cX13_atLock D cs) (hml : c.maxLocals = 6) (hr : meth.sig.returnType = (some .boolean)) (hlk : meth.locks = false) (j96_4 : Int32) (SJ96 : mS) (H : Heap) (locs : List Loc) (ls : Array Slot) (hj96 : (stp S SJ96 ∧ (j96_4 ≠ 0 ∨ q = 8)) ∨ (pas S SJ96 t 0 ∧ j96_4 = 0 ∧ q ≠ 8)) (hG : G_atLock S t q b = G_atLock_J96 q j96_4 SJ96) (V : mV D cs o ad A SJ96 H) (hS : va_S A s.heap H locs) (hl : lv_has ls 6 [(0, .ref o), (1, .int t), (2, .int q), (3, .int b), (4, .int j96_4)]) : W p l e ({ frames := 4, cells := 0, slots := 0, locals := 92 } : Room) s m ([.ref o, .int t, .int q, .int b] : List Value).toArray below meth c H locs 0 0 (MQ below (va_Qi (fun r9 S9 => (pas S S9 t r9) ∧ (r9, S9) = G_atLock S t q b) (mB D cs o ad A) A) ([.ref o, .int t, .int q, .int b] : List Value).toArray s 0 0 A) (F0 m 96 ls []) := by
  have hx := C.1
  have hb := C.2.1
  have hown := C.2.2.1
  have hts := C.2.2.2.1
  rw [G_atLock_J96] at hG
  refine lv_iload hx hb dX13_atLock_96 (lv_at hl 4 rfl) ?_
  refine lv_if_ne (tgt := 107) hx hb dX13_atLock_98 (by decide) (fun c11 => ?_) (fun c11 => ?_)
  · replace hG := gIf_n hG c11
    refine lv_iconst (v := 1) hx hb dX13_atLock_107 (by decide) ?_
    refine lv_goto (tgt := 112) hx hb dX13_atLock_108 (by decide) ?_
    exact mRetZ C hr hlk V hS (by clear hG V hS hl C hts hown hx hb hml hr hlk; first | rfl | (rw [nope9.1]; rfl)) (⟨by clear hG V hS hl C hts hown hx hb hml hr hlk; first | (rcases hj96 with q9 | q9; exact pas_1 h1 q9.1; exact absurd q9.2.1 c11) | (rcases hj96 with q9 | q9; exact pas_1 h1 q9.1; exact absurd nope9 q9.2.2) | (rcases hj96 with q9 | q9; exact absurd q9.2 (by rintro (z | z); exact z c11; exact nope9 z); exact q9.1), hG.symm⟩) dX13_atLock_112
  · replace hG := gIf_p hG c11
    refine lv_iload_n hx hb dX13_atLock_101 rfl (lv_at hl 2 rfl) ?_
    refine lv_bipush (v := 8) hx hb dX13_atLock_102 (by decide) ?_
    refine lv_icmp_ne (tgt := 111) hx hb dX13_atLock_104 (by decide) (fun c12 => ?_) (fun c12 => ?_)
    · replace hG := gIf_n hG c12
      refine lv_iconst (v := 0) hx hb dX13_atLock_111 (by decide) ?_
      exact mRetZ C hr hlk V hS (by clear hG V hS hl C hts hown hx hb hml hr hlk; first | rfl | (rw [nope9.1]; rfl)) (⟨by clear hG V hS hl C hts hown hx hb hml hr hlk; first | (rcases hj96 with q9 | q9; exact pas_1 h1 q9.1; exact absurd q9.2.1 c11) | (rcases hj96 with q9 | q9; exact pas_1 h1 q9.1; exact absurd c12 q9.2.2) | (rcases hj96 with q9 | q9; exact absurd q9.2 (by rintro (z | z); exact z c11; exact c12 z); exact q9.1), hG.symm⟩) dX13_atLock_112
    · replace hG := gIf_p hG c12
      refine lv_iconst (v := 1) hx hb dX13_atLock_107 (by decide) ?_
      refine lv_goto (tgt := 112) hx hb dX13_atLock_108 (by decide) ?_
      exact mRetZ C hr hlk V hS (by clear hG V hS hl C hts hown hx hb hml hr hlk; first | rfl | (rw [nope9.1]; rfl)) (⟨by clear hG V hS hl C hts hown hx hb hml hr hlk; first | (rcases hj96 with q9 | q9; exact pas_1 h1 q9.1; exact absurd q9.2.1 c11) | (rcases hj96 with q9 | q9; exact pas_1 h1 q9.1; exact absurd c12 q9.2.2) | (rcases hj96 with q9 | q9; exact absurd q9.2 (by rintro (z | z); exact z c11; exact c12 z); exact q9.1), hG.symm⟩) dX13_atLock_112
set_option maxHeartbeats 400000 in
set_option maxRecDepth 100000 in
theorem j_atLock_81 {p : Program} {e : Env} {s : State} {m : MethodId} {below : List Frame} {meth : Method} {c : Code} (l : Launch) (D : va_G) (cs : ClassId × ClassId × ClassId) (o : Nat) (ad : Nat → Nat) (A : Nat → Prop) (S : mS) (t : Int32) (q : Int32) (b : Int32)  (h1 : fre S t) (h2 : 0 ≤ b ∧ b < 24) (h3 : mInv S) (h4 : gA S 28 b = 1) (C : mC p s m ([.ref o, .int t, .int q, .int b] : List Value).toArray c cX13_atLock D cs) (hml : c.maxLocals = 6) (hr : meth.sig.returnType = (some .boolean)) (hlk : meth.locks = false) (j81_4 : Int32) (j81_s2 : Int32) (SJ81 : mS) (H : Heap) (locs : List Loc) (ls : Array Slot) (hj81 : stp S SJ81 ∧ q = 8) (hG : G_atLock S t q b = G_atLock_J81 t q j81_4 j81_s2 SJ81) (V : mV D cs o ad A SJ81 H) (hS : va_S A s.heap H locs) (hl : lv_has ls 6 [(0, .ref o), (1, .int t), (2, .int q), (3, .int b), (4, .int j81_4)]) : W p l e ({ frames := 4, cells := 0, slots := 0, locals := 92 } : Room) s m ([.ref o, .int t, .int q, .int b] : List Value).toArray below meth c H locs 0 0 (MQ below (va_Qi (fun r9 S9 => (pas S S9 t r9) ∧ (r9, S9) = G_atLock S t q b) (mB D cs o ad A) A) ([.ref o, .int t, .int q, .int b] : List Value).toArray s 0 0 A) (F0 m 81 ls [.int j81_s2, .int t, .ref (ad 14)]) := by
  have hx := C.1
  have hb := C.2.1
  have hown := C.2.2.1
  have hts := C.2.2.2.1
  rw [G_atLock_J81] at hG
  have w13 := hj81.1
  refine mSt14 C V hS (vin (N := 8) rfl (h1.1.1) (h1.1.2)) dX13_atLock_81 (fun S14 H locs eS14 V hS => ?_)
  replace hG := gLt_e hG eS14
  have w15 := st_irr w13 eS14 (by simp [smK])
  refine lv_goto (tgt := 96) hx hb dX13_atLock_82 (by decide) ?_
  exact j_atLock_96 l D cs o ad A S t q b h1 h2 h3 h4 C hml hr hlk j81_4 S14 _ _ _ (by clear hG V hS hl C hts hown hx hb hml hr hlk; first | exact Or.inl ⟨w15, Or.inr hj81.2⟩ | exact Or.inl ⟨w15, Or.inl nope9⟩ | exact Or.inr ⟨pas_tr h1 hj60 (pas_w (fre_stp h1 hj60) h2 hj60.1 nope9), nope9, nope9⟩) hG V hS (lv_sub hl [0, 1, 2, 3, 4] rfl)
set_option maxHeartbeats 400000 in
set_option maxRecDepth 100000 in
theorem j_atLock_60 {p : Program} {e : Env} {s : State} {m : MethodId} {below : List Frame} {meth : Method} {c : Code} (l : Launch) (D : va_G) (cs : ClassId × ClassId × ClassId) (o : Nat) (ad : Nat → Nat) (A : Nat → Prop) (S : mS) (t : Int32) (q : Int32) (b : Int32)  (h1 : fre S t) (h2 : 0 ≤ b ∧ b < 24) (h3 : mInv S) (h4 : gA S 28 b = 1) (C : mC p s m ([.ref o, .int t, .int q, .int b] : List Value).toArray c cX13_atLock D cs) (hml : c.maxLocals = 6) (hr : meth.sig.returnType = (some .boolean)) (hlk : meth.locks = false) (j60_4 : Int32) (SJ60 : mS) (H : Heap) (locs : List Loc) (ls : Array Slot) (hj60 : stp S SJ60) (hG : G_atLock S t q b = G_atLock_J60 t q b j60_4 SJ60) (V : mV D cs o ad A SJ60 H) (hS : va_S A s.heap H locs) (hl : lv_has ls 6 [(0, .ref o), (1, .int t), (2, .int q), (3, .int b), (4, .int j60_4)]) : W p l e ({ frames := 4, cells := 0, slots := 0, locals := 92 } : Room) s m ([.ref o, .int t, .int q, .int b] : List Value).toArray below meth c H locs 0 0 (MQ below (va_Qi (fun r9 S9 => (pas S S9 t r9) ∧ (r9, S9) = G_atLock S t q b) (mB D cs o ad A) A) ([.ref o, .int t, .int q, .int b] : List Value).toArray s 0 0 A) (F0 m 60 ls []) := by
  have hx := C.1
  have hb := C.2.1
  have hown := C.2.2.1
  have hts := C.2.2.2.1
  rw [G_atLock_J60] at hG
  have w16 := hj60
  refine lv_iload_n hx hb dX13_atLock_60 rfl (lv_at hl 2 rfl) ?_
  refine lv_bipush (v := 8) hx hb dX13_atLock_61 (by decide) ?_
  refine lv_icmp_ne (tgt := 85) hx hb dX13_atLock_63 (by decide) (fun c17 => ?_) (fun c17 => ?_)
  · replace hG := gIf_n hG c17
    refine lv_iload hx hb dX13_atLock_85 (lv_at hl 4 rfl) ?_
    refine lv_if_ne (tgt := 96) hx hb dX13_atLock_87 (by decide) (fun c18 => ?_) (fun c18 => ?_)
    · replace hG := gIf_n hG c18
      exact j_atLock_96 l D cs o ad A S t q b h1 h2 h3 h4 C hml hr hlk j60_4 SJ60 _ _ _ (by clear hG V hS hl C hts hown hx hb hml hr hlk; first | exact Or.inl ⟨w16, Or.inr hj81.2⟩ | exact Or.inl ⟨w16, Or.inl c18⟩ | exact Or.inr ⟨pas_tr h1 hj60 (pas_w (fre_stp h1 hj60) h2 hj60.1 nope9), c18, c17⟩) hG V hS (lv_sub hl [0, 1, 2, 3, 4] rfl)
    · replace hG := gIf_p hG c18
      refine lv_aload_n hx hb dX13_atLock_90 rfl (lv_at hl 0 rfl) ?_
      refine lv_iload_n hx hb dX13_atLock_91 rfl (lv_at hl 1 rfl) ?_
      refine lv_iload_n hx hb dX13_atLock_92 rfl (lv_at hl 3 rfl) ?_
      refine mGoV (mRunV (As := [.int t, .int b]) (rest := []) C hml V (c_waitFor l D cs o ad A SJ60 t b  (h1.1) (h2) (roomW h2 h1.1 hj60.1 (fre_stp h1 hj60).2.2.2)) gM_waitFor okM_waitFor ⟨rfl, rfl, Nat.le_of_ble_eq_true rfl, Nat.le_of_ble_eq_true rfl⟩ hl.1 rfl (Nat.le_of_ble_eq_true rfl) dX13_atLock_93 ⟨Nat.zero_le _, Nat.zero_le _⟩) hS (fun S19 H locs hq21 V hS => ?_)
      obtain ⟨hq21, ghq21⟩ := hq21
      replace hG := gLt_e hG ghq21
      have w22 := hj60
      exact j_atLock_96 l D cs o ad A S t q b h1 h2 h3 h4 C hml hr hlk j60_4 S19 _ _ _ (by clear hG V hS hl C hts hown hx hb hml hr hlk; first | exact Or.inl ⟨w22, Or.inr hj81.2⟩ | exact Or.inl ⟨w22, Or.inl c18⟩ | exact Or.inr ⟨pas_tr h1 hj60 (pas_w (fre_stp h1 hj60) h2 hj60.1 hq21), c18, c17⟩) hG V hS (lv_sub hl [0, 1, 2, 3, 4] rfl)
  · replace hG := gIf_p hG c17
    refine lv_aload_n hx hb dX13_atLock_66 rfl (lv_at hl 0 rfl) ?_
    refine mG14 C V dX13_atLock_67 ?_
    refine lv_iload_n hx hb dX13_atLock_70 rfl (lv_at hl 1 rfl) ?_
    refine lv_iload hx hb dX13_atLock_71 (lv_at hl 4 rfl) ?_
    refine lv_if_eq (tgt := 80) hx hb dX13_atLock_73 (by decide) (fun c23 => ?_) (fun c23 => ?_)
    · replace hG := gIf_p hG c23
      refine lv_iconst (v := 0) hx hb dX13_atLock_80 (by decide) ?_
      exact j_atLock_81 l D cs o ad A S t q b h1 h2 h3 h4 C hml hr hlk j60_4 0 SJ60 _ _ _ (⟨w16, c17⟩) hG V hS (lv_sub hl [0, 1, 2, 3, 4] rfl)
    · replace hG := gIf_n hG c23
      refine lv_iconst (v := 1) hx hb dX13_atLock_76 (by decide) ?_
      refine lv_goto (tgt := 81) hx hb dX13_atLock_77 (by decide) ?_
      exact j_atLock_81 l D cs o ad A S t q b h1 h2 h3 h4 C hml hr hlk j60_4 1 SJ60 _ _ _ (⟨w16, c17⟩) hG V hS (lv_sub hl [0, 1, 2, 3, 4] rfl)
set_option maxHeartbeats 400000 in
set_option maxRecDepth 100000 in
theorem j_atLock_36 {p : Program} {e : Env} {s : State} {m : MethodId} {below : List Frame} {meth : Method} {c : Code} (l : Launch) (D : va_G) (cs : ClassId × ClassId × ClassId) (o : Nat) (ad : Nat → Nat) (A : Nat → Prop) (S : mS) (t : Int32) (q : Int32) (b : Int32)  (h1 : fre S t) (h2 : 0 ≤ b ∧ b < 24) (h3 : mInv S) (h4 : gA S 28 b = 1) (C : mC p s m ([.ref o, .int t, .int q, .int b] : List Value).toArray c cX13_atLock D cs) (hml : c.maxLocals = 6) (hr : meth.sig.returnType = (some .boolean)) (hlk : meth.locks = false) (j36_s0 : Int32)  (H : Heap) (locs : List Loc) (ls : Array Slot) (hj36 : True) (hG : G_atLock S t q b = G_atLock_J36 S t q b j36_s0) (V : mV D cs o ad A S H) (hS : va_S A s.heap H locs) (hl : lv_has ls 6 [(0, .ref o), (1, .int t), (2, .int q), (3, .int b)]) : W p l e ({ frames := 4, cells := 0, slots := 0, locals := 92 } : Room) s m ([.ref o, .int t, .int q, .int b] : List Value).toArray below meth c H locs 0 0 (MQ below (va_Qi (fun r9 S9 => (pas S S9 t r9) ∧ (r9, S9) = G_atLock S t q b) (mB D cs o ad A) A) ([.ref o, .int t, .int q, .int b] : List Value).toArray s 0 0 A) (F0 m 36 ls [.int j36_s0]) := by
  have hx := C.1
  have hb := C.2.1
  have hown := C.2.2.1
  have hts := C.2.2.2.1
  rw [G_atLock_J36] at hG
  have w24 := stp_rf h3
  refine lv_istore (lv' := [(4, .int j36_s0), (0, .ref o), (1, .int t), (2, .int q), (3, .int b)]) hx hb dX13_atLock_36 hl (by decide) rfl (fun ls hl => ?_)
  refine lv_iload hx hb dX13_atLock_38 (lv_at hl 0 rfl) ?_
  refine lv_if_eq (tgt := 60) hx hb dX13_atLock_40 (by decide) (fun c25 => ?_) (fun c25 => ?_)
  · replace hG := gIf_p hG c25
    exact j_atLock_60 l D cs o ad A S t q b h1 h2 h3 h4 C hml hr hlk j36_s0 S _ _ _ (w24) hG V hS (lv_sub hl [1, 2, 3, 4, 0] rfl)
  · replace hG := gIf_n hG c25
    refine lv_aload_n hx hb dX13_atLock_43 rfl (lv_at hl 1 rfl) ?_
    refine mG31 C V dX13_atLock_44 ?_
    refine lv_iload_n hx hb dX13_atLock_47 rfl (lv_at hl 4 rfl) ?_
    refine lv_iload_n hx hb dX13_atLock_48 rfl (lv_at hl 2 rfl) ?_
    refine mSt31 C V hS (vin (N := 24) rfl (h2.1) (h2.2)) dX13_atLock_49 (fun S26 H locs eS26 V hS => ?_)
    replace hG := gLt_e hG eS26
    have w27 := st_owner w24 h2 eS26 (own8 h1.1)
    refine lv_aload_n hx hb dX13_atLock_50 rfl (lv_at hl 1 rfl) ?_
    refine mG29 C V dX13_atLock_51 ?_
    refine lv_iload_n hx hb dX13_atLock_54 rfl (lv_at hl 4 rfl) ?_
    refine lv_dup2_11 hx hb dX13_atLock_55 rfl rfl ?_
    refine mLd29 C V (vin (N := 24) rfl (h2.1) (h2.2)) dX13_atLock_56 ?_
    refine lv_iconst (v := 1) hx hb dX13_atLock_57 (by decide) ?_
    refine lv_iadd hx hb dX13_atLock_58 ?_
    refine mSt29 C V hS (vin (N := 24) rfl (h2.1) (h2.2)) dX13_atLock_59 (fun S28 H locs eS28 V hS => ?_)
    replace hG := gLt_e hG eS28
    have w29 := st_first w27 (ne5 h4) h2 eS28
    exact j_atLock_60 l D cs o ad A S t q b h1 h2 h3 h4 C hml hr hlk j36_s0 S28 _ _ _ (w29) hG V hS (lv_sub hl [1, 2, 3, 4, 0] rfl)
set_option maxHeartbeats 400000 in
set_option maxRecDepth 100000 in
theorem j_atLock_31 {p : Program} {e : Env} {s : State} {m : MethodId} {below : List Frame} {meth : Method} {c : Code} (l : Launch) (D : va_G) (cs : ClassId × ClassId × ClassId) (o : Nat) (ad : Nat → Nat) (A : Nat → Prop) (S : mS) (t : Int32) (q : Int32) (b : Int32)  (h1 : fre S t) (h2 : 0 ≤ b ∧ b < 24) (h3 : mInv S) (h4 : gA S 28 b = 1) (C : mC p s m ([.ref o, .int t, .int q, .int b] : List Value).toArray c cX13_atLock D cs) (hml : c.maxLocals = 6) (hr : meth.sig.returnType = (some .boolean)) (hlk : meth.locks = false)   (H : Heap) (locs : List Loc) (ls : Array Slot) (hj31 : True) (hG : G_atLock S t q b = G_atLock_J31 S t q b ) (V : mV D cs o ad A S H) (hS : va_S A s.heap H locs) (hl : lv_has ls 6 [(0, .ref o), (1, .int t), (2, .int q), (3, .int b)]) : W p l e ({ frames := 4, cells := 0, slots := 0, locals := 92 } : Room) s m ([.ref o, .int t, .int q, .int b] : List Value).toArray below meth c H locs 0 0 (MQ below (va_Qi (fun r9 S9 => (pas S S9 t r9) ∧ (r9, S9) = G_atLock S t q b) (mB D cs o ad A) A) ([.ref o, .int t, .int q, .int b] : List Value).toArray s 0 0 A) (F0 m 31 ls []) := by
  have hx := C.1
  have hb := C.2.1
  have hown := C.2.2.1
  have hts := C.2.2.2.1
  rw [G_atLock_J31] at hG
  have w30 := stp_rf h3
  refine lv_iconst (v := 1) hx hb dX13_atLock_31 (by decide) ?_
  refine lv_goto (tgt := 36) hx hb dX13_atLock_32 (by decide) ?_
  exact j_atLock_36 l D cs o ad A S t q b h1 h2 h3 h4 C hml hr hlk 1  _ _ _ (trivial) hG V hS (lv_sub hl [0, 1, 2, 3] rfl)
set_option maxHeartbeats 400000 in
set_option maxRecDepth 100000 in
theorem j_atLock_12 {p : Program} {e : Env} {s : State} {m : MethodId} {below : List Frame} {meth : Method} {c : Code} (l : Launch) (D : va_G) (cs : ClassId × ClassId × ClassId) (o : Nat) (ad : Nat → Nat) (A : Nat → Prop) (S : mS) (t : Int32) (q : Int32) (b : Int32)  (h1 : fre S t) (h2 : 0 ≤ b ∧ b < 24) (h3 : mInv S) (h4 : gA S 28 b = 1) (C : mC p s m ([.ref o, .int t, .int q, .int b] : List Value).toArray c cX13_atLock D cs) (hml : c.maxLocals = 6) (hr : meth.sig.returnType = (some .boolean)) (hlk : meth.locks = false)   (H : Heap) (locs : List Loc) (ls : Array Slot) (hj12 : True) (hG : G_atLock S t q b = G_atLock_J12 S t q b ) (V : mV D cs o ad A S H) (hS : va_S A s.heap H locs) (hl : lv_has ls 6 [(0, .ref o), (1, .int t), (2, .int q), (3, .int b)]) : W p l e ({ frames := 4, cells := 0, slots := 0, locals := 92 } : Room) s m ([.ref o, .int t, .int q, .int b] : List Value).toArray below meth c H locs 0 0 (MQ below (va_Qi (fun r9 S9 => (pas S S9 t r9) ∧ (r9, S9) = G_atLock S t q b) (mB D cs o ad A) A) ([.ref o, .int t, .int q, .int b] : List Value).toArray s 0 0 A) (F0 m 12 ls []) := by
  have hx := C.1
  have hb := C.2.1
  have hown := C.2.2.1
  have hts := C.2.2.2.1
  rw [G_atLock_J12] at hG
  have w31 := stp_rf h3
  refine lv_aload_n hx hb dX13_atLock_12 rfl (lv_at hl 0 rfl) ?_
  refine mG31 C V dX13_atLock_13 ?_
  refine lv_iload_n hx hb dX13_atLock_16 rfl (lv_at hl 3 rfl) ?_
  refine mLd31 C V (vin (N := 24) rfl (h2.1) (h2.2)) dX13_atLock_17 ?_
  refine lv_if_lt (tgt := 31) hx hb dX13_atLock_18 (by decide) (fun c32 => ?_) (fun c32 => ?_)
  · replace hG := gIf_p hG c32
    exact j_atLock_31 l D cs o ad A S t q b h1 h2 h3 h4 C hml hr hlk   _ _ _ (trivial) hG V hS (lv_sub hl [0, 1, 2, 3] rfl)
  · replace hG := gIf_n hG c32
    refine lv_aload_n hx hb dX13_atLock_21 rfl (lv_at hl 0 rfl) ?_
    refine mG31 C V dX13_atLock_22 ?_
    refine lv_iload_n hx hb dX13_atLock_25 rfl (lv_at hl 3 rfl) ?_
    refine mLd31 C V (vin (N := 24) rfl (h2.1) (h2.2)) dX13_atLock_26 ?_
    refine lv_iload_n hx hb dX13_atLock_27 rfl (lv_at hl 1 rfl) ?_
    refine lv_icmp_ne (tgt := 35) hx hb dX13_atLock_28 (by decide) (fun c33 => ?_) (fun c33 => ?_)
    · replace hG := gIf_n hG c33
      refine lv_iconst (v := 0) hx hb dX13_atLock_35 (by decide) ?_
      exact j_atLock_36 l D cs o ad A S t q b h1 h2 h3 h4 C hml hr hlk 0  _ _ _ (trivial) hG V hS (lv_sub hl [0, 1, 2, 3] rfl)
    · replace hG := gIf_p hG c33
      exact j_atLock_31 l D cs o ad A S t q b h1 h2 h3 h4 C hml hr hlk   _ _ _ (trivial) hG V hS (lv_sub hl [0, 1, 2, 3] rfl)
set_option maxHeartbeats 400000 in
set_option maxRecDepth 100000 in
theorem c_atLock (l : Launch) (D : va_G) (cs : ClassId × ClassId × ClassId) (o : Nat) (ad : Nat → Nat) (A : Nat → Prop) (S : mS) (t : Int32) (q : Int32) (b : Int32)  (h1 : fre S t) (h2 : 0 ≤ b ∧ b < 24) (h3 : mInv S) (h4 : gA S 28 b = 1) : Met l yX13_atLock (Cond.code yX13_atLock cX13_atLock 6 (some .boolean) :: tM) ({ frames := 4, cells := 0, slots := 0, locals := 92 }) (va_Pc [.ref o, .int t, .int q, .int b] (mB D cs o ad A S)) (va_Qi (fun r9 S9 => (pas S S9 t r9) ∧ (r9, S9) = G_atLock S t q b) (mB D cs o ad A) A) 0 0 A := by
  refine mMet (by decide) rfl (Nat.le_of_ble_eq_true rfl) ?_
  intro p e s m below meth c ls C hml hr hlk V hl
  have hx := C.1
  have hb := C.2.1
  have hown := C.2.2.1
  have hts := C.2.2.2.1
  have hS : va_S A s.heap s.heap [] := va_S.rf
  have hl : lv_has ls 6 [(0, .ref o), (1, .int t), (2, .int q), (3, .int b)] := hl
  have hG := G_atLock.eq_1 S t q b
  have w0 : stp S S := stp_rf h3
  refine lv_iload_n hx hb dX13_atLock_0 rfl (lv_at hl 2 rfl) ?_
  refine lv_bipush (v := 7) hx hb dX13_atLock_1 (by decide) ?_
  refine lv_icmp_eq (tgt := 12) hx hb dX13_atLock_3 (by decide) (fun c34 => ?_) (fun c34 => ?_)
  · replace hG := gIf_p hG c34
    exact j_atLock_12 l D cs o ad A S t q b h1 h2 h3 h4 C hml hr hlk   _ _ _ (trivial) hG V hS (lv_sub hl [0, 1, 2, 3] rfl)
  · replace hG := gIf_n hG c34
    refine lv_iload_n hx hb dX13_atLock_6 rfl (lv_at hl 2 rfl) ?_
    refine lv_bipush (v := 8) hx hb dX13_atLock_7 (by decide) ?_
    refine lv_icmp_ne (tgt := 113) hx hb dX13_atLock_9 (by decide) (fun c35 => ?_) (fun c35 => ?_)
    · replace hG := gIf_n hG c35
      refine lv_aload_n hx hb dX13_atLock_113 rfl (lv_at hl 0 rfl) ?_
      refine mG31 C V dX13_atLock_114 ?_
      refine lv_iload_n hx hb dX13_atLock_117 rfl (lv_at hl 3 rfl) ?_
      refine mLd31 C V (vin (N := 24) rfl (h2.1) (h2.2)) dX13_atLock_118 ?_
      refine lv_iload_n hx hb dX13_atLock_119 rfl (lv_at hl 1 rfl) ?_
      refine lv_icmp_eq (tgt := 130) hx hb dX13_atLock_120 (by decide) (fun c36 => ?_) (fun c36 => ?_)
      · replace hG := gIf_p hG c36
        refine lv_iload_n hx hb dX13_atLock_130 rfl (lv_at hl 2 rfl) ?_
        refine lv_bipush (v := 9) hx hb dX13_atLock_131 (by decide) ?_
        refine lv_icmp_ne (tgt := 162) hx hb dX13_atLock_133 (by decide) (fun c37 => ?_) (fun c37 => ?_)
        · replace hG := gIf_n hG c37
          refine lv_iload_n hx hb dX13_atLock_162 rfl (lv_at hl 2 rfl) ?_
          refine lv_bipush (v := 10) hx hb dX13_atLock_163 (by decide) ?_
          refine lv_icmp_ne (tgt := 275) hx hb dX13_atLock_165 (by decide) (fun c38 => ?_) (fun c38 => ?_)
          · replace hG := gIf_n hG c38
            refine lv_iload_n hx hb dX13_atLock_275 rfl (lv_at hl 2 rfl) ?_
            refine lv_bipush (v := 12) hx hb dX13_atLock_276 (by decide) ?_
            refine lv_icmp_ne (tgt := 290) hx hb dX13_atLock_278 (by decide) (fun c39 => ?_) (fun c39 => ?_)
            · replace hG := gIf_n hG c39
              refine lv_aload_n hx hb dX13_atLock_290 rfl (lv_at hl 0 rfl) ?_
              refine mG35 C V dX13_atLock_291 ?_
              refine lv_iload_n hx hb dX13_atLock_294 rfl (lv_at hl 3 rfl) ?_
              refine mLd35 C V (vin (N := 24) rfl (h2.1) (h2.2)) dX13_atLock_295 ?_
              refine lv_if_le (tgt := 303) hx hb dX13_atLock_296 (by decide) (fun c40 => ?_) (fun c40 => ?_)
              · replace hG := gIf_p hG c40
                refine lv_iconst (v := 0) hx hb dX13_atLock_303 (by decide) ?_
                exact j_atLock_304 l D cs o ad A S t q b h1 h2 h3 h4 C hml hr hlk 0  _ _ _ (a_n0 (lk_35 w0 h2) (by clear hG V hS hl C hts hown hx hb hml hr hlk; first | exact Or.inl rfl | exact Or.inr (Or.inl ⟨rfl, c40⟩) | exact Or.inr (Or.inr rfl))) hG V hS (lv_sub hl [0, 1, 2, 3] rfl)
              · replace hG := gIf_n hG c40
                refine lv_iconst (v := 1) hx hb dX13_atLock_299 (by decide) ?_
                refine lv_goto (tgt := 304) hx hb dX13_atLock_300 (by decide) ?_
                exact j_atLock_304 l D cs o ad A S t q b h1 h2 h3 h4 C hml hr hlk 1  _ _ _ (a_n0 (lk_35 w0 h2) (by clear hG V hS hl C hts hown hx hb hml hr hlk; first | exact Or.inl rfl | exact Or.inr (Or.inl ⟨rfl, c40⟩) | exact Or.inr (Or.inr rfl))) hG V hS (lv_sub hl [0, 1, 2, 3] rfl)
            · replace hG := gIf_p hG c39
              refine lv_aload_n hx hb dX13_atLock_281 rfl (lv_at hl 0 rfl) ?_
              refine mG35 C V dX13_atLock_282 ?_
              refine lv_iload_n hx hb dX13_atLock_285 rfl (lv_at hl 3 rfl) ?_
              refine mLd35 C V (vin (N := 24) rfl (h2.1) (h2.2)) dX13_atLock_286 ?_
              refine lv_goto (tgt := 304) hx hb dX13_atLock_287 (by decide) ?_
              exact j_atLock_304 l D cs o ad A S t q b h1 h2 h3 h4 C hml hr hlk (gA S 35 b)  _ _ _ (a_n0 (lk_35 w0 h2) (by clear hG V hS hl C hts hown hx hb hml hr hlk; first | exact Or.inl rfl | exact Or.inr (Or.inl ⟨rfl, nope9⟩) | exact Or.inr (Or.inr rfl))) hG V hS (lv_sub hl [0, 1, 2, 3] rfl)
          · replace hG := gIf_p hG c38
            refine lv_aload_n hx hb dX13_atLock_168 rfl (lv_at hl 0 rfl) ?_
            refine mG20 C V dX13_atLock_169 ?_
            refine lv_iload_n hx hb dX13_atLock_172 rfl (lv_at hl 1 rfl) ?_
            refine mLd20 C V (vin (N := 8) rfl (h1.1.1) (h1.1.2)) dX13_atLock_173 ?_
            refine lv_if_eq (tgt := 194) hx hb dX13_atLock_174 (by decide) (fun c41 => ?_) (fun c41 => ?_)
            · replace hG := gIf_p hG c41
              refine lv_aload_n hx hb dX13_atLock_194 rfl (lv_at hl 0 rfl) ?_
              refine mG18 C V dX13_atLock_195 ?_
              refine lv_iload_n hx hb dX13_atLock_198 rfl (lv_at hl 1 rfl) ?_
              refine lv_aload_n hx hb dX13_atLock_199 rfl (lv_at hl 0 rfl) ?_
              refine mG29 C V dX13_atLock_200 ?_
              refine lv_iload_n hx hb dX13_atLock_203 rfl (lv_at hl 3 rfl) ?_
              refine mLd29 C V (vin (N := 24) rfl (h2.1) (h2.2)) dX13_atLock_204 ?_
              refine mSt18 C V hS (vin (N := 8) rfl (h1.1.1) (h1.1.2)) dX13_atLock_205 (fun S42 H locs eS42 V hS => ?_)
              replace hG := gLt_e hG eS42
              have w43 := st_irr w0 eS42 (by simp [smK])
              refine lv_aload_n hx hb dX13_atLock_206 rfl (lv_at hl 0 rfl) ?_
              refine mG19 C V dX13_atLock_207 ?_
              refine lv_iload_n hx hb dX13_atLock_210 rfl (lv_at hl 1 rfl) ?_
              refine lv_iconst (v := 1) hx hb dX13_atLock_211 (by decide) ?_
              refine mSt19 C V hS (vin (N := 8) rfl (h1.1.1) (h1.1.2)) dX13_atLock_212 (fun S44 H locs eS44 V hS => ?_)
              replace hG := gLt_e hG eS44
              have w45 := st_irr w43 eS44 (by simp [smK])
              refine lv_aload_n hx hb dX13_atLock_213 rfl (lv_at hl 0 rfl) ?_
              refine mG22 C V dX13_atLock_214 ?_
              refine lv_iload_n hx hb dX13_atLock_217 rfl (lv_at hl 1 rfl) ?_
              refine lv_iconst (v := 1) hx hb dX13_atLock_218 (by decide) ?_
              refine mSt22 C V hS (vin (N := 8) rfl (h1.1.1) (h1.1.2)) dX13_atLock_219 (fun S46 H locs eS46 V hS => ?_)
              replace hG := gLt_e hG eS46
              have w47 := w0
              refine lv_aload_n hx hb dX13_atLock_220 rfl (lv_at hl 0 rfl) ?_
              refine mG13 C V dX13_atLock_221 ?_
              refine lv_iload_n hx hb dX13_atLock_224 rfl (lv_at hl 1 rfl) ?_
              refine lv_iconst (v := 2) hx hb dX13_atLock_225 (by decide) ?_
              refine mSt13 C V hS (vin (N := 8) rfl (h1.1.1) (h1.1.2)) dX13_atLock_226 (fun S48 H locs eS48 V hS => ?_)
              replace hG := gLt_e hG eS48
              have w49 := w0
              refine lv_aload_n hx hb dX13_atLock_227 rfl (lv_at hl 0 rfl) ?_
              refine mG16 C V dX13_atLock_228 ?_
              refine lv_iload_n hx hb dX13_atLock_231 rfl (lv_at hl 1 rfl) ?_
              refine lv_iload_n hx hb dX13_atLock_232 rfl (lv_at hl 3 rfl) ?_
              refine mSt16 C V hS (vin (N := 8) rfl (h1.1.1) (h1.1.2)) dX13_atLock_233 (fun S50 H locs eS50 V hS => ?_)
              replace hG := gLt_e hG eS50
              have w51 := w0
              refine lv_aload_n hx hb dX13_atLock_234 rfl (lv_at hl 0 rfl) ?_
              refine mG21 C V dX13_atLock_235 ?_
              refine lv_iload_n hx hb dX13_atLock_238 rfl (lv_at hl 1 rfl) ?_
              refine lv_iconst (v := 1) hx hb dX13_atLock_239 (by decide) ?_
              refine mSt21 C V hS (vin (N := 8) rfl (h1.1.1) (h1.1.2)) dX13_atLock_240 (fun S52 H locs eS52 V hS => ?_)
              replace hG := gLt_e hG eS52
              have w53 := w0
              have g35 : gA S52 35 b = gA S 35 b := by rw [eS52, eS50, eS48, eS46, eS44, eS42]; simp [gA_sA]
              have r35 := roomW2 h2 h1.1 h3 h1.2.2.1
              refine lv_aload_n hx hb dX13_atLock_241 rfl (lv_at hl 0 rfl) ?_
              refine mG34 C V dX13_atLock_242 ?_
              refine lv_bipush (v := 8) hx hb dX13_atLock_245 (by decide) ?_
              refine lv_iload_n hx hb dX13_atLock_247 rfl (lv_at hl 3 rfl) ?_
              refine lv_imul hx hb dX13_atLock_248 ?_
              refine lv_aload_n hx hb dX13_atLock_249 rfl (lv_at hl 0 rfl) ?_
              refine mG35 C V dX13_atLock_250 ?_
              refine lv_iload_n hx hb dX13_atLock_253 rfl (lv_at hl 3 rfl) ?_
              refine mLd35 C V (vin (N := 24) rfl (h2.1) (h2.2)) dX13_atLock_254 ?_
              refine lv_iadd hx hb dX13_atLock_255 ?_
              refine lv_iload_n hx hb dX13_atLock_256 rfl (lv_at hl 1 rfl) ?_
              refine mSt34 C V hS (vin (N := 192) rfl (by clear hG V hS hl C hts hown hx hb hml hr hlk; rw [g35]; exact (a_ix h2.1 h2.2 r35.1 (by decide : (8 : Int32) ≤ 8) r35.2).1) (by clear hG V hS hl C hts hown hx hb hml hr hlk; rw [g35]; exact (a_ix h2.1 h2.2 r35.1 (by decide : (8 : Int32) ≤ 8) r35.2).2)) dX13_atLock_257 (fun S54 H locs eS54 V hS => ?_)
              replace hG := gLt_e hG eS54
              have w55 := w0
              refine lv_aload_n hx hb dX13_atLock_258 rfl (lv_at hl 0 rfl) ?_
              refine mG35 C V dX13_atLock_259 ?_
              refine lv_iload_n hx hb dX13_atLock_262 rfl (lv_at hl 3 rfl) ?_
              refine lv_dup2_11 hx hb dX13_atLock_263 rfl rfl ?_
              refine mLd35 C V (vin (N := 24) rfl (h2.1) (h2.2)) dX13_atLock_264 ?_
              refine lv_iconst (v := 1) hx hb dX13_atLock_265 (by decide) ?_
              refine lv_iadd hx hb dX13_atLock_266 ?_
              refine mSt35 C V hS (vin (N := 24) rfl (h2.1) (h2.2)) dX13_atLock_267 (fun S56 H locs eS56 V hS => ?_)
              replace hG := gLt_e hG eS56
              have w57 := w0
              have lk := lk_w h1 h2 h3 h4 eS42 eS44 eS46 eS48 eS50 eS52 eS54 eS56
              refine lv_aload_n hx hb dX13_atLock_268 rfl (lv_at hl 0 rfl) ?_
              refine lv_iload_n hx hb dX13_atLock_269 rfl (lv_at hl 3 rfl) ?_
              refine mGoV (mRunV (As := [.int b]) (rest := []) C hml V (c_freed l D cs o ad A S56 b  (h2) (lk.1) (lk.2.1)) gM_freed okM_freed ⟨rfl, rfl, Nat.le_of_ble_eq_true rfl, Nat.le_of_ble_eq_true rfl⟩ hl.1 rfl (Nat.le_of_ble_eq_true rfl) dX13_atLock_270 ⟨Nat.zero_le _, Nat.zero_le _⟩) hS (fun S58 H locs hq60 V hS => ?_)
              obtain ⟨hq60, ghq60⟩ := hq60
              replace hG := gLt_e hG ghq60
              have w61 := w0
              refine lv_iconst (v := 0) hx hb dX13_atLock_273 (by decide) ?_
              exact mRetZ C hr hlk V hS (by clear hG V hS hl C hts hown hx hb hml hr hlk; first | rfl | (rw [nope9.1]; rfl)) (⟨lk_p lk.2.2 hq60.1, hG.symm⟩) dX13_atLock_274
            · replace hG := gIf_n hG c41
              refine lv_aload_n hx hb dX13_atLock_177 rfl (lv_at hl 0 rfl) ?_
              refine mG20 C V dX13_atLock_178 ?_
              refine lv_iload_n hx hb dX13_atLock_181 rfl (lv_at hl 1 rfl) ?_
              refine lv_iconst (v := 0) hx hb dX13_atLock_182 (by decide) ?_
              refine mSt20 C V hS (vin (N := 8) rfl (h1.1.1) (h1.1.2)) dX13_atLock_183 (fun S62 H locs eS62 V hS => ?_)
              replace hG := gLt_e hG eS62
              have w63 := st_irr w0 eS62 (by simp [smK])
              refine lv_aload_n hx hb dX13_atLock_184 rfl (lv_at hl 0 rfl) ?_
              refine mG14 C V dX13_atLock_185 ?_
              refine lv_iload_n hx hb dX13_atLock_188 rfl (lv_at hl 1 rfl) ?_
              refine lv_bipush (v := (-2)) hx hb dX13_atLock_189 (by decide) ?_
              refine mSt14 C V hS (vin (N := 8) rfl (h1.1.1) (h1.1.2)) dX13_atLock_191 (fun S64 H locs eS64 V hS => ?_)
              replace hG := gLt_e hG eS64
              have w65 := st_irr w63 eS64 (by simp [smK])
              refine lv_iconst (v := 1) hx hb dX13_atLock_192 (by decide) ?_
              exact mRetZ C hr hlk V hS (by clear hG V hS hl C hts hown hx hb hml hr hlk; first | rfl | (rw [nope9.1]; rfl)) (⟨pas_1 h1 w65, hG.symm⟩) dX13_atLock_193
        · replace hG := gIf_p hG c37
          refine lv_aload_n hx hb dX13_atLock_136 rfl (lv_at hl 0 rfl) ?_
          refine mG29 C V dX13_atLock_137 ?_
          refine lv_iload_n hx hb dX13_atLock_140 rfl (lv_at hl 3 rfl) ?_
          refine lv_dup2_11 hx hb dX13_atLock_141 rfl rfl ?_
          refine mLd29 C V (vin (N := 24) rfl (h2.1) (h2.2)) dX13_atLock_142 ?_
          refine lv_iconst (v := 1) hx hb dX13_atLock_143 (by decide) ?_
          refine lv_isub hx hb dX13_atLock_144 ?_
          refine mSt29 C V hS (vin (N := 24) rfl (h2.1) (h2.2)) dX13_atLock_145 (fun S66 H locs eS66 V hS => ?_)
          replace hG := gLt_e hG eS66
          have w67 := st_first w0 (ne5 h4) h2 eS66
          refine lv_aload_n hx hb dX13_atLock_146 rfl (lv_at hl 0 rfl) ?_
          refine mG29 C V dX13_atLock_147 ?_
          refine lv_iload_n hx hb dX13_atLock_150 rfl (lv_at hl 3 rfl) ?_
          refine mLd29 C V (vin (N := 24) rfl (h2.1) (h2.2)) dX13_atLock_151 ?_
          refine lv_if_ne (tgt := 160) hx hb dX13_atLock_152 (by decide) (fun c68 => ?_) (fun c68 => ?_)
          · replace hG := gIf_n hG c68
            exact j_atLock_160 l D cs o ad A S t q b h1 h2 h3 h4 C hml hr hlk  S66 _ _ _ (w67) hG V hS (lv_sub hl [0, 1, 2, 3] rfl)
          · replace hG := gIf_p hG c68
            refine lv_aload_n hx hb dX13_atLock_155 rfl (lv_at hl 0 rfl) ?_
            refine lv_iload_n hx hb dX13_atLock_156 rfl (lv_at hl 3 rfl) ?_
            refine mGoV (mRunV (As := [.int b]) (rest := []) C hml V (c_freed l D cs o ad A S66 b  (h2) (w67.1) ((w67.2.2.1 28 b (by clear hG V hS hl C hts hown hx hb hml hr hlk; simp)).trans h4)) gM_freed okM_freed ⟨rfl, rfl, Nat.le_of_ble_eq_true rfl, Nat.le_of_ble_eq_true rfl⟩ hl.1 rfl (Nat.le_of_ble_eq_true rfl) dX13_atLock_157 ⟨Nat.zero_le _, Nat.zero_le _⟩) hS (fun S69 H locs hq71 V hS => ?_)
            obtain ⟨hq71, ghq71⟩ := hq71
            replace hG := gLt_e hG ghq71
            have w72 := stp_tr w67 hq71.1
            exact j_atLock_160 l D cs o ad A S t q b h1 h2 h3 h4 C hml hr hlk  S69 _ _ _ (w72) hG V hS (lv_sub hl [0, 1, 2, 3] rfl)
      · replace hG := gIf_n hG c36
        refine lv_aload_n hx hb dX13_atLock_123 rfl (lv_at hl 0 rfl) ?_
        refine lv_iload_n hx hb dX13_atLock_124 rfl (lv_at hl 1 rfl) ?_
        refine lv_iconst (v := 1) hx hb dX13_atLock_125 (by decide) ?_
        refine mGoI (mRunV (As := [.int t, .int 1]) (rest := []) C hml V (c_fails l D cs o ad A S t 1  (h1.1)) gM_fails okM_fails ⟨rfl, rfl, Nat.le_of_ble_eq_true rfl, Nat.le_of_ble_eq_true rfl⟩ hl.1 rfl (Nat.le_of_ble_eq_true rfl) dX13_atLock_126 ⟨Nat.zero_le _, Nat.zero_le _⟩) hS (fun r74 S73 H locs hq75 V hS => ?_)
        obtain ⟨hq75, ghq75⟩ := hq75
        replace hG := gC_e hG ghq75
        exact mRetZ C hr hlk V hS (by clear hG V hS hl C hts hown hx hb hml hr hlk; first | rfl | (rw [hq75.1]; rfl)) (⟨by clear hG V hS hl C hts hown hx hb hml hr hlk; obtain ⟨q1, q2⟩ := hq75; rw [q1]; exact pas_f h1 w0 q2, hG.symm⟩) dX13_atLock_129
    · replace hG := gIf_p hG c35
      exact j_atLock_12 l D cs o ad A S t q b h1 h2 h3 h4 C hml hr hlk   _ _ _ (trivial) hG V hS (lv_sub hl [0, 1, 2, 3] rfl)

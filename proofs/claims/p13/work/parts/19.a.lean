theorem i_le {x y : Int32} (h : ¬ x < y) : y ≤ x := by grind
theorem a_16 {x : Int32} (h : ¬ 16 < x) : x ≤ 22 := by grind
theorem a_19 {x : Int32} (h : ¬ 19 < x) : x ≤ 22 := by grind
theorem a_29 {x : Int32} (h : ¬ x < 29) : 26 < x := by grind
theorem a_23 {x : Int32} (h : ¬ x < 23) : 22 < x := by grind
theorem a_22 {x : Int32} (h : x < 23) : x ≤ 22 := by grind
theorem pas_n {S S9 : mS} {t r : Int32} (h : pas S S9 t r) (hr : ¬ r = 0) : pas S S9 t 1 := by
  obtain ⟨a1, a2, a3, a4⟩ := h
  rcases a4 with q | q
  · exact ⟨a1, a2, a3, Or.inl ⟨rfl, q.2⟩⟩
  · exact absurd q hr
theorem pas_irr {S S1 S2 : mS} {t r : Int32} {k : Nat} {i x : Int32} (h : pas S S1 t r) (e : S2 = sA S1 k i x) (hk : ¬ smK k) : pas S S2 t r := by
  obtain ⟨a1, a2, a3, a4⟩ := h
  have s := stp_sm (S9 := S2) a1 (fun j => by rw [e]; rfl) (fun j q hj => by rw [e, gA_sA, if_neg (fun z => hk (by rw [← z]; exact hj))])
  refine ⟨s.1, fun k => (s.2.1 k).trans (a2 k), fun k i hk => (s.2.2.1 k i hk).trans (a3 k i hk), ?_⟩
  rcases a4 with ⟨q1, q2, q3⟩ | q
  · left
    have c := s.2.2.2 t q2.1.1 q2.1.2 q2.2.2.2 q2.2.2.1
    exact ⟨q1, fre_stp q2 s, c.2.2.1.trans q3⟩
  · exact Or.inr q

def G_with_L313 (t : Int32) (b : Int32) (j287_s0 : Int32) : Nat → mS → Int32 × mS
  | 0, SL313 => ((0 : Int32), SL313)
  | N313 + 1, SL313 => if ((gA SL313 33 b) : Int32) ≤ 0 then (if (j287_s0 : Int32) = 0 then (gLt (sA SL313 14 t (0) : mS) (fun S15 => ((1 : Int32), S15))) else (gLt (sA SL313 14 t (1) : mS) (fun S17 => ((1 : Int32), S17)))) else (gC (G_firstGoesOn SL313 b) (fun r20 S19 => gLt (sA S19 14 r20 ((gA S19 29 b)) : mS) (fun S23 => G_with_L313 t b j287_s0 N313  S23)))
def G_with_J287 (S : mS) (t : Int32) (b : Int32) (j287_s0 : Int32) : Int32 × mS := if (j287_s0 : Int32) = 0 then (if (j287_s0 : Int32) = 0 then (gLt (sA S 14 t (0) : mS) (fun S4 => ((1 : Int32), S4))) else (gLt (sA S 14 t (1) : mS) (fun S6 => ((1 : Int32), S6)))) else (gLt (sA S 30 b (1) : mS) (fun S8 => gLt (sA S8 29 b ((gA S8 14 t)) : mS) (fun S10 => G_with_L313 t b j287_s0 ((gA S10 33 b).toInt.toNat + 1)  S10)))
def G_with_L247 (b : Int32) : Nat → mS → Int32 × mS
  | 0, SL247 => ((0 : Int32), SL247)
  | N247 + 1, SL247 => if ((gA SL247 33 b) : Int32) ≤ 0 then (((1 : Int32), SL247)) else (gC (G_firstGoesOn SL247 b) (fun r44 S43 => G_with_L247 b N247  S43))
def G_with_L129 (b : Int32) : Nat → mS → Int32 × mS
  | 0, SL129 => ((0 : Int32), SL129)
  | N129 + 1, SL129 => if ((gA SL129 29 b) : Int32) = 0 then (if ((gA SL129 33 b) : Int32) ≤ 0 then (((1 : Int32), SL129)) else (gC (G_firstGoesOn SL129 b) (fun r64 S63 => G_with_L129 b N129  S63))) else (((1 : Int32), SL129))
def G_with_J104 (S : mS) (t : Int32) (q : Int32) (b : Int32) : Int32 × mS := if (q : Int32) = 20 then (if ((gA S 29 b) : Int32) ≤ 0 then (((1 : Int32), S)) else (gLt (sA S 29 b (((gA S 29 b) - 1)) : mS) (fun S58 => G_with_L129 b ((gA S58 33 b).toInt.toNat + 1)  S58))) else (if (q : Int32) = 21 then (if ((gA S 29 b) : Int32) = 0 then (((1 : Int32), S)) else (gC (G_passes S t b) (fun r54 S53 => if (r54 : Int32) = 0 then (((0 : Int32), S53)) else (((1 : Int32), S53))))) else (if (q : Int32) = 22 then (gLt ((((gA S 29 b) - (gA S 33 b)) - 1) : Int32) (fun x37 => if (x37 : Int32) ≤ 0 then (gLt (sA S 14 t (0) : mS) (fun S39 => G_with_L247 b ((gA S39 33 b).toInt.toNat + 1)  S39)) else (gC (G_passes S t b) (fun r48 S47 => if (r48 : Int32) = 0 then (gLt (sA S47 14 t (x37) : mS) (fun S51 => ((r48 : Int32), S51))) else (((r48 : Int32), S47)))))) else (if (q : Int32) = 27 then (if ((gA S 30 b) : Int32) = 0 then (G_with_J287 S t b 1 ) else (G_with_J287 S t b 0 )) else (if ((gA S 30 b) : Int32) = 0 then (gC (G_passes S t b) (fun r34 S33 => ((r34 : Int32), S33))) else (gLt (sA S 14 t ((gA S 29 b)) : mS) (fun S31 => ((1 : Int32), S31)))))))
def G_with_J21 (S : mS) (t : Int32) : Int32 × mS := gC (G_fails S t 2) (fun r69 S68 => ((r69 : Int32), S68))
def G_with (S : mS) (t : Int32) (q : Int32) (b : Int32) : Int32 × mS := gLt (G_isThere S b : Int32) (fun r72 => if (r72 : Int32) = 0 then (G_with_J21 S t  ) else (gLt (G_kindOf S q : Int32) (fun r76 => if ((gA S 28 b) : Int32) = r76 then (if 12 < (q : Int32) then (if 16 < (q : Int32) then (if 19 < (q : Int32) then (if (q : Int32) < 29 then (if (q : Int32) < 23 then (G_with_J104 S t q b  ) else (if 26 < (q : Int32) then (G_with_J104 S t q b  ) else (gC (G_atQueue S t q b) (fun r86 S85 => ((r86 : Int32), S85))))) else (gC (G_atGate S t q b) (fun r89 S88 => ((r89 : Int32), S88)))) else (gC (G_atSemaphore S t q b) (fun r92 S91 => ((r92 : Int32), S91)))) else (gC (G_atCell S t q b) (fun r95 S94 => ((r95 : Int32), S94)))) else (gC (G_atLock S t q b) (fun r98 S97 => ((r98 : Int32), S97)))) else (G_with_J21 S t  ))))
set_option maxHeartbeats 400000 in
set_option maxRecDepth 100000 in
theorem j_with_287 {p : Program} {e : Env} {s : State} {m : MethodId} {below : List Frame} {meth : Method} {c : Code} (l : Launch) (D : va_G) (cs : ClassId × ClassId × ClassId) (o : Nat) (ad : Nat → Nat) (A : Nat → Prop) (S : mS) (t : Int32) (q : Int32) (b : Int32)  (h1 : fre S t) (h3 : mInv S) (C : mC p s m ([.ref o, .int t, .int q, .int b] : List Value).toArray c cX13_with D cs) (hml : c.maxLocals = 6) (hr : meth.sig.returnType = (some .boolean)) (hlk : meth.locks = false) (j287_s0 : Int32)  (H : Heap) (locs : List Loc) (ls : Array Slot) (hj287 : (0 ≤ b ∧ b < 24) ∧ gA S 28 b ≠ 5) (hG : G_with S t q b = G_with_J287 S t b j287_s0) (V : mV D cs o ad A S H) (hS : va_S A s.heap H locs) (hl : lv_has ls 6 [(0, .ref o), (1, .int t), (2, .int q), (3, .int b)]) : W p l e ({ frames := 5, cells := 0, slots := 0, locals := 117 } : Room) s m ([.ref o, .int t, .int q, .int b] : List Value).toArray below meth c H locs 0 0 (MQ below (va_Qi (fun r9 S9 => (pas S S9 t r9) ∧ (r9, S9) = G_with S t q b) (mB D cs o ad A) A) ([.ref o, .int t, .int q, .int b] : List Value).toArray s 0 0 A) (F0 m 287 ls [.int j287_s0]) := by
  have hx := C.1
  have hb := C.2.1
  have hown := C.2.2.1
  have hts := C.2.2.2.1
  obtain ⟨h2, h5⟩ := id hj287
  rw [G_with_J287] at hG
  have w1 := stp_rf h3
  refine lv_istore (lv' := [(4, .int j287_s0), (0, .ref o), (1, .int t), (2, .int q), (3, .int b)]) hx hb dX13_with_287 hl (by decide) rfl (fun ls hl => ?_)
  refine lv_iload hx hb dX13_with_289 (lv_at hl 0 rfl) ?_
  refine lv_if_eq (tgt := 341) hx hb dX13_with_291 (by decide) (fun c2 => ?_) (fun c2 => ?_)
  · replace hG := gIf_p hG c2
    refine lv_aload_n hx hb dX13_with_341 rfl (lv_at hl 1 rfl) ?_
    refine mG14 C V dX13_with_342 ?_
    refine lv_iload_n hx hb dX13_with_345 rfl (lv_at hl 2 rfl) ?_
    refine lv_iload hx hb dX13_with_346 (lv_at hl 0 rfl) ?_
    refine lv_if_eq (tgt := 355) hx hb dX13_with_348 (by decide) (fun c3 => ?_) (fun c3 => ?_)
    · replace hG := gIf_p hG c3
      refine lv_iconst (v := 0) hx hb dX13_with_355 (by decide) ?_
      refine mSt14 C V hS (vin (N := 8) rfl (h1.1.1) (h1.1.2)) dX13_with_356 (fun S4 H locs eS4 V hS => ?_)
      replace hG := gLt_e hG eS4
      have w5 := st_irr w1 eS4 (by simp [smK])
      refine lv_iconst (v := 1) hx hb dX13_with_357 (by decide) ?_
      exact mRetZ C hr hlk V hS (by clear hG V hS hl C hts hown hx hb hml hr hlk; first | rfl | exact pz nope9 | exact pz nope9 | exact pz nope9 | exact pz nope9 | exact pz nope9 | exact pz nope9 | exact pz nope9 | (rw [nope9.1]; rfl)) (⟨pas_1 h1 w5, hG.symm⟩) dX13_with_358
    · replace hG := gIf_n hG c3
      refine lv_iconst (v := 1) hx hb dX13_with_351 (by decide) ?_
      refine lv_goto (tgt := 356) hx hb dX13_with_352 (by decide) ?_
      refine mSt14 C V hS (vin (N := 8) rfl (h1.1.1) (h1.1.2)) dX13_with_356 (fun S6 H locs eS6 V hS => ?_)
      replace hG := gLt_e hG eS6
      have w7 := st_irr w1 eS6 (by simp [smK])
      refine lv_iconst (v := 1) hx hb dX13_with_357 (by decide) ?_
      exact mRetZ C hr hlk V hS (by clear hG V hS hl C hts hown hx hb hml hr hlk; first | rfl | exact pz nope9 | exact pz nope9 | exact pz nope9 | exact pz nope9 | exact pz nope9 | exact pz nope9 | exact pz nope9 | (rw [nope9.1]; rfl)) (⟨pas_1 h1 w7, hG.symm⟩) dX13_with_358
  · replace hG := gIf_n hG c2
    refine lv_aload_n hx hb dX13_with_294 rfl (lv_at hl 1 rfl) ?_
    refine mG30 C V dX13_with_295 ?_
    refine lv_iload_n hx hb dX13_with_298 rfl (lv_at hl 4 rfl) ?_
    refine lv_iconst (v := 1) hx hb dX13_with_299 (by decide) ?_
    refine mSt30 C V hS (vin (N := 24) rfl (h2.1) (h2.2)) dX13_with_300 (fun S8 H locs eS8 V hS => ?_)
    replace hG := gLt_e hG eS8
    have w9 := st_irr w1 eS8 (by simp [smK])
    refine lv_aload_n hx hb dX13_with_301 rfl (lv_at hl 1 rfl) ?_
    refine mG29 C V dX13_with_302 ?_
    refine lv_iload_n hx hb dX13_with_305 rfl (lv_at hl 4 rfl) ?_
    refine lv_aload_n hx hb dX13_with_306 rfl (lv_at hl 1 rfl) ?_
    refine mG14 C V dX13_with_307 ?_
    refine lv_iload_n hx hb dX13_with_310 rfl (lv_at hl 2 rfl) ?_
    refine mLd14 C V (vin (N := 8) rfl (h1.1.1) (h1.1.2)) dX13_with_311 ?_
    refine mSt29 C V hS (vin (N := 24) rfl (h2.1) (h2.2)) dX13_with_312 (fun S10 H locs eS10 V hS => ?_)
    replace hG := gLt_e hG eS10
    have w11 := st_first w9 h5 h2 eS10
    have loop313 : ∀ (N313 : Nat)  (SL313 : mS) (H : Heap) (locs : List Loc) (ls : Array Slot), (stp S SL313) → ((gA SL313 33 b).toInt.toNat) < N313 → (G_with S t q b = G_with_L313 t b j287_s0 N313  SL313) → mV D cs o ad A SL313 H → va_S A s.heap H locs → lv_has ls 6 [(0, .ref o), (1, .int t), (2, .int q), (3, .int b), (4, .int j287_s0)] → W p l e ({ frames := 5, cells := 0, slots := 0, locals := 117 } : Room) s m ([.ref o, .int t, .int q, .int b] : List Value).toArray below meth c H locs 0 0 (MQ below (va_Qi (fun r9 S9 => (pas S S9 t r9) ∧ (r9, S9) = G_with S t q b) (mB D cs o ad A) A) ([.ref o, .int t, .int q, .int b] : List Value).toArray s 0 0 A) (F0 m 313 ls []) := by
      intro N313
      induction N313 with
      | zero => intro  SL313 H locs ls hi313 hm313; exact absurd hm313 (Nat.not_lt_zero _)
      | succ N313 ih313 =>
        intro  SL313 H locs ls hi313 hm313 hG V hS hl
        rw [G_with_L313] at hG
        have w12 := hi313
        refine lv_aload_n hx hb dX13_with_313 rfl (lv_at hl 0 rfl) ?_
        refine mG33 C V dX13_with_314 ?_
        refine lv_iload_n hx hb dX13_with_317 rfl (lv_at hl 3 rfl) ?_
        refine mLd33 C V (vin (N := 24) rfl (h2.1) (h2.2)) dX13_with_318 ?_
        refine lv_if_le (tgt := 341) hx hb dX13_with_319 (by decide) (fun c13 => ?_) (fun c13 => ?_)
        · replace hG := gIf_p hG c13
          refine lv_aload_n hx hb dX13_with_341 rfl (lv_at hl 0 rfl) ?_
          refine mG14 C V dX13_with_342 ?_
          refine lv_iload_n hx hb dX13_with_345 rfl (lv_at hl 1 rfl) ?_
          refine lv_iload hx hb dX13_with_346 (lv_at hl 4 rfl) ?_
          refine lv_if_eq (tgt := 355) hx hb dX13_with_348 (by decide) (fun c14 => ?_) (fun c14 => ?_)
          · replace hG := gIf_p hG c14
            refine lv_iconst (v := 0) hx hb dX13_with_355 (by decide) ?_
            refine mSt14 C V hS (vin (N := 8) rfl (h1.1.1) (h1.1.2)) dX13_with_356 (fun S15 H locs eS15 V hS => ?_)
            replace hG := gLt_e hG eS15
            have w16 := st_irr w12 eS15 (by simp [smK])
            refine lv_iconst (v := 1) hx hb dX13_with_357 (by decide) ?_
            exact mRetZ C hr hlk V hS (by clear hG V hS hl C hts hown hx hb hml hr hlk ih313 hm313; first | rfl | exact pz nope9 | exact pz nope9 | exact pz nope9 | exact pz nope9 | exact pz nope9 | exact pz nope9 | exact pz nope9 | (rw [nope9.1]; rfl)) (⟨pas_1 h1 w16, hG.symm⟩) dX13_with_358
          · replace hG := gIf_n hG c14
            refine lv_iconst (v := 1) hx hb dX13_with_351 (by decide) ?_
            refine lv_goto (tgt := 356) hx hb dX13_with_352 (by decide) ?_
            refine mSt14 C V hS (vin (N := 8) rfl (h1.1.1) (h1.1.2)) dX13_with_356 (fun S17 H locs eS17 V hS => ?_)
            replace hG := gLt_e hG eS17
            have w18 := st_irr w12 eS17 (by simp [smK])
            refine lv_iconst (v := 1) hx hb dX13_with_357 (by decide) ?_
            exact mRetZ C hr hlk V hS (by clear hG V hS hl C hts hown hx hb hml hr hlk ih313 hm313; first | rfl | exact pz nope9 | exact pz nope9 | exact pz nope9 | exact pz nope9 | exact pz nope9 | exact pz nope9 | exact pz nope9 | (rw [nope9.1]; rfl)) (⟨pas_1 h1 w18, hG.symm⟩) dX13_with_358
        · replace hG := gIf_n hG c13
          refine lv_aload_n hx hb dX13_with_322 rfl (lv_at hl 0 rfl) ?_
          refine mG14 C V dX13_with_323 ?_
          refine lv_aload_n hx hb dX13_with_326 rfl (lv_at hl 0 rfl) ?_
          refine lv_iload_n hx hb dX13_with_327 rfl (lv_at hl 3 rfl) ?_
          refine mGoI (mRunV (As := [.int b]) (rest := [.ref (ad 14)]) C hml V (c_firstGoesOn l D cs o ad A SL313 b  (h2) (w12.1) (i_gt c13)) gM_firstGoesOn okM_firstGoesOn ⟨rfl, rfl, Nat.le_of_ble_eq_true rfl, Nat.le_of_ble_eq_true rfl⟩ hl.1 rfl (Nat.le_of_ble_eq_true rfl) dX13_with_328 ⟨Nat.zero_le _, Nat.zero_le _⟩) hS (fun r20 S19 H locs hq21 V hS => ?_)
          obtain ⟨hq21, ghq21⟩ := hq21
          replace hG := gC_e hG ghq21
          have w22 := stp_tr w12 hq21.1
          refine lv_aload_n hx hb dX13_with_331 rfl (lv_at hl 0 rfl) ?_
          refine mG29 C V dX13_with_332 ?_
          refine lv_iload_n hx hb dX13_with_335 rfl (lv_at hl 3 rfl) ?_
          refine mLd29 C V (vin (N := 24) rfl (h2.1) (h2.2)) dX13_with_336 ?_
          refine mSt14 C V hS (vin (N := 8) rfl (hq21.2.2.1.1) (hq21.2.2.1.2)) dX13_with_337 (fun S23 H locs eS23 V hS => ?_)
          replace hG := gLt_e hG eS23
          have w24 := st_irr w22 eS23 (by simp [smK])
          refine lv_goto (tgt := 313) hx hb dX13_with_338 (by decide) ?_
          exact ih313  S23 _ _ _ (w24) (show _ < _ from by rw [eS23]; simp only [gA_sA, if_neg (show ¬ (33 = 14) by decide)]; exact msd hm313 hq21.2.2.2.1.1 hq21.2.2.2.1.2) hG V hS (lv_sub hl [0, 1, 2, 3, 4] rfl)
    exact loop313 ((gA S10 33 b).toInt.toNat + 1)  S10 _ _ _ (w11) (Nat.lt_succ_self _) hG V hS (lv_sub hl [1, 2, 3, 4, 0] rfl)
set_option maxHeartbeats 400000 in
set_option maxRecDepth 100000 in
theorem j_with_104 {p : Program} {e : Env} {s : State} {m : MethodId} {below : List Frame} {meth : Method} {c : Code} (l : Launch) (D : va_G) (cs : ClassId × ClassId × ClassId) (o : Nat) (ad : Nat → Nat) (A : Nat → Prop) (S : mS) (t : Int32) (q : Int32) (b : Int32)  (h1 : fre S t) (h3 : mInv S) (C : mC p s m ([.ref o, .int t, .int q, .int b] : List Value).toArray c cX13_with D cs) (hml : c.maxLocals = 6) (hr : meth.sig.returnType = (some .boolean)) (hlk : meth.locks = false)   (H : Heap) (locs : List Loc) (ls : Array Slot) (hj104 : (0 ≤ b ∧ b < 24) ∧ gA S 28 b ≠ 5) (hG : G_with S t q b = G_with_J104 S t q b ) (V : mV D cs o ad A S H) (hS : va_S A s.heap H locs) (hl : lv_has ls 6 [(0, .ref o), (1, .int t), (2, .int q), (3, .int b)]) : W p l e ({ frames := 5, cells := 0, slots := 0, locals := 117 } : Room) s m ([.ref o, .int t, .int q, .int b] : List Value).toArray below meth c H locs 0 0 (MQ below (va_Qi (fun r9 S9 => (pas S S9 t r9) ∧ (r9, S9) = G_with S t q b) (mB D cs o ad A) A) ([.ref o, .int t, .int q, .int b] : List Value).toArray s 0 0 A) (F0 m 104 ls []) := by
  have hx := C.1
  have hb := C.2.1
  have hown := C.2.2.1
  have hts := C.2.2.2.1
  obtain ⟨h2, h5⟩ := id hj104
  rw [G_with_J104] at hG
  have w25 := stp_rf h3
  refine lv_iload_n hx hb dX13_with_104 rfl (lv_at hl 2 rfl) ?_
  refine lv_bipush (v := 20) hx hb dX13_with_105 (by decide) ?_
  refine lv_icmp_ne (tgt := 158) hx hb dX13_with_107 (by decide) (fun c26 => ?_) (fun c26 => ?_)
  · replace hG := gIf_n hG c26
    refine lv_iload_n hx hb dX13_with_158 rfl (lv_at hl 2 rfl) ?_
    refine lv_bipush (v := 21) hx hb dX13_with_159 (by decide) ?_
    refine lv_icmp_ne (tgt := 188) hx hb dX13_with_161 (by decide) (fun c27 => ?_) (fun c27 => ?_)
    · replace hG := gIf_n hG c27
      refine lv_iload_n hx hb dX13_with_188 rfl (lv_at hl 2 rfl) ?_
      refine lv_bipush (v := 22) hx hb dX13_with_189 (by decide) ?_
      refine lv_icmp_ne (tgt := 267) hx hb dX13_with_191 (by decide) (fun c28 => ?_) (fun c28 => ?_)
      · replace hG := gIf_n hG c28
        refine lv_iload_n hx hb dX13_with_267 rfl (lv_at hl 2 rfl) ?_
        refine lv_bipush (v := 27) hx hb dX13_with_268 (by decide) ?_
        refine lv_icmp_ne (tgt := 359) hx hb dX13_with_270 (by decide) (fun c29 => ?_) (fun c29 => ?_)
        · replace hG := gIf_n hG c29
          refine lv_aload_n hx hb dX13_with_359 rfl (lv_at hl 0 rfl) ?_
          refine mG30 C V dX13_with_360 ?_
          refine lv_iload_n hx hb dX13_with_363 rfl (lv_at hl 3 rfl) ?_
          refine mLd30 C V (vin (N := 24) rfl (h2.1) (h2.2)) dX13_with_364 ?_
          refine lv_if_ne (tgt := 375) hx hb dX13_with_365 (by decide) (fun c30 => ?_) (fun c30 => ?_)
          · replace hG := gIf_n hG c30
            refine lv_aload_n hx hb dX13_with_375 rfl (lv_at hl 0 rfl) ?_
            refine mG14 C V dX13_with_376 ?_
            refine lv_iload_n hx hb dX13_with_379 rfl (lv_at hl 1 rfl) ?_
            refine lv_aload_n hx hb dX13_with_380 rfl (lv_at hl 0 rfl) ?_
            refine mG29 C V dX13_with_381 ?_
            refine lv_iload_n hx hb dX13_with_384 rfl (lv_at hl 3 rfl) ?_
            refine mLd29 C V (vin (N := 24) rfl (h2.1) (h2.2)) dX13_with_385 ?_
            refine mSt14 C V hS (vin (N := 8) rfl (h1.1.1) (h1.1.2)) dX13_with_386 (fun S31 H locs eS31 V hS => ?_)
            replace hG := gLt_e hG eS31
            have w32 := st_irr w25 eS31 (by simp [smK])
            refine lv_iconst (v := 1) hx hb dX13_with_387 (by decide) ?_
            exact mRetZ C hr hlk V hS (by clear hG V hS hl C hts hown hx hb hml hr hlk; first | rfl | exact pz nope9 | exact pz nope9 | exact pz nope9 | exact pz nope9 | exact pz nope9 | exact pz nope9 | exact pz nope9 | (rw [nope9.1]; rfl)) (⟨pas_1 h1 w32, hG.symm⟩) dX13_with_388
          · replace hG := gIf_p hG c30
            refine lv_aload_n hx hb dX13_with_368 rfl (lv_at hl 0 rfl) ?_
            refine lv_iload_n hx hb dX13_with_369 rfl (lv_at hl 1 rfl) ?_
            refine lv_iload_n hx hb dX13_with_370 rfl (lv_at hl 3 rfl) ?_
            refine mGoI (mRunV (As := [.int t, .int b]) (rest := []) C hml V (c_passes l D cs o ad A S t b  (fre_stp h1 w25) (h2) (w25.1)) gM_passes okM_passes ⟨rfl, rfl, Nat.le_of_ble_eq_true rfl, Nat.le_of_ble_eq_true rfl⟩ hl.1 rfl (Nat.le_of_ble_eq_true rfl) dX13_with_371 ⟨Nat.zero_le _, Nat.zero_le _⟩) hS (fun r34 S33 H locs hq35 V hS => ?_)
            obtain ⟨hq35, ghq35⟩ := hq35
            replace hG := gC_e hG ghq35
            exact mRetZ C hr hlk V hS (by clear hG V hS hl C hts hown hx hb hml hr hlk; first | rfl | exact pz nope9 | exact pz nope9 | exact pz nope9 | exact pz nope9 | exact pz nope9 | exact pz nope9 | exact pz hq35 | (rw [nope9.1]; rfl)) (⟨hq35, hG.symm⟩) dX13_with_374
        · replace hG := gIf_p hG c29
          refine lv_aload_n hx hb dX13_with_273 rfl (lv_at hl 0 rfl) ?_
          refine mG30 C V dX13_with_274 ?_
          refine lv_iload_n hx hb dX13_with_277 rfl (lv_at hl 3 rfl) ?_
          refine mLd30 C V (vin (N := 24) rfl (h2.1) (h2.2)) dX13_with_278 ?_
          refine lv_if_ne (tgt := 286) hx hb dX13_with_279 (by decide) (fun c36 => ?_) (fun c36 => ?_)
          · replace hG := gIf_n hG c36
            refine lv_iconst (v := 0) hx hb dX13_with_286 (by decide) ?_
            exact j_with_287 l D cs o ad A S t q b h1 h3 C hml hr hlk 0  _ _ _ (hj104) hG V hS (lv_sub hl [0, 1, 2, 3] rfl)
          · replace hG := gIf_p hG c36
            refine lv_iconst (v := 1) hx hb dX13_with_282 (by decide) ?_
            refine lv_goto (tgt := 287) hx hb dX13_with_283 (by decide) ?_
            exact j_with_287 l D cs o ad A S t q b h1 h3 C hml hr hlk 1  _ _ _ (hj104) hG V hS (lv_sub hl [0, 1, 2, 3] rfl)
      · replace hG := gIf_p hG c28
        refine lv_aload_n hx hb dX13_with_194 rfl (lv_at hl 0 rfl) ?_
        refine mG29 C V dX13_with_195 ?_
        refine lv_iload_n hx hb dX13_with_198 rfl (lv_at hl 3 rfl) ?_
        refine mLd29 C V (vin (N := 24) rfl (h2.1) (h2.2)) dX13_with_199 ?_
        refine lv_aload_n hx hb dX13_with_200 rfl (lv_at hl 0 rfl) ?_
        refine mG33 C V dX13_with_201 ?_
        refine lv_iload_n hx hb dX13_with_204 rfl (lv_at hl 3 rfl) ?_
        refine mLd33 C V (vin (N := 24) rfl (h2.1) (h2.2)) dX13_with_205 ?_
        refine lv_isub hx hb dX13_with_206 ?_
        refine lv_iconst (v := 1) hx hb dX13_with_207 (by decide) ?_
        refine lv_isub hx hb dX13_with_208 ?_
        refine lv_topi (fun x37 ex37 => ?_)
        replace hG := gLt_e hG ex37
        refine lv_istore (lv' := [(4, .int x37), (0, .ref o), (1, .int t), (2, .int q), (3, .int b)]) hx hb dX13_with_209 hl (by decide) rfl (fun ls hl => ?_)
        refine lv_iload hx hb dX13_with_211 (lv_at hl 0 rfl) ?_
        refine lv_if_le (tgt := 240) hx hb dX13_with_213 (by decide) (fun c38 => ?_) (fun c38 => ?_)
        · replace hG := gIf_p hG c38
          refine lv_aload_n hx hb dX13_with_240 rfl (lv_at hl 1 rfl) ?_
          refine mG14 C V dX13_with_241 ?_
          refine lv_iload_n hx hb dX13_with_244 rfl (lv_at hl 2 rfl) ?_
          refine lv_iconst (v := 0) hx hb dX13_with_245 (by decide) ?_
          refine mSt14 C V hS (vin (N := 8) rfl (h1.1.1) (h1.1.2)) dX13_with_246 (fun S39 H locs eS39 V hS => ?_)
          replace hG := gLt_e hG eS39
          have w40 := st_irr w25 eS39 (by simp [smK])
          have loop247 : ∀ (N247 : Nat)  (SL247 : mS) (H : Heap) (locs : List Loc) (ls : Array Slot), (stp S SL247) → ((gA SL247 33 b).toInt.toNat) < N247 → (G_with S t q b = G_with_L247 b N247  SL247) → mV D cs o ad A SL247 H → va_S A s.heap H locs → lv_has ls 6 [(0, .ref o), (1, .int t), (2, .int q), (3, .int b)] → W p l e ({ frames := 5, cells := 0, slots := 0, locals := 117 } : Room) s m ([.ref o, .int t, .int q, .int b] : List Value).toArray below meth c H locs 0 0 (MQ below (va_Qi (fun r9 S9 => (pas S S9 t r9) ∧ (r9, S9) = G_with S t q b) (mB D cs o ad A) A) ([.ref o, .int t, .int q, .int b] : List Value).toArray s 0 0 A) (F0 m 247 ls []) := by
            intro N247
            induction N247 with
            | zero => intro  SL247 H locs ls hi247 hm247; exact absurd hm247 (Nat.not_lt_zero _)
            | succ N247 ih247 =>
              intro  SL247 H locs ls hi247 hm247 hG V hS hl
              rw [G_with_L247] at hG
              have w41 := hi247
              refine lv_aload_n hx hb dX13_with_247 rfl (lv_at hl 0 rfl) ?_
              refine mG33 C V dX13_with_248 ?_
              refine lv_iload_n hx hb dX13_with_251 rfl (lv_at hl 3 rfl) ?_
              refine mLd33 C V (vin (N := 24) rfl (h2.1) (h2.2)) dX13_with_252 ?_
              refine lv_if_le (tgt := 265) hx hb dX13_with_253 (by decide) (fun c42 => ?_) (fun c42 => ?_)
              · replace hG := gIf_p hG c42
                refine lv_iconst (v := 1) hx hb dX13_with_265 (by decide) ?_
                exact mRetZ C hr hlk V hS (by clear hG V hS hl C hts hown hx hb hml hr hlk ih247 hm247; first | rfl | exact pz nope9 | exact pz nope9 | exact pz nope9 | exact pz nope9 | exact pz nope9 | exact pz nope9 | exact pz nope9 | (rw [nope9.1]; rfl)) (⟨pas_1 h1 w41, hG.symm⟩) dX13_with_266
              · replace hG := gIf_n hG c42
                refine lv_aload_n hx hb dX13_with_256 rfl (lv_at hl 0 rfl) ?_
                refine lv_iload_n hx hb dX13_with_257 rfl (lv_at hl 3 rfl) ?_
                refine mGoI (mRunV (As := [.int b]) (rest := []) C hml V (c_firstGoesOn l D cs o ad A SL247 b  (h2) (w41.1) (i_gt c42)) gM_firstGoesOn okM_firstGoesOn ⟨rfl, rfl, Nat.le_of_ble_eq_true rfl, Nat.le_of_ble_eq_true rfl⟩ hl.1 rfl (Nat.le_of_ble_eq_true rfl) dX13_with_258 ⟨Nat.zero_le _, Nat.zero_le _⟩) hS (fun r44 S43 H locs hq45 V hS => ?_)
                obtain ⟨hq45, ghq45⟩ := hq45
                replace hG := gC_e hG ghq45
                have w46 := stp_tr w41 hq45.1
                refine lv_pop hx hb dX13_with_261 rfl ?_
                refine lv_goto (tgt := 247) hx hb dX13_with_262 (by decide) ?_
                exact ih247  S43 _ _ _ (w46) (msd hm247 hq45.2.2.2.1.1 hq45.2.2.2.1.2) hG V hS (lv_sub hl [0, 1, 2, 3] rfl)
          exact loop247 ((gA S39 33 b).toInt.toNat + 1)  S39 _ _ _ (w40) (Nat.lt_succ_self _) hG V hS (lv_sub hl [1, 2, 3, 4] rfl)
        · replace hG := gIf_n hG c38
          refine lv_aload_n hx hb dX13_with_216 rfl (lv_at hl 1 rfl) ?_
          refine lv_iload_n hx hb dX13_with_217 rfl (lv_at hl 2 rfl) ?_
          refine lv_iload_n hx hb dX13_with_218 rfl (lv_at hl 4 rfl) ?_
          refine mGoI (mRunV (As := [.int t, .int b]) (rest := []) C hml V (c_passes l D cs o ad A S t b  (fre_stp h1 w25) (h2) (w25.1)) gM_passes okM_passes ⟨rfl, rfl, Nat.le_of_ble_eq_true rfl, Nat.le_of_ble_eq_true rfl⟩ hl.1 rfl (Nat.le_of_ble_eq_true rfl) dX13_with_219 ⟨Nat.zero_le _, Nat.zero_le _⟩) hS (fun r48 S47 H locs hq49 V hS => ?_)
          obtain ⟨hq49, ghq49⟩ := hq49
          replace hG := gC_e hG ghq49
          refine lv_istore (lv' := [(5, .int r48), (4, .int x37), (0, .ref o), (1, .int t), (2, .int q), (3, .int b)]) hx hb dX13_with_222 hl (by decide) rfl (fun ls hl => ?_)
          refine lv_iload hx hb dX13_with_224 (lv_at hl 0 rfl) ?_
          refine lv_if_ne (tgt := 237) hx hb dX13_with_226 (by decide) (fun c50 => ?_) (fun c50 => ?_)
          · replace hG := gIf_n hG c50
            refine lv_iload hx hb dX13_with_237 (lv_at hl 0 rfl) ?_
            exact mRetZ C hr hlk V hS (by clear hG V hS hl C hts hown hx hb hml hr hlk; first | rfl | exact pz nope9 | exact pz nope9 | exact pz nope9 | exact pz nope9 | exact pz nope9 | exact pz hq49 | exact pz nope9 | (rw [nope9.1]; rfl)) (⟨by clear hG V hS hl C hts hown hx hb hml hr hlk; first | exact pas_irr hq49 nope9 (by simp [smK]) | exact hq49, hG.symm⟩) dX13_with_239
          · replace hG := gIf_p hG c50
            refine lv_aload_n hx hb dX13_with_229 rfl (lv_at hl 2 rfl) ?_
            refine mG14 C V dX13_with_230 ?_
            refine lv_iload_n hx hb dX13_with_233 rfl (lv_at hl 3 rfl) ?_
            refine lv_iload hx hb dX13_with_234 (lv_at hl 1 rfl) ?_
            refine mSt14 C V hS (vin (N := 8) rfl (h1.1.1) (h1.1.2)) dX13_with_236 (fun S51 H locs eS51 V hS => ?_)
            replace hG := gLt_e hG eS51
            refine lv_iload hx hb dX13_with_237 (lv_at hl 0 rfl) ?_
            exact mRetZ C hr hlk V hS (by clear hG V hS hl C hts hown hx hb hml hr hlk; first | rfl | exact pz nope9 | exact pz nope9 | exact pz nope9 | exact pz nope9 | exact pz nope9 | exact pz hq49 | exact pz nope9 | (rw [nope9.1]; rfl)) (⟨by clear hG V hS hl C hts hown hx hb hml hr hlk; first | exact pas_irr hq49 eS51 (by simp [smK]) | exact hq49, hG.symm⟩) dX13_with_239
    · replace hG := gIf_p hG c27
      refine lv_aload_n hx hb dX13_with_164 rfl (lv_at hl 0 rfl) ?_
      refine mG29 C V dX13_with_165 ?_
      refine lv_iload_n hx hb dX13_with_168 rfl (lv_at hl 3 rfl) ?_
      refine mLd29 C V (vin (N := 24) rfl (h2.1) (h2.2)) dX13_with_169 ?_
      refine lv_if_eq (tgt := 182) hx hb dX13_with_170 (by decide) (fun c52 => ?_) (fun c52 => ?_)
      · replace hG := gIf_p hG c52
        refine lv_iconst (v := 1) hx hb dX13_with_182 (by decide) ?_
        refine lv_goto (tgt := 187) hx hb dX13_with_183 (by decide) ?_
        exact mRetZ C hr hlk V hS (by clear hG V hS hl C hts hown hx hb hml hr hlk; first | rfl | exact pz nope9 | exact pz nope9 | exact pz nope9 | exact pz nope9 | exact pz nope9 | exact pz nope9 | exact pz nope9 | (rw [nope9.1]; rfl)) (⟨by clear hG V hS hl C hts hown hx hb hml hr hlk; first | exact pas_1 h1 (stp_rf h3) | exact pas_n nope9 nope9 | (have z9 := nope9; rw [nope9] at z9; exact z9), hG.symm⟩) dX13_with_187
      · replace hG := gIf_n hG c52
        refine lv_aload_n hx hb dX13_with_173 rfl (lv_at hl 0 rfl) ?_
        refine lv_iload_n hx hb dX13_with_174 rfl (lv_at hl 1 rfl) ?_
        refine lv_iload_n hx hb dX13_with_175 rfl (lv_at hl 3 rfl) ?_
        refine mGoI (mRunV (As := [.int t, .int b]) (rest := []) C hml V (c_passes l D cs o ad A S t b  (fre_stp h1 w25) (h2) (w25.1)) gM_passes okM_passes ⟨rfl, rfl, Nat.le_of_ble_eq_true rfl, Nat.le_of_ble_eq_true rfl⟩ hl.1 rfl (Nat.le_of_ble_eq_true rfl) dX13_with_176 ⟨Nat.zero_le _, Nat.zero_le _⟩) hS (fun r54 S53 H locs hq55 V hS => ?_)
        obtain ⟨hq55, ghq55⟩ := hq55
        replace hG := gC_e hG ghq55
        refine lv_if_eq (tgt := 186) hx hb dX13_with_179 (by decide) (fun c56 => ?_) (fun c56 => ?_)
        · replace hG := gIf_p hG c56
          refine lv_iconst (v := 0) hx hb dX13_with_186 (by decide) ?_
          exact mRetZ C hr hlk V hS (by clear hG V hS hl C hts hown hx hb hml hr hlk; first | rfl | exact pz nope9 | exact pz nope9 | exact pz nope9 | exact pz nope9 | exact pz nope9 | exact pz nope9 | exact pz nope9 | (rw [nope9.1]; rfl)) (⟨by clear hG V hS hl C hts hown hx hb hml hr hlk; first | exact pas_1 h1 (stp_rf h3) | exact pas_n hq55 c56 | (have z9 := hq55; rw [c56] at z9; exact z9), hG.symm⟩) dX13_with_187
        · replace hG := gIf_n hG c56
          refine lv_iconst (v := 1) hx hb dX13_with_182 (by decide) ?_
          refine lv_goto (tgt := 187) hx hb dX13_with_183 (by decide) ?_
          exact mRetZ C hr hlk V hS (by clear hG V hS hl C hts hown hx hb hml hr hlk; first | rfl | exact pz nope9 | exact pz nope9 | exact pz nope9 | exact pz nope9 | exact pz nope9 | exact pz nope9 | exact pz nope9 | (rw [nope9.1]; rfl)) (⟨by clear hG V hS hl C hts hown hx hb hml hr hlk; first | exact pas_1 h1 (stp_rf h3) | exact pas_n hq55 c56 | (have z9 := hq55; rw [c56] at z9; exact z9), hG.symm⟩) dX13_with_187
  · replace hG := gIf_p hG c26
    refine lv_aload_n hx hb dX13_with_110 rfl (lv_at hl 0 rfl) ?_
    refine mG29 C V dX13_with_111 ?_
    refine lv_iload_n hx hb dX13_with_114 rfl (lv_at hl 3 rfl) ?_
    refine mLd29 C V (vin (N := 24) rfl (h2.1) (h2.2)) dX13_with_115 ?_
    refine lv_if_le (tgt := 156) hx hb dX13_with_116 (by decide) (fun c57 => ?_) (fun c57 => ?_)
    · replace hG := gIf_p hG c57
      refine lv_iconst (v := 1) hx hb dX13_with_156 (by decide) ?_
      exact mRetZ C hr hlk V hS (by clear hG V hS hl C hts hown hx hb hml hr hlk; first | rfl | exact pz nope9 | exact pz nope9 | exact pz nope9 | exact pz nope9 | exact pz nope9 | exact pz nope9 | exact pz nope9 | (rw [nope9.1]; rfl)) (⟨pas_1 h1 w25, hG.symm⟩) dX13_with_157
    · replace hG := gIf_n hG c57
      refine lv_aload_n hx hb dX13_with_119 rfl (lv_at hl 0 rfl) ?_
      refine mG29 C V dX13_with_120 ?_
      refine lv_iload_n hx hb dX13_with_123 rfl (lv_at hl 3 rfl) ?_
      refine lv_dup2_11 hx hb dX13_with_124 rfl rfl ?_
      refine mLd29 C V (vin (N := 24) rfl (h2.1) (h2.2)) dX13_with_125 ?_
      refine lv_iconst (v := 1) hx hb dX13_with_126 (by decide) ?_
      refine lv_isub hx hb dX13_with_127 ?_
      refine mSt29 C V hS (vin (N := 24) rfl (h2.1) (h2.2)) dX13_with_128 (fun S58 H locs eS58 V hS => ?_)
      replace hG := gLt_e hG eS58
      have w59 := st_first w25 h5 h2 eS58
      have loop129 : ∀ (N129 : Nat)  (SL129 : mS) (H : Heap) (locs : List Loc) (ls : Array Slot), (stp S SL129) → ((gA SL129 33 b).toInt.toNat) < N129 → (G_with S t q b = G_with_L129 b N129  SL129) → mV D cs o ad A SL129 H → va_S A s.heap H locs → lv_has ls 6 [(0, .ref o), (1, .int t), (2, .int q), (3, .int b)] → W p l e ({ frames := 5, cells := 0, slots := 0, locals := 117 } : Room) s m ([.ref o, .int t, .int q, .int b] : List Value).toArray below meth c H locs 0 0 (MQ below (va_Qi (fun r9 S9 => (pas S S9 t r9) ∧ (r9, S9) = G_with S t q b) (mB D cs o ad A) A) ([.ref o, .int t, .int q, .int b] : List Value).toArray s 0 0 A) (F0 m 129 ls []) := by
        intro N129
        induction N129 with
        | zero => intro  SL129 H locs ls hi129 hm129; exact absurd hm129 (Nat.not_lt_zero _)
        | succ N129 ih129 =>
          intro  SL129 H locs ls hi129 hm129 hG V hS hl
          rw [G_with_L129] at hG
          have w60 := hi129
          refine lv_aload_n hx hb dX13_with_129 rfl (lv_at hl 0 rfl) ?_
          refine mG29 C V dX13_with_130 ?_
          refine lv_iload_n hx hb dX13_with_133 rfl (lv_at hl 3 rfl) ?_
          refine mLd29 C V (vin (N := 24) rfl (h2.1) (h2.2)) dX13_with_134 ?_
          refine lv_if_ne (tgt := 156) hx hb dX13_with_135 (by decide) (fun c61 => ?_) (fun c61 => ?_)
          · replace hG := gIf_n hG c61
            refine lv_iconst (v := 1) hx hb dX13_with_156 (by decide) ?_
            exact mRetZ C hr hlk V hS (by clear hG V hS hl C hts hown hx hb hml hr hlk ih129 hm129; first | rfl | exact pz nope9 | exact pz nope9 | exact pz nope9 | exact pz nope9 | exact pz nope9 | exact pz nope9 | exact pz nope9 | (rw [nope9.1]; rfl)) (⟨pas_1 h1 w60, hG.symm⟩) dX13_with_157
          · replace hG := gIf_p hG c61
            refine lv_aload_n hx hb dX13_with_138 rfl (lv_at hl 0 rfl) ?_
            refine mG33 C V dX13_with_139 ?_
            refine lv_iload_n hx hb dX13_with_142 rfl (lv_at hl 3 rfl) ?_
            refine mLd33 C V (vin (N := 24) rfl (h2.1) (h2.2)) dX13_with_143 ?_
            refine lv_if_le (tgt := 156) hx hb dX13_with_144 (by decide) (fun c62 => ?_) (fun c62 => ?_)
            · replace hG := gIf_p hG c62
              refine lv_iconst (v := 1) hx hb dX13_with_156 (by decide) ?_
              exact mRetZ C hr hlk V hS (by clear hG V hS hl C hts hown hx hb hml hr hlk ih129 hm129; first | rfl | exact pz nope9 | exact pz nope9 | exact pz nope9 | exact pz nope9 | exact pz nope9 | exact pz nope9 | exact pz nope9 | (rw [nope9.1]; rfl)) (⟨pas_1 h1 w60, hG.symm⟩) dX13_with_157
            · replace hG := gIf_n hG c62
              refine lv_aload_n hx hb dX13_with_147 rfl (lv_at hl 0 rfl) ?_
              refine lv_iload_n hx hb dX13_with_148 rfl (lv_at hl 3 rfl) ?_
              refine mGoI (mRunV (As := [.int b]) (rest := []) C hml V (c_firstGoesOn l D cs o ad A SL129 b  (h2) (w60.1) (i_gt c62)) gM_firstGoesOn okM_firstGoesOn ⟨rfl, rfl, Nat.le_of_ble_eq_true rfl, Nat.le_of_ble_eq_true rfl⟩ hl.1 rfl (Nat.le_of_ble_eq_true rfl) dX13_with_149 ⟨Nat.zero_le _, Nat.zero_le _⟩) hS (fun r64 S63 H locs hq65 V hS => ?_)
              obtain ⟨hq65, ghq65⟩ := hq65
              replace hG := gC_e hG ghq65
              have w66 := stp_tr w60 hq65.1
              refine lv_pop hx hb dX13_with_152 rfl ?_
              refine lv_goto (tgt := 129) hx hb dX13_with_153 (by decide) ?_
              exact ih129  S63 _ _ _ (w66) (msd hm129 hq65.2.2.2.1.1 hq65.2.2.2.1.2) hG V hS (lv_sub hl [0, 1, 2, 3] rfl)
      exact loop129 ((gA S58 33 b).toInt.toNat + 1)  S58 _ _ _ (w59) (Nat.lt_succ_self _) hG V hS (lv_sub hl [0, 1, 2, 3] rfl)
set_option maxHeartbeats 400000 in
set_option maxRecDepth 100000 in
theorem j_with_21 {p : Program} {e : Env} {s : State} {m : MethodId} {below : List Frame} {meth : Method} {c : Code} (l : Launch) (D : va_G) (cs : ClassId × ClassId × ClassId) (o : Nat) (ad : Nat → Nat) (A : Nat → Prop) (S : mS) (t : Int32) (q : Int32) (b : Int32)  (h1 : fre S t) (h3 : mInv S) (C : mC p s m ([.ref o, .int t, .int q, .int b] : List Value).toArray c cX13_with D cs) (hml : c.maxLocals = 6) (hr : meth.sig.returnType = (some .boolean)) (hlk : meth.locks = false)   (H : Heap) (locs : List Loc) (ls : Array Slot) (hj21 : True) (hG : G_with S t q b = G_with_J21 S t ) (V : mV D cs o ad A S H) (hS : va_S A s.heap H locs) (hl : lv_has ls 6 [(0, .ref o), (1, .int t), (2, .int q), (3, .int b)]) : W p l e ({ frames := 5, cells := 0, slots := 0, locals := 117 } : Room) s m ([.ref o, .int t, .int q, .int b] : List Value).toArray below meth c H locs 0 0 (MQ below (va_Qi (fun r9 S9 => (pas S S9 t r9) ∧ (r9, S9) = G_with S t q b) (mB D cs o ad A) A) ([.ref o, .int t, .int q, .int b] : List Value).toArray s 0 0 A) (F0 m 21 ls []) := by
  have hx := C.1
  have hb := C.2.1
  have hown := C.2.2.1
  have hts := C.2.2.2.1
  rw [G_with_J21] at hG
  have w67 := stp_rf h3
  refine lv_aload_n hx hb dX13_with_21 rfl (lv_at hl 0 rfl) ?_
  refine lv_iload_n hx hb dX13_with_22 rfl (lv_at hl 1 rfl) ?_
  refine lv_iconst (v := 2) hx hb dX13_with_23 (by decide) ?_
  refine mGoI (mRunV (As := [.int t, .int 2]) (rest := []) C hml V (c_fails l D cs o ad A S t 2  (h1.1)) gM_fails okM_fails ⟨rfl, rfl, Nat.le_of_ble_eq_true rfl, Nat.le_of_ble_eq_true rfl⟩ hl.1 rfl (Nat.le_of_ble_eq_true rfl) dX13_with_24 ⟨Nat.zero_le _, Nat.zero_le _⟩) hS (fun r69 S68 H locs hq70 V hS => ?_)
  obtain ⟨hq70, ghq70⟩ := hq70
  replace hG := gC_e hG ghq70
  exact mRetZ C hr hlk V hS (by clear hG V hS hl C hts hown hx hb hml hr hlk; first | rfl | exact pz nope9 | exact pz nope9 | exact pz nope9 | exact pz nope9 | exact pz nope9 | exact pz nope9 | exact pz nope9 | (rw [hq70.1]; rfl)) (⟨by clear hG V hS hl C hts hown hx hb hml hr hlk; obtain ⟨q1, q2⟩ := hq70; rw [q1]; exact pas_f h1 (stp_rf h3) q2, hG.symm⟩) dX13_with_27
set_option maxHeartbeats 400000 in
set_option maxRecDepth 100000 in
theorem c_with (l : Launch) (D : va_G) (cs : ClassId × ClassId × ClassId) (o : Nat) (ad : Nat → Nat) (A : Nat → Prop) (S : mS) (t : Int32) (q : Int32) (b : Int32)  (h1 : fre S t) (h3 : mInv S) : Met l yX13_with (Cond.code yX13_with cX13_with 6 (some .boolean) :: tM) ({ frames := 5, cells := 0, slots := 0, locals := 117 }) (va_Pc [.ref o, .int t, .int q, .int b] (mB D cs o ad A S)) (va_Qi (fun r9 S9 => (pas S S9 t r9) ∧ (r9, S9) = G_with S t q b) (mB D cs o ad A) A) 0 0 A := by
  refine mMet (by decide) rfl (Nat.le_of_ble_eq_true rfl) ?_
  intro p e s m below meth c ls C hml hr hlk V hl
  have hx := C.1
  have hb := C.2.1
  have hown := C.2.2.1
  have hts := C.2.2.2.1
  have hS : va_S A s.heap s.heap [] := va_S.rf
  have hl : lv_has ls 6 [(0, .ref o), (1, .int t), (2, .int q), (3, .int b)] := hl
  have hG := G_with.eq_1 S t q b
  have w0 : stp S S := stp_rf h3
  refine lv_aload_n hx hb dX13_with_0 rfl (lv_at hl 0 rfl) ?_
  refine lv_iload_n hx hb dX13_with_1 rfl (lv_at hl 3 rfl) ?_
  refine mGoQ (mRunV (As := [.int b]) (rest := []) C hml V (c_isThere l D cs o ad A S b  ) gM_isThere okM_isThere ⟨rfl, rfl, Nat.le_of_ble_eq_true rfl, Nat.le_of_ble_eq_true rfl⟩ hl.1 rfl (Nat.le_of_ble_eq_true rfl) dX13_with_2 ⟨Nat.zero_le _, Nat.zero_le _⟩) hS (fun r72 H locs hq73 V hS => ?_)
  obtain ⟨hq73, ghq73⟩ := hq73
  replace hG := gLt_e hG ghq73
  refine lv_if_eq (tgt := 21) hx hb dX13_with_5 (by decide) (fun c74 => ?_) (fun c74 => ?_)
  · replace hG := gIf_p hG c74
    exact j_with_21 l D cs o ad A S t q b h1 h3 C hml hr hlk   _ _ _ (trivial) hG V hS (lv_sub hl [0, 1, 2, 3] rfl)
  · replace hG := gIf_n hG c74
    have h2 : 0 ≤ b ∧ b < 24 := by rcases hq73 with z | z; exact ⟨z.2.1, z.2.2.1⟩; exact absurd z.1 c74
    refine lv_aload_n hx hb dX13_with_8 rfl (lv_at hl 0 rfl) ?_
    refine mG28 C V dX13_with_9 ?_
    refine lv_iload_n hx hb dX13_with_12 rfl (lv_at hl 3 rfl) ?_
    refine mLd28 C V (vin (N := 24) rfl (h2.1) (h2.2)) dX13_with_13 ?_
    refine lv_iload_n hx hb dX13_with_14 rfl (lv_at hl 2 rfl) ?_
    refine mGoQ (mRunS (As := [.int q]) (rest := [.int (gA S 28 b)]) C hml V (c_kindOf l D cs o ad A S q  ) gM_kindOf okM_kindOf ⟨rfl, rfl, Nat.le_of_ble_eq_true rfl, Nat.le_of_ble_eq_true rfl⟩ hl.1 rfl (Nat.le_of_ble_eq_true rfl) dX13_with_15 ⟨Nat.zero_le _, Nat.zero_le _⟩) hS (fun r76 H locs hq77 V hS => ?_)
    obtain ⟨hq77, ghq77⟩ := hq77
    replace hG := gLt_e hG ghq77
    refine lv_icmp_eq (tgt := 28) hx hb dX13_with_18 (by decide) (fun c78 => ?_) (fun c78 => ?_)
    · replace hG := gIf_p hG c78
      have hk := hq77
      rw [← c78] at hk
      refine lv_iload_n hx hb dX13_with_28 rfl (lv_at hl 2 rfl) ?_
      refine lv_bipush (v := 12) hx hb dX13_with_29 (by decide) ?_
      refine lv_icmp_gt (tgt := 42) hx hb dX13_with_31 (by decide) (fun c79 => ?_) (fun c79 => ?_)
      · replace hG := gIf_p hG c79
        refine lv_iload_n hx hb dX13_with_42 rfl (lv_at hl 2 rfl) ?_
        refine lv_bipush (v := 16) hx hb dX13_with_43 (by decide) ?_
        refine lv_icmp_gt (tgt := 56) hx hb dX13_with_45 (by decide) (fun c80 => ?_) (fun c80 => ?_)
        · replace hG := gIf_p hG c80
          refine lv_iload_n hx hb dX13_with_56 rfl (lv_at hl 2 rfl) ?_
          refine lv_bipush (v := 19) hx hb dX13_with_57 (by decide) ?_
          refine lv_icmp_gt (tgt := 70) hx hb dX13_with_59 (by decide) (fun c81 => ?_) (fun c81 => ?_)
          · replace hG := gIf_p hG c81
            refine lv_iload_n hx hb dX13_with_70 rfl (lv_at hl 2 rfl) ?_
            refine lv_bipush (v := 29) hx hb dX13_with_71 (by decide) ?_
            refine lv_icmp_lt (tgt := 84) hx hb dX13_with_73 (by decide) (fun c82 => ?_) (fun c82 => ?_)
            · replace hG := gIf_p hG c82
              refine lv_iload_n hx hb dX13_with_84 rfl (lv_at hl 2 rfl) ?_
              refine lv_bipush (v := 23) hx hb dX13_with_85 (by decide) ?_
              refine lv_icmp_lt (tgt := 104) hx hb dX13_with_87 (by decide) (fun c83 => ?_) (fun c83 => ?_)
              · replace hG := gIf_p hG c83
                exact j_with_104 l D cs o ad A S t q b h1 h3 C hml hr hlk   _ _ _ (⟨h2, by first | exact hk.2.1 c79 (a_22 c83) | exact hk.2.2.2 nope9⟩) hG V hS (lv_sub hl [0, 1, 2, 3] rfl)
              · replace hG := gIf_n hG c83
                refine lv_iload_n hx hb dX13_with_90 rfl (lv_at hl 2 rfl) ?_
                refine lv_bipush (v := 26) hx hb dX13_with_91 (by decide) ?_
                refine lv_icmp_gt (tgt := 104) hx hb dX13_with_93 (by decide) (fun c84 => ?_) (fun c84 => ?_)
                · replace hG := gIf_p hG c84
                  exact j_with_104 l D cs o ad A S t q b h1 h3 C hml hr hlk   _ _ _ (⟨h2, by first | exact hk.2.1 c79 (a_22 c83) | exact hk.2.2.2 c84⟩) hG V hS (lv_sub hl [0, 1, 2, 3] rfl)
                · replace hG := gIf_n hG c84
                  refine lv_aload_n hx hb dX13_with_96 rfl (lv_at hl 0 rfl) ?_
                  refine lv_iload_n hx hb dX13_with_97 rfl (lv_at hl 1 rfl) ?_
                  refine lv_iload_n hx hb dX13_with_98 rfl (lv_at hl 2 rfl) ?_
                  refine lv_iload_n hx hb dX13_with_99 rfl (lv_at hl 3 rfl) ?_
                  refine mGoI (mRunV (As := [.int t, .int q, .int b]) (rest := []) C hml V (c_atQueue l D cs o ad A S t q b  (h1) (h2) (h3) (hk.2.2.1 (a_23 c83) (i_le c84))) gM_atQueue okM_atQueue ⟨rfl, rfl, Nat.le_of_ble_eq_true rfl, Nat.le_of_ble_eq_true rfl⟩ hl.1 rfl (Nat.le_of_ble_eq_true rfl) dX13_with_100 ⟨Nat.zero_le _, Nat.zero_le _⟩) hS (fun r86 S85 H locs hq87 V hS => ?_)
                  obtain ⟨hq87, ghq87⟩ := hq87
                  replace hG := gC_e hG ghq87
                  exact mRetZ C hr hlk V hS (by clear hG V hS hl C hts hown hx hb hml hr hlk; first | rfl | exact pz nope9 | exact pz nope9 | exact pz nope9 | exact pz nope9 | exact pz hq87 | exact pz nope9 | exact pz nope9 | (rw [nope9.1]; rfl)) (⟨hq87, hG.symm⟩) dX13_with_103
            · replace hG := gIf_n hG c82
              refine lv_aload_n hx hb dX13_with_76 rfl (lv_at hl 0 rfl) ?_
              refine lv_iload_n hx hb dX13_with_77 rfl (lv_at hl 1 rfl) ?_
              refine lv_iload_n hx hb dX13_with_78 rfl (lv_at hl 2 rfl) ?_
              refine lv_iload_n hx hb dX13_with_79 rfl (lv_at hl 3 rfl) ?_
              refine mGoI (mRunV (As := [.int t, .int q, .int b]) (rest := []) C hml V (c_atGate l D cs o ad A S t q b  (h1) (h2) (h3) (hk.2.2.2 (a_29 c82))) gM_atGate okM_atGate ⟨rfl, rfl, Nat.le_of_ble_eq_true rfl, Nat.le_of_ble_eq_true rfl⟩ hl.1 rfl (Nat.le_of_ble_eq_true rfl) dX13_with_80 ⟨Nat.zero_le _, Nat.zero_le _⟩) hS (fun r89 S88 H locs hq90 V hS => ?_)
              obtain ⟨hq90, ghq90⟩ := hq90
              replace hG := gC_e hG ghq90
              exact mRetZ C hr hlk V hS (by clear hG V hS hl C hts hown hx hb hml hr hlk; first | rfl | exact pz nope9 | exact pz nope9 | exact pz nope9 | exact pz hq90 | exact pz nope9 | exact pz nope9 | exact pz nope9 | (rw [nope9.1]; rfl)) (⟨hq90, hG.symm⟩) dX13_with_83
          · replace hG := gIf_n hG c81
            refine lv_aload_n hx hb dX13_with_62 rfl (lv_at hl 0 rfl) ?_
            refine lv_iload_n hx hb dX13_with_63 rfl (lv_at hl 1 rfl) ?_
            refine lv_iload_n hx hb dX13_with_64 rfl (lv_at hl 2 rfl) ?_
            refine lv_iload_n hx hb dX13_with_65 rfl (lv_at hl 3 rfl) ?_
            refine mGoI (mRunV (As := [.int t, .int q, .int b]) (rest := []) C hml V (c_atSemaphore l D cs o ad A S t q b  (h1) (h2) (h3) (hk.2.1 c79 (a_19 c81))) gM_atSemaphore okM_atSemaphore ⟨rfl, rfl, Nat.le_of_ble_eq_true rfl, Nat.le_of_ble_eq_true rfl⟩ hl.1 rfl (Nat.le_of_ble_eq_true rfl) dX13_with_66 ⟨Nat.zero_le _, Nat.zero_le _⟩) hS (fun r92 S91 H locs hq93 V hS => ?_)
            obtain ⟨hq93, ghq93⟩ := hq93
            replace hG := gC_e hG ghq93
            exact mRetZ C hr hlk V hS (by clear hG V hS hl C hts hown hx hb hml hr hlk; first | rfl | exact pz nope9 | exact pz nope9 | exact pz hq93 | exact pz nope9 | exact pz nope9 | exact pz nope9 | exact pz nope9 | (rw [nope9.1]; rfl)) (⟨hq93, hG.symm⟩) dX13_with_69
        · replace hG := gIf_n hG c80
          refine lv_aload_n hx hb dX13_with_48 rfl (lv_at hl 0 rfl) ?_
          refine lv_iload_n hx hb dX13_with_49 rfl (lv_at hl 1 rfl) ?_
          refine lv_iload_n hx hb dX13_with_50 rfl (lv_at hl 2 rfl) ?_
          refine lv_iload_n hx hb dX13_with_51 rfl (lv_at hl 3 rfl) ?_
          refine mGoI (mRunV (As := [.int t, .int q, .int b]) (rest := []) C hml V (c_atCell l D cs o ad A S t q b  (h1) (h2) (h3) (hk.2.1 c79 (a_16 c80))) gM_atCell okM_atCell ⟨rfl, rfl, Nat.le_of_ble_eq_true rfl, Nat.le_of_ble_eq_true rfl⟩ hl.1 rfl (Nat.le_of_ble_eq_true rfl) dX13_with_52 ⟨Nat.zero_le _, Nat.zero_le _⟩) hS (fun r95 S94 H locs hq96 V hS => ?_)
          obtain ⟨hq96, ghq96⟩ := hq96
          replace hG := gC_e hG ghq96
          exact mRetZ C hr hlk V hS (by clear hG V hS hl C hts hown hx hb hml hr hlk; first | rfl | exact pz nope9 | exact pz hq96 | exact pz nope9 | exact pz nope9 | exact pz nope9 | exact pz nope9 | exact pz nope9 | (rw [nope9.1]; rfl)) (⟨hq96, hG.symm⟩) dX13_with_55
      · replace hG := gIf_n hG c79
        refine lv_aload_n hx hb dX13_with_34 rfl (lv_at hl 0 rfl) ?_
        refine lv_iload_n hx hb dX13_with_35 rfl (lv_at hl 1 rfl) ?_
        refine lv_iload_n hx hb dX13_with_36 rfl (lv_at hl 2 rfl) ?_
        refine lv_iload_n hx hb dX13_with_37 rfl (lv_at hl 3 rfl) ?_
        refine mGoI (mRunV (As := [.int t, .int q, .int b]) (rest := []) C hml V (c_atLock l D cs o ad A S t q b  (h1) (h2) (h3) (hk.1 (i_le c79))) gM_atLock okM_atLock ⟨rfl, rfl, Nat.le_of_ble_eq_true rfl, Nat.le_of_ble_eq_true rfl⟩ hl.1 rfl (Nat.le_of_ble_eq_true rfl) dX13_with_38 ⟨Nat.zero_le _, Nat.zero_le _⟩) hS (fun r98 S97 H locs hq99 V hS => ?_)
        obtain ⟨hq99, ghq99⟩ := hq99
        replace hG := gC_e hG ghq99
        exact mRetZ C hr hlk V hS (by clear hG V hS hl C hts hown hx hb hml hr hlk; first | rfl | exact pz hq99 | exact pz nope9 | exact pz nope9 | exact pz nope9 | exact pz nope9 | exact pz nope9 | exact pz nope9 | (rw [nope9.1]; rfl)) (⟨hq99, hG.symm⟩) dX13_with_41
    · replace hG := gIf_n hG c78
      exact j_with_21 l D cs o ad A S t q b h1 h3 C hml hr hlk   _ _ _ (trivial) hG V hS (lv_sub hl [0, 1, 2, 3] rfl)

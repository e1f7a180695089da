theorem cu_m {x y n : Int32} (e : y = x + 1) (h0 : 0 ≤ x) (h : x < n) : 0 ≤ y ∧ 0 ≤ (if y ≤ n then n - y else 0) ∧ (if y ≤ n then n - y else 0) < (if x ≤ n then n - x else 0) := by
  rw [if_pos (show x ≤ n by grind), if_pos (show y ≤ n by grind)]
  have q := ca_dec e h0 h
  exact ⟨(ca_up e h0 h).1, q.1, q.2⟩

def FC_X4_callUp_L2 (o0 : Nat) (i1 : Int32) : Nat → Int32 → xS → xS
  | 0, w2_2, XGf2 => XGf2
  | N9_2 + 1, w2_2, XGf2 => if i1 ≤ (w2_2 : Int32) then (XGf2) else (gLt ((xR XGf2 o0 6).getD 0 : Nat) (fun v3_6 => gC (FC_X6_first XGf2 v3_6) (fun r7 Xf5 => gO (r7) (Xf5) (fun y8 => gLt (FC_X4_comeToFirst Xf5 o0 y8 1 : xS) (fun Xf10 => gLt (w2_2 + (1) : Int32) (fun x13 => FC_X4_callUp_L2 o0 i1 N9_2 x13 Xf10))))))
def FC_X4_callUp (X : xS) (o0 : Nat) (i1 : Int32) : xS := gLt (0 : Int32) (fun x1 => FC_X4_callUp_L2 o0 i1 ((if x1 ≤ i1 then i1 - x1 else 0).toInt.toNat + 1) x1 X)
set_option maxHeartbeats 200000 in
set_option maxRecDepth 100000 in
theorem c_X4_callUp (l : Launch) (D : va_G) (ks : kS) (τ : Nat → Nat) (L : List Nat) (A : Nat → Prop) (N : State → Prop) (hN : cNk A N)  (ψ : Int32) (f : Nat → va_E) (o0 : Nat) (i1 : Int32) (t_o0 : ty τ L o0 3) : Met l yX4_callUp (Cond.code yX4_callUp cX4_callUp 4 none :: tC) ({ frames := 3, cells := 0, slots := 0, locals := 65 }) (va_Pc [.ref o0, .int i1] (cB D ks τ L A N (ψ, f))) (va_Qv (fun x9 => (x9.1 = ψ) ∧ view x9.2 = FC_X4_callUp (view f) o0 i1) (cB D ks τ L A N) A) 0 0 A := by
  refine cMet (own := RX4) (by decide) rfl (Nat.le_of_ble_eq_true rfl) ?_
  intro p e s m below meth c ls C9 hml hr hlk V I hNs hl
  have hx := C9.1
  have hb := C9.2.1
  have hown := C9.2.2.1
  have hts := C9.2.2.2.1
  have hS : va_S A s.heap s.heap [] := va_S.rf
  have hG := FC_X4_callUp.eq_1 (view f) o0 i1
  have hl : lv_has ls 4 [(0, .ref o0), (1, .int i1)] := hl
  refine lv_iconst (v := 0) hx hb dX4_callUp_0 (by decide) ?_
  refine lv_topi (fun x1 ex1 => ?_)
  replace hG := gLt_e hG ex1
  refine lv_istore_n (lv' := [(2, .int x1), (0, .ref o0), (1, .int i1)]) hx hb dX4_callUp_1 rfl hl (by decide) rfl (fun ls hl => ?_)
  have loop2 : ∀ (N9_2 : Nat) (w2_2 : Int32)  (Gf2 : Nat → va_E) (H : Heap) (locs : List Loc) (ls : Array Slot), cI ks τ L ψ Gf2 → (0 ≤ w2_2) → ((if w2_2 ≤ i1 then i1 - w2_2 else 0).toInt.toNat) < N9_2 → (FC_X4_callUp (view f) o0 i1 = FC_X4_callUp_L2 o0 i1 N9_2 w2_2 (view Gf2)) → cV D L Gf2 A H → va_S A s.heap H locs → lv_has ls 4 [(0, .ref o0), (1, .int i1), (2, .int w2_2)] → W p l e ({ frames := 3, cells := 0, slots := 0, locals := 65 } : Room) s m ([.ref o0, .int i1] : List Value).toArray below meth c H locs 0 0 (MQ below (va_Qv (fun x9 => (x9.1 = ψ) ∧ view x9.2 = FC_X4_callUp (view f) o0 i1) (cB D ks τ L A N) A) ([.ref o0, .int i1] : List Value).toArray s 0 0 A) (F0 m 2 ls []) := by
    intro N9_2
    induction N9_2 with
    | zero => intro w2_2  Gf2 H locs ls I hi2 hm2; exact absurd hm2 (Nat.not_lt_zero _)
    | succ N9_2 ih2 =>
      intro w2_2  Gf2 H locs ls I hi2 hm2 hG V hS hl
      rw [FC_X4_callUp_L2] at hG
      refine lv_iload_n hx hb dX4_callUp_2 rfl (lv_at hl 2 rfl) ?_
      refine lv_iload_n hx hb dX4_callUp_3 rfl (lv_at hl 1 rfl) ?_
      refine lv_icmp_ge (tgt := 32) hx hb dX4_callUp_4 (by decide) (fun c2 => ?_) (fun c2 => ?_)
      · replace hG := gIf_p hG c2
        exact cRetV C9 hr hlk hN hNs V I hS (⟨rfl, hG.symm⟩) dX4_callUp_32
      · replace hG := gIf_n hG c2
        refine lv_aload_n hx hb dX4_callUp_7 rfl (lv_at hl 0 rfl) ?_
        obtain ⟨v3_0, v3_1, v3_2, v3_3, v3_4, v3_5, v3_6, hf3, t3_2, t3_6⟩ := op3 I t_o0
        refine cG C9 V t_o0.1 hf3 rfl tC_lay3 6 (by decide) tCf_X4_20 (Or.inl rfl) rfl dX4_callUp_8 ?_
        replace hG := gLt_e hG (view_gR hf3 rfl)
        obtain ⟨v4_0, v4_1, hf4, hn4, t4_1⟩ := op5 I t3_6
        refine cGoQ (cRunV (As := []) (rest := []) C9 hml hN hNs V I hS t3_6.1 hf4 rfl (c_X6_first l D ks τ L A N hN  ψ Gf2 v3_6 t3_6 ) gC_X4_95 okC_X6_first ⟨rfl, rfl, Nat.le_of_ble_eq_true rfl, Nat.le_of_ble_eq_true rfl⟩ hl.1 rfl (Nat.le_of_ble_eq_true rfl) dX4_callUp_11 ⟨Nat.zero_le _, Nat.zero_le _⟩) hS (fun r7 p6 f5 H locs hqf5 V I hS => ?_)
        obtain ⟨hqf5, ghqf5⟩ := hqf5
        replace hG := gC_e hG ghqf5
        have I : cI ks τ L ψ f5 := by rw [show p6 = ψ from hqf5.1] at I; exact I
        replace hG := gO_e hG (rfl)
        rcases r7 with _ | y8
        · replace hG := gO_n hG
          refine W.eq (g2 := F0 m 14 ls [.null]) rfl ?_
          refine lv_astore_nN (lv' := [(3, .null), (0, .ref o0), (1, .int i1), (2, .int w2_2)]) hx hb dX4_callUp_14 rfl hl (by decide) rfl (fun ls hl => ?_)
          refine lv_aload_nN hx hb dX4_callUp_15 rfl (lv_at hl 0 rfl) ?_
          refine lv_ifnonnullN hx hb dX4_callUp_16 ?_
          exact cRetV C9 hr hlk hN hNs V I hS (⟨rfl, hG.symm⟩) dX4_callUp_19
        · replace hG := gO_s hG
          have hy8 := hqf5.2 y8 rfl
          refine W.eq (g2 := F0 m 14 ls [.ref y8]) rfl ?_
          refine lv_astore_n (lv' := [(3, .ref y8), (0, .ref o0), (1, .int i1), (2, .int w2_2)]) hx hb dX4_callUp_14 rfl hl (by decide) rfl (fun ls hl => ?_)
          refine lv_aload_n hx hb dX4_callUp_15 rfl (lv_at hl 0 rfl) ?_
          refine lv_ifnonnull (tgt := 20) hx hb dX4_callUp_16 (by decide) ?_
          refine lv_aload_n hx hb dX4_callUp_20 rfl (lv_at hl 1 rfl) ?_
          refine lv_aload_n hx hb dX4_callUp_21 rfl (lv_at hl 0 rfl) ?_
          refine lv_iconst (v := 1) hx hb dX4_callUp_22 (by decide) ?_
          obtain ⟨v9_0, v9_1, v9_2, v9_3, v9_4, v9_5, v9_6, hf9, t9_2, t9_6⟩ := op3 I t_o0
          refine cGoV (cRunV (As := [.ref y8, .int 1]) (rest := []) C9 hml hN hNs V I hS t_o0.1 hf9 rfl (c_X4_comeToFirst l D ks τ L A N hN  ψ f5 o0 y8 1 t_o0 hy8 ) gC_X4_111 okC_X4_comeToFirst ⟨rfl, rfl, Nat.le_of_ble_eq_true rfl, Nat.le_of_ble_eq_true rfl⟩ hl.1 rfl (Nat.le_of_ble_eq_true rfl) dX4_callUp_23 ⟨Nat.zero_le _, Nat.zero_le _⟩) hS (fun p11 f10 H locs hqf10 V I hS => ?_)
          obtain ⟨hqf10, ghqf10⟩ := hqf10
          replace hG := gLt_e hG (ghqf10)
          have I : cI ks τ L ψ f10 := by rw [show p11 = ψ from hqf10] at I; exact I
          obtain ⟨x13, ex13⟩ : ∃ y : Int32, y = w2_2 + (1) := ⟨_, rfl⟩
          replace hG := gLt_e hG ex13
          refine lv_iinc (v := x13) (lv' := [(2, .int x13), (3, .ref y8), (0, .ref o0), (1, .int i1)]) hx hb dX4_callUp_26 hl (k := 3) rfl (by rw [ex13]; rfl) (by decide) rfl (fun ls hl => ?_)
          refine lv_goto (tgt := 2) hx hb dX4_callUp_29 (by decide) ?_
          exact ih2 x13  f10 _ _ _ I ((cu_m ex13 hi2 (ci_lt c2)).1) (cmsd hm2 (cu_m ex13 hi2 (ci_lt c2)).2.1 (cu_m ex13 hi2 (ci_lt c2)).2.2) hG V hS (lv_sub hl [2, 3, 0] rfl)
  exact loop2 ((if x1 ≤ i1 then i1 - x1 else 0).toInt.toNat + 1) x1  f _ _ _ I (by clear hG V hS hl C9 hts hown hx hb hml hr hlk; subst_vars; decide) (Nat.lt_succ_self _) hG V hS (lv_sub hl [1, 2, 0] rfl)
def FC_X4_interruptWait (X : xS) (o0 : Nat) (o1 : Nat) : xS := gO (xR X o1 8) (gLt ((xR X o0 6).getD 0 : Nat) (fun v3_6 => if (none : Option Nat) = (some v3_6) then (gLt (FC_X4_comeToFirst X o0 o1 (-2) : xS) (fun Xf5 => gLt (xI Xf5 o0 3 : Int32) (fun v8_3 => if (v8_3 : Int32) = (-1) then (gLt ((xR Xf5 o0 2).getD 0 : Nat) (fun v8_2 => gLt (xI Xf5 v8_2 0 : Int32) (fun v10_0 => if (v10_0 : Int32) = 1 then (gLt (FC_X4_free Xf5 o0 : xS) (fun Xf12 => Xf12)) else (Xf5)))) else (Xf5)))) else (gLt ((-2) : Int32) (fun x15 => gLt (xwI X o1 10 x15 : xS) (fun Xf16 => Xf16))))) (fun y2 => gLt ((xR X o0 6).getD 0 : Nat) (fun v19_6 => if ((some y2) : Option Nat) = (some v19_6) then (gLt (FC_X4_comeToFirst X o0 o1 (-2) : xS) (fun Xf21 => gLt (xI Xf21 o0 3 : Int32) (fun v24_3 => if (v24_3 : Int32) = (-1) then (gLt ((xR Xf21 o0 2).getD 0 : Nat) (fun v24_2 => gLt (xI Xf21 v24_2 0 : Int32) (fun v26_0 => if (v26_0 : Int32) = 1 then (gLt (FC_X4_free Xf21 o0 : xS) (fun Xf28 => Xf28)) else (Xf21)))) else (Xf21)))) else (gLt ((-2) : Int32) (fun x31 => gLt (xwI X o1 10 x31 : xS) (fun Xf32 => Xf32)))))
set_option maxHeartbeats 200000 in
set_option maxRecDepth 100000 in
theorem c_X4_interruptWait (l : Launch) (D : va_G) (ks : kS) (τ : Nat → Nat) (L : List Nat) (A : Nat → Prop) (N : State → Prop) (hN : cNk A N)  (ψ : Int32) (f : Nat → va_E) (o0 : Nat) (o1 : Nat) (t_o0 : ty τ L o0 3) (t_o1 : ty τ L o1 7) : Met l yX4_interruptWait (Cond.code yX4_interruptWait cX4_interruptWait 2 none :: tC) ({ frames := 4, cells := 0, slots := 0, locals := 85 }) (va_Pc [.ref o0, .ref o1] (cB D ks τ L A N (ψ, f))) (va_Qv (fun x9 => (x9.1 = ψ) ∧ view x9.2 = FC_X4_interruptWait (view f) o0 o1) (cB D ks τ L A N) A) 0 0 A := by
  refine cMet (own := RX4) (by decide) rfl (Nat.le_of_ble_eq_true rfl) ?_
  intro p e s m below meth c ls C9 hml hr hlk V I hNs hl
  have hx := C9.1
  have hb := C9.2.1
  have hown := C9.2.2.1
  have hts := C9.2.2.2.1
  have hS : va_S A s.heap s.heap [] := va_S.rf
  have hG := FC_X4_interruptWait.eq_1 (view f) o0 o1
  have hl : lv_has ls 2 [(0, .ref o0), (1, .ref o1)] := hl
  refine lv_aload_n hx hb dX4_interruptWait_0 rfl (lv_at hl 1 rfl) ?_
  obtain ⟨v1_0, v1_1, v1_2, v1_3, v1_4, v1_5, v1_6, v1_7, v1_8, v1_9, v1_10, v1_11, v1_12, hf1, t1_7, t1_8, t1_11⟩ := op7 I t_o1
  refine cG C9 V t_o1.1 hf1 rfl tC_lay7 8 (by decide) tCf_X4_118 (Or.inl rfl) rfl dX4_interruptWait_1 ?_
  replace hG := gO_e hG (view_gO hf1 rfl)
  rcases v1_8 with _ | y2
  · replace hG := gO_n hG
    refine W.eq (g2 := F0 m 4 ls [.null]) rfl ?_
    refine lv_aload_n hx hb dX4_interruptWait_4 rfl (lv_at hl 0 rfl) ?_
    obtain ⟨v3_0, v3_1, v3_2, v3_3, v3_4, v3_5, v3_6, hf3, t3_2, t3_6⟩ := op3 I t_o0
    refine cG C9 V t_o0.1 hf3 rfl tC_lay3 6 (by decide) tCf_X4_20 (Or.inl rfl) rfl dX4_interruptWait_5 ?_
    replace hG := gLt_e hG (view_gR hf3 rfl)
    refine lv_acmp_eq (rx := none) (ry := (some v3_6)) (tgt := 18) hx hb dX4_interruptWait_8 (by decide) (fun c4 => ?_) (fun c4 => ?_)
    · replace hG := gIf_p hG c4
      refine lv_aload_n hx hb dX4_interruptWait_18 rfl (lv_at hl 0 rfl) ?_
      refine lv_aload_n hx hb dX4_interruptWait_19 rfl (lv_at hl 1 rfl) ?_
      refine lv_bipush (v := (-2)) hx hb dX4_interruptWait_20 (by decide) ?_
      refine cGoV (cRunV (As := [.ref o1, .int (-2)]) (rest := []) C9 hml hN hNs V I hS t_o0.1 hf3 rfl (c_X4_comeToFirst l D ks τ L A N hN  ψ f o0 o1 (-2) t_o0 t_o1 ) gC_X4_111 okC_X4_comeToFirst ⟨rfl, rfl, Nat.le_of_ble_eq_true rfl, Nat.le_of_ble_eq_true rfl⟩ hl.1 rfl (Nat.le_of_ble_eq_true rfl) dX4_interruptWait_22 ⟨Nat.zero_le _, Nat.zero_le _⟩) hS (fun p6 f5 H locs hqf5 V I hS => ?_)
      obtain ⟨hqf5, ghqf5⟩ := hqf5
      replace hG := gLt_e hG (ghqf5)
      have I : cI ks τ L ψ f5 := by rw [show p6 = ψ from hqf5] at I; exact I
      refine lv_aload_n hx hb dX4_interruptWait_25 rfl (lv_at hl 0 rfl) ?_
      obtain ⟨v8_0, v8_1, v8_2, v8_3, v8_4, v8_5, v8_6, hf8, t8_2, t8_6⟩ := op3 I t_o0
      refine cG C9 V t_o0.1 hf8 rfl tC_lay3 3 (by decide) tCf_X4_9 (Or.inl rfl) rfl dX4_interruptWait_26 ?_
      replace hG := gLt_e hG (view_gI hf8 rfl)
      refine lv_iconst (v := (-1)) hx hb dX4_interruptWait_29 (by decide) ?_
      refine lv_icmp_ne (tgt := 48) hx hb dX4_interruptWait_30 (by decide) (fun c9 => ?_) (fun c9 => ?_)
      · replace hG := gIf_n hG c9
        exact cRetV C9 hr hlk hN hNs V I hS (⟨rfl, hG.symm⟩) dX4_interruptWait_48
      · replace hG := gIf_p hG c9
        refine lv_aload_n hx hb dX4_interruptWait_33 rfl (lv_at hl 0 rfl) ?_
        refine cG C9 V t_o0.1 hf8 rfl tC_lay3 2 (by decide) tCf_X4_92 (Or.inr tCs_X4_row) rfl dX4_interruptWait_34 ?_
        replace hG := gLt_e hG (view_gR hf8 rfl)
        obtain ⟨v10_0, v10_1, hf10, hn10, t10_1⟩ := op5 I t8_2
        refine cG C9 V t8_2.1 hf10 rfl tC_lay5 0 (by decide) tCf_X4_75 (Or.inl rfl) rfl dX4_interruptWait_37 ?_
        replace hG := gLt_e hG (view_gI hf10 rfl)
        refine lv_iconst (v := 1) hx hb dX4_interruptWait_40 (by decide) ?_
        refine lv_icmp_ne (tgt := 48) hx hb dX4_interruptWait_41 (by decide) (fun c11 => ?_) (fun c11 => ?_)
        · replace hG := gIf_n hG c11
          exact cRetV C9 hr hlk hN hNs V I hS (⟨rfl, hG.symm⟩) dX4_interruptWait_48
        · replace hG := gIf_p hG c11
          refine lv_aload_n hx hb dX4_interruptWait_44 rfl (lv_at hl 0 rfl) ?_
          refine cGoV (cRunV (As := []) (rest := []) C9 hml hN hNs V I hS t_o0.1 hf8 rfl (c_X4_free l D ks τ L A N hN  ψ f5 o0 t_o0 ) gC_X4_66 okC_X4_free ⟨rfl, rfl, Nat.le_of_ble_eq_true rfl, Nat.le_of_ble_eq_true rfl⟩ hl.1 rfl (Nat.le_of_ble_eq_true rfl) dX4_interruptWait_45 ⟨Nat.zero_le _, Nat.zero_le _⟩) hS (fun p13 f12 H locs hqf12 V I hS => ?_)
          obtain ⟨hqf12, ghqf12⟩ := hqf12
          replace hG := gLt_e hG (ghqf12)
          have I : cI ks τ L ψ f12 := by rw [show p13 = ψ from hqf12] at I; exact I
          exact cRetV C9 hr hlk hN hNs V I hS (⟨rfl, hG.symm⟩) dX4_interruptWait_48
    · replace hG := gIf_n hG c4
      refine lv_aload_n hx hb dX4_interruptWait_11 rfl (lv_at hl 1 rfl) ?_
      refine lv_bipush (v := (-2)) hx hb dX4_interruptWait_12 (by decide) ?_
      refine lv_topi (fun x15 ex15 => ?_)
      replace hG := gLt_e hG ex15
      refine cP (v := .int x15) (ty := .int) C9 V hS t_o1.1 hf1 rfl tC_lay7 tyX8 tyX8_ok nmX8 10 (by decide) tCf_X4_105 rfl rfl (by decide +kernel) rfl rfl (Nat.le_of_ble_eq_true rfl) dX4_interruptWait_14 (fun f16 H locs ef16 V hS => ?_)
      replace hG := gLt_e hG (view_I hf1 rfl ef16)
      have hf17 : f16 o1 = .inr (7, [.int v1_0, .int v1_1, .int v1_2, .int v1_3, .int v1_4, .int v1_5, .long v1_6, va_rf v1_7, va_rf none, .int v1_9, .int x15, .ref v1_11, .int v1_12]) := up_s ef16
      have I := cI_up I t_o1.2 ef16 (mk7 t1_7 tyO_n t1_11)
      have hf18 := up_n ef16 t_o1.2 t_o0.2 (by first | decide | omega) hf3
      exact cRetV C9 hr hlk hN hNs V I hS (⟨rfl, hG.symm⟩) dX4_interruptWait_17
  · replace hG := gO_s hG
    have hy2 := t1_8 y2 rfl
    refine W.eq (g2 := F0 m 4 ls [.ref y2]) rfl ?_
    refine lv_aload_n hx hb dX4_interruptWait_4 rfl (lv_at hl 0 rfl) ?_
    obtain ⟨v19_0, v19_1, v19_2, v19_3, v19_4, v19_5, v19_6, hf19, t19_2, t19_6⟩ := op3 I t_o0
    refine cG C9 V t_o0.1 hf19 rfl tC_lay3 6 (by decide) tCf_X4_20 (Or.inl rfl) rfl dX4_interruptWait_5 ?_
    replace hG := gLt_e hG (view_gR hf19 rfl)
    refine lv_acmp_eq (rx := (some y2)) (ry := (some v19_6)) (tgt := 18) hx hb dX4_interruptWait_8 (by decide) (fun c20 => ?_) (fun c20 => ?_)
    · replace hG := gIf_p hG c20
      refine lv_aload_n hx hb dX4_interruptWait_18 rfl (lv_at hl 0 rfl) ?_
      refine lv_aload_n hx hb dX4_interruptWait_19 rfl (lv_at hl 1 rfl) ?_
      refine lv_bipush (v := (-2)) hx hb dX4_interruptWait_20 (by decide) ?_
      refine cGoV (cRunV (As := [.ref o1, .int (-2)]) (rest := []) C9 hml hN hNs V I hS t_o0.1 hf19 rfl (c_X4_comeToFirst l D ks τ L A N hN  ψ f o0 o1 (-2) t_o0 t_o1 ) gC_X4_111 okC_X4_comeToFirst ⟨rfl, rfl, Nat.le_of_ble_eq_true rfl, Nat.le_of_ble_eq_true rfl⟩ hl.1 rfl (Nat.le_of_ble_eq_true rfl) dX4_interruptWait_22 ⟨Nat.zero_le _, Nat.zero_le _⟩) hS (fun p22 f21 H locs hqf21 V I hS => ?_)
      obtain ⟨hqf21, ghqf21⟩ := hqf21
      replace hG := gLt_e hG (ghqf21)
      have I : cI ks τ L ψ f21 := by rw [show p22 = ψ from hqf21] at I; exact I
      refine lv_aload_n hx hb dX4_interruptWait_25 rfl (lv_at hl 0 rfl) ?_
      obtain ⟨v24_0, v24_1, v24_2, v24_3, v24_4, v24_5, v24_6, hf24, t24_2, t24_6⟩ := op3 I t_o0
      refine cG C9 V t_o0.1 hf24 rfl tC_lay3 3 (by decide) tCf_X4_9 (Or.inl rfl) rfl dX4_interruptWait_26 ?_
      replace hG := gLt_e hG (view_gI hf24 rfl)
      refine lv_iconst (v := (-1)) hx hb dX4_interruptWait_29 (by decide) ?_
      refine lv_icmp_ne (tgt := 48) hx hb dX4_interruptWait_30 (by decide) (fun c25 => ?_) (fun c25 => ?_)
      · replace hG := gIf_n hG c25
        exact cRetV C9 hr hlk hN hNs V I hS (⟨rfl, hG.symm⟩) dX4_interruptWait_48
      · replace hG := gIf_p hG c25
        refine lv_aload_n hx hb dX4_interruptWait_33 rfl (lv_at hl 0 rfl) ?_
        refine cG C9 V t_o0.1 hf24 rfl tC_lay3 2 (by decide) tCf_X4_92 (Or.inr tCs_X4_row) rfl dX4_interruptWait_34 ?_
        replace hG := gLt_e hG (view_gR hf24 rfl)
        obtain ⟨v26_0, v26_1, hf26, hn26, t26_1⟩ := op5 I t24_2
        refine cG C9 V t24_2.1 hf26 rfl tC_lay5 0 (by decide) tCf_X4_75 (Or.inl rfl) rfl dX4_interruptWait_37 ?_
        replace hG := gLt_e hG (view_gI hf26 rfl)
        refine lv_iconst (v := 1) hx hb dX4_interruptWait_40 (by decide) ?_
        refine lv_icmp_ne (tgt := 48) hx hb dX4_interruptWait_41 (by decide) (fun c27 => ?_) (fun c27 => ?_)
        · replace hG := gIf_n hG c27
          exact cRetV C9 hr hlk hN hNs V I hS (⟨rfl, hG.symm⟩) dX4_interruptWait_48
        · replace hG := gIf_p hG c27
          refine lv_aload_n hx hb dX4_interruptWait_44 rfl (lv_at hl 0 rfl) ?_
          refine cGoV (cRunV (As := []) (rest := []) C9 hml hN hNs V I hS t_o0.1 hf24 rfl (c_X4_free l D ks τ L A N hN  ψ f21 o0 t_o0 ) gC_X4_66 okC_X4_free ⟨rfl, rfl, Nat.le_of_ble_eq_true rfl, Nat.le_of_ble_eq_true rfl⟩ hl.1 rfl (Nat.le_of_ble_eq_true rfl) dX4_interruptWait_45 ⟨Nat.zero_le _, Nat.zero_le _⟩) hS (fun p29 f28 H locs hqf28 V I hS => ?_)
          obtain ⟨hqf28, ghqf28⟩ := hqf28
          replace hG := gLt_e hG (ghqf28)
          have I : cI ks τ L ψ f28 := by rw [show p29 = ψ from hqf28] at I; exact I
          exact cRetV C9 hr hlk hN hNs V I hS (⟨rfl, hG.symm⟩) dX4_interruptWait_48
    · replace hG := gIf_n hG c20
      refine lv_aload_n hx hb dX4_interruptWait_11 rfl (lv_at hl 1 rfl) ?_
      refine lv_bipush (v := (-2)) hx hb dX4_interruptWait_12 (by decide) ?_
      refine lv_topi (fun x31 ex31 => ?_)
      replace hG := gLt_e hG ex31
      refine cP (v := .int x31) (ty := .int) C9 V hS t_o1.1 hf1 rfl tC_lay7 tyX8 tyX8_ok nmX8 10 (by decide) tCf_X4_105 rfl rfl (by decide +kernel) rfl rfl (Nat.le_of_ble_eq_true rfl) dX4_interruptWait_14 (fun f32 H locs ef32 V hS => ?_)
      replace hG := gLt_e hG (view_I hf1 rfl ef32)
      have hf33 : f32 o1 = .inr (7, [.int v1_0, .int v1_1, .int v1_2, .int v1_3, .int v1_4, .int v1_5, .long v1_6, va_rf v1_7, va_rf (some y2), .int v1_9, .int x31, .ref v1_11, .int v1_12]) := up_s ef32
      have I := cI_up I t_o1.2 ef32 (mk7 t1_7 (tyO_s hy2) t1_11)
      have hf34 := up_n ef32 t_o1.2 t_o0.2 (by first | decide | omega) hf19
      exact cRetV C9 hr hlk hN hNs V I hS (⟨rfl, hG.symm⟩) dX4_interruptWait_17
def FC_X9_holdUp (X : xS) (o0 : Nat) (o1 : Nat) : xS := gC (FC_X8_refusesToWait X o1) (fun r4 Xf2 => if (r4 : Int32) = 0 then (gLt ((xR Xf2 o0 2).getD 0 : Nat) (fun v7_2 => gLt (FC_X8_standIn Xf2 o1 v7_2 o0 : xS) (fun Xf9 => Xf9))) else (Xf2))
set_option maxHeartbeats 200000 in
set_option maxRecDepth 100000 in
theorem c_X9_holdUp (l : Launch) (D : va_G) (ks : kS) (τ : Nat → Nat) (L : List Nat) (A : Nat → Prop) (N : State → Prop) (hN : cNk A N)  (ψ : Int32) (f : Nat → va_E) (o0 : Nat) (o1 : Nat) (t_o0 : tyS τ L o0) (t_o1 : ty τ L o1 7) : Met l yX9_holdUp (Cond.code yX9_holdUp cX9_holdUp 2 none :: tC) ({ frames := 3, cells := 0, slots := 0, locals := 63 }) (va_Pc [.ref o0, .ref o1] (cB D ks τ L A N (ψ, f))) (va_Qv (fun x9 => (x9.1 = ψ) ∧ view x9.2 = FC_X9_holdUp (view f) o0 o1) (cB D ks τ L A N) A) 0 0 A := by
  refine cMet (own := RX9) (by decide) rfl (Nat.le_of_ble_eq_true rfl) ?_
  intro p e s m below meth c ls C9 hml hr hlk V I hNs hl
  have hx := C9.1
  have hb := C9.2.1
  have hown := C9.2.2.1
  have hts := C9.2.2.2.1
  have hS : va_S A s.heap s.heap [] := va_S.rf
  have hG := FC_X9_holdUp.eq_1 (view f) o0 o1
  have hl : lv_has ls 2 [(0, .ref o0), (1, .ref o1)] := hl
  refine lv_aload_n hx hb dX9_holdUp_0 rfl (lv_at hl 1 rfl) ?_
  obtain ⟨v1_0, v1_1, v1_2, v1_3, v1_4, v1_5, v1_6, v1_7, v1_8, v1_9, v1_10, v1_11, v1_12, hf1, t1_7, t1_8, t1_11⟩ := op7 I t_o1
  refine cGoI (cRunV (As := []) (rest := []) C9 hml hN hNs V I hS t_o1.1 hf1 rfl (c_X8_refusesToWait l D ks τ L A N hN  ψ f o1 t_o1 ) gC_X9_30 okC_X8_refusesToWait ⟨rfl, rfl, Nat.le_of_ble_eq_true rfl, Nat.le_of_ble_eq_true rfl⟩ hl.1 rfl (Nat.le_of_ble_eq_true rfl) dX9_holdUp_1 ⟨Nat.zero_le _, Nat.zero_le _⟩) hS (fun r4 p3 f2 H locs hqf2 V I hS => ?_)
  obtain ⟨hqf2, ghqf2⟩ := hqf2
  replace hG := gC_e hG ghqf2
  have I : cI ks τ L ψ f2 := by rw [show p3 = ψ from hqf2] at I; exact I
  refine lv_if_ne (tgt := 16) hx hb dX9_holdUp_4 (by decide) (fun c5 => ?_) (fun c5 => ?_)
  · replace hG := gIf_n hG c5
    exact cRetV C9 hr hlk hN hNs V I hS (⟨rfl, hG.symm⟩) dX9_holdUp_16
  · replace hG := gIf_p hG c5
    refine lv_aload_n hx hb dX9_holdUp_7 rfl (lv_at hl 1 rfl) ?_
    refine lv_aload_n hx hb dX9_holdUp_8 rfl (lv_at hl 0 rfl) ?_
    obtain ⟨hL6, hk6⟩ := id t_o0
    rcases hk6 with hk6 | hk6 | hk6 | hk6 | hk6 | hk6
    · have tk6 : ty τ L o0 0 := ⟨hL6, hk6⟩
      obtain ⟨v7_0, v7_1, v7_2, v7_3, v7_4, hf7, t7_2⟩ := op0 I tk6
      refine cG C9 V tk6.1 hf7 rfl tC_lay0 2 (by decide) tCf_X9_12 (Or.inl rfl) rfl dX9_holdUp_9 ?_
      replace hG := gLt_e hG (view_gR hf7 rfl)
      refine lv_aload_n hx hb dX9_holdUp_12 rfl (lv_at hl 0 rfl) ?_
      obtain ⟨v8_0, v8_1, v8_2, v8_3, v8_4, v8_5, v8_6, v8_7, v8_8, v8_9, v8_10, v8_11, v8_12, hf8, t8_7, t8_8, t8_11⟩ := op7 I t_o1
      refine cGoV (cRunV (As := [.ref v7_2, .ref o0]) (rest := []) C9 hml hN hNs V I hS t_o1.1 hf8 rfl (c_X8_standIn l D ks τ L A N hN  ψ f2 o1 v7_2 o0 t_o1 t7_2 (tyS_of tk6 (by decide)) ) gC_X9_36 okC_X8_standIn ⟨rfl, rfl, Nat.le_of_ble_eq_true rfl, Nat.le_of_ble_eq_true rfl⟩ hl.1 rfl (Nat.le_of_ble_eq_true rfl) dX9_holdUp_13 ⟨Nat.zero_le _, Nat.zero_le _⟩) hS (fun p10 f9 H locs hqf9 V I hS => ?_)
      obtain ⟨hqf9, ghqf9⟩ := hqf9
      replace hG := gLt_e hG (ghqf9)
      have I : cI ks τ L ψ f9 := by rw [show p10 = ψ from hqf9] at I; exact I
      exact cRetV C9 hr hlk hN hNs V I hS (⟨rfl, hG.symm⟩) dX9_holdUp_16
    · have tk6 : ty τ L o0 1 := ⟨hL6, hk6⟩
      obtain ⟨v12_0, v12_1, v12_2, v12_3, v12_4, hf12, t12_2⟩ := op1 I tk6
      refine cG C9 V tk6.1 hf12 rfl tC_lay1 2 (by decide) tCf_X9_12 (Or.inl rfl) rfl dX9_holdUp_9 ?_
      replace hG := gLt_e hG (view_gR hf12 rfl)
      refine lv_aload_n hx hb dX9_holdUp_12 rfl (lv_at hl 0 rfl) ?_
      obtain ⟨v13_0, v13_1, v13_2, v13_3, v13_4, v13_5, v13_6, v13_7, v13_8, v13_9, v13_10, v13_11, v13_12, hf13, t13_7, t13_8, t13_11⟩ := op7 I t_o1
      refine cGoV (cRunV (As := [.ref v12_2, .ref o0]) (rest := []) C9 hml hN hNs V I hS t_o1.1 hf13 rfl (c_X8_standIn l D ks τ L A N hN  ψ f2 o1 v12_2 o0 t_o1 t12_2 (tyS_of tk6 (by decide)) ) gC_X9_36 okC_X8_standIn ⟨rfl, rfl, Nat.le_of_ble_eq_true rfl, Nat.le_of_ble_eq_true rfl⟩ hl.1 rfl (Nat.le_of_ble_eq_true rfl) dX9_holdUp_13 ⟨Nat.zero_le _, Nat.zero_le _⟩) hS (fun p15 f14 H locs hqf14 V I hS => ?_)
      obtain ⟨hqf14, ghqf14⟩ := hqf14
      replace hG := gLt_e hG (ghqf14)
      have I : cI ks τ L ψ f14 := by rw [show p15 = ψ from hqf14] at I; exact I
      exact cRetV C9 hr hlk hN hNs V I hS (⟨rfl, hG.symm⟩) dX9_holdUp_16
    · have tk6 : ty τ L o0 2 := ⟨hL6, hk6⟩
      obtain ⟨v17_0, v17_1, v17_2, v17_3, hf17, t17_2⟩ := op2 I tk6
      refine cG C9 V tk6.1 hf17 rfl tC_lay2 2 (by decide) tCf_X9_12 (Or.inl rfl) rfl dX9_holdUp_9 ?_
      replace hG := gLt_e hG (view_gR hf17 rfl)
      refine lv_aload_n hx hb dX9_holdUp_12 rfl (lv_at hl 0 rfl) ?_
      obtain ⟨v18_0, v18_1, v18_2, v18_3, v18_4, v18_5, v18_6, v18_7, v18_8, v18_9, v18_10, v18_11, v18_12, hf18, t18_7, t18_8, t18_11⟩ := op7 I t_o1
      refine cGoV (cRunV (As := [.ref v17_2, .ref o0]) (rest := []) C9 hml hN hNs V I hS t_o1.1 hf18 rfl (c_X8_standIn l D ks τ L A N hN  ψ f2 o1 v17_2 o0 t_o1 t17_2 (tyS_of tk6 (by decide)) ) gC_X9_36 okC_X8_standIn ⟨rfl, rfl, Nat.le_of_ble_eq_true rfl, Nat.le_of_ble_eq_true rfl⟩ hl.1 rfl (Nat.le_of_ble_eq_true rfl) dX9_holdUp_13 ⟨Nat.zero_le _, Nat.zero_le _⟩) hS (fun p20 f19 H locs hqf19 V I hS => ?_)
      obtain ⟨hqf19, ghqf19⟩ := hqf19
      replace hG := gLt_e hG (ghqf19)
      have I : cI ks τ L ψ f19 := by rw [show p20 = ψ from hqf19] at I; exact I
      exact cRetV C9 hr hlk hN hNs V I hS (⟨rfl, hG.symm⟩) dX9_holdUp_16
    · have tk6 : ty τ L o0 3 := ⟨hL6, hk6⟩
      obtain ⟨v22_0, v22_1, v22_2, v22_3, v22_4, v22_5, v22_6, hf22, t22_2, t22_6⟩ := op3 I tk6
      refine cG C9 V tk6.1 hf22 rfl tC_lay3 2 (by decide) tCf_X9_12 (Or.inl rfl) rfl dX9_holdUp_9 ?_
      replace hG := gLt_e hG (view_gR hf22 rfl)
      refine lv_aload_n hx hb dX9_holdUp_12 rfl (lv_at hl 0 rfl) ?_
      obtain ⟨v23_0, v23_1, v23_2, v23_3, v23_4, v23_5, v23_6, v23_7, v23_8, v23_9, v23_10, v23_11, v23_12, hf23, t23_7, t23_8, t23_11⟩ := op7 I t_o1
      refine cGoV (cRunV (As := [.ref v22_2, .ref o0]) (rest := []) C9 hml hN hNs V I hS t_o1.1 hf23 rfl (c_X8_standIn l D ks τ L A N hN  ψ f2 o1 v22_2 o0 t_o1 t22_2 (tyS_of tk6 (by decide)) ) gC_X9_36 okC_X8_standIn ⟨rfl, rfl, Nat.le_of_ble_eq_true rfl, Nat.le_of_ble_eq_true rfl⟩ hl.1 rfl (Nat.le_of_ble_eq_true rfl) dX9_holdUp_13 ⟨Nat.zero_le _, Nat.zero_le _⟩) hS (fun p25 f24 H locs hqf24 V I hS => ?_)
      obtain ⟨hqf24, ghqf24⟩ := hqf24
      replace hG := gLt_e hG (ghqf24)
      have I : cI ks τ L ψ f24 := by rw [show p25 = ψ from hqf24] at I; exact I
      exact cRetV C9 hr hlk hN hNs V I hS (⟨rfl, hG.symm⟩) dX9_holdUp_16
    · have tk6 : ty τ L o0 4 := ⟨hL6, hk6⟩
      obtain ⟨v27_0, v27_1, v27_2, v27_3, v27_4, v27_5, c27, hf27, t27_2, t27_3, hc27, h027, h127⟩ := op4 I tk6
      refine cG C9 V tk6.1 hf27 rfl tC_lay4 2 (by decide) tCf_X9_12 (Or.inl rfl) rfl dX9_holdUp_9 ?_
      replace hG := gLt_e hG (view_gR hf27 rfl)
      refine lv_aload_n hx hb dX9_holdUp_12 rfl (lv_at hl 0 rfl) ?_
      obtain ⟨v28_0, v28_1, v28_2, v28_3, v28_4, v28_5, v28_6, v28_7, v28_8, v28_9, v28_10, v28_11, v28_12, hf28, t28_7, t28_8, t28_11⟩ := op7 I t_o1
      refine cGoV (cRunV (As := [.ref v27_2, .ref o0]) (rest := []) C9 hml hN hNs V I hS t_o1.1 hf28 rfl (c_X8_standIn l D ks τ L A N hN  ψ f2 o1 v27_2 o0 t_o1 t27_2 (tyS_of tk6 (by decide)) ) gC_X9_36 okC_X8_standIn ⟨rfl, rfl, Nat.le_of_ble_eq_true rfl, Nat.le_of_ble_eq_true rfl⟩ hl.1 rfl (Nat.le_of_ble_eq_true rfl) dX9_holdUp_13 ⟨Nat.zero_le _, Nat.zero_le _⟩) hS (fun p30 f29 H locs hqf29 V I hS => ?_)
      obtain ⟨hqf29, ghqf29⟩ := hqf29
      replace hG := gLt_e hG (ghqf29)
      have I : cI ks τ L ψ f29 := by rw [show p30 = ψ from hqf29] at I; exact I
      exact cRetV C9 hr hlk hN hNs V I hS (⟨rfl, hG.symm⟩) dX9_holdUp_16
    · have tk6 : ty τ L o0 6 := ⟨hL6, hk6⟩
      obtain ⟨v32_0, v32_1, v32_2, v32_3, hf32, t32_2⟩ := op6 I tk6
      refine cG C9 V tk6.1 hf32 rfl tC_lay6 2 (by decide) tCf_X9_12 (Or.inl rfl) rfl dX9_holdUp_9 ?_
      replace hG := gLt_e hG (view_gR hf32 rfl)
      refine lv_aload_n hx hb dX9_holdUp_12 rfl (lv_at hl 0 rfl) ?_
      obtain ⟨v33_0, v33_1, v33_2, v33_3, v33_4, v33_5, v33_6, v33_7, v33_8, v33_9, v33_10, v33_11, v33_12, hf33, t33_7, t33_8, t33_11⟩ := op7 I t_o1
      refine cGoV (cRunV (As := [.ref v32_2, .ref o0]) (rest := []) C9 hml hN hNs V I hS t_o1.1 hf33 rfl (c_X8_standIn l D ks τ L A N hN  ψ f2 o1 v32_2 o0 t_o1 t32_2 (tyS_of tk6 (by decide)) ) gC_X9_36 okC_X8_standIn ⟨rfl, rfl, Nat.le_of_ble_eq_true rfl, Nat.le_of_ble_eq_true rfl⟩ hl.1 rfl (Nat.le_of_ble_eq_true rfl) dX9_holdUp_13 ⟨Nat.zero_le _, Nat.zero_le _⟩) hS (fun p35 f34 H locs hqf34 V I hS => ?_)
      obtain ⟨hqf34, ghqf34⟩ := hqf34
      replace hG := gLt_e hG (ghqf34)
      have I : cI ks τ L ψ f34 := by rw [show p35 = ψ from hqf34] at I; exact I
      exact cRetV C9 hr hlk hN hNs V I hS (⟨rfl, hG.symm⟩) dX9_holdUp_16
def FC_X9_allGoOn_L2 (o0 : Nat) : Nat → Int32 → xS → xS
  | 0, w2_1, XGf2 => XGf2
  | N9_2 + 1, w2_1, XGf2 => if 8 ≤ (w2_1 : Int32) then (XGf2) else (gLt ((xR XGf2 o0 2).getD 0 : Nat) (fun v4_2 => gC (FC_X6_first XGf2 v4_2) (fun r8 Xf6 => gO (r8) (Xf6) (fun y9 => gLt (FC_X8_goOn Xf6 y9 : xS) (fun Xf11 => gLt (w2_1 + (1) : Int32) (fun x14 => FC_X9_allGoOn_L2 o0 N9_2 x14 Xf11))))))
def FC_X9_allGoOn (X : xS) (o0 : Nat) : xS := gLt (0 : Int32) (fun x1 => FC_X9_allGoOn_L2 o0 ((8 - x1).toInt.toNat + 1) x1 X)
set_option maxHeartbeats 200000 in
set_option maxRecDepth 100000 in
theorem c_X9_allGoOn (l : Launch) (D : va_G) (ks : kS) (τ : Nat → Nat) (L : List Nat) (A : Nat → Prop) (N : State → Prop) (hN : cNk A N)  (ψ : Int32) (f : Nat → va_E) (o0 : Nat) (t_o0 : tyS τ L o0) : Met l yX9_allGoOn (Cond.code yX9_allGoOn cX9_allGoOn 3 none :: tC) ({ frames := 2, cells := 0, slots := 0, locals := 43 }) (va_Pc [.ref o0] (cB D ks τ L A N (ψ, f))) (va_Qv (fun x9 => (x9.1 = ψ) ∧ view x9.2 = FC_X9_allGoOn (view f) o0) (cB D ks τ L A N) A) 0 0 A := by
  refine cMet (own := RX9) (by decide) rfl (Nat.le_of_ble_eq_true rfl) ?_
  intro p e s m below meth c ls C9 hml hr hlk V I hNs hl
  have hx := C9.1
  have hb := C9.2.1
  have hown := C9.2.2.1
  have hts := C9.2.2.2.1
  have hS : va_S A s.heap s.heap [] := va_S.rf
  have hG := FC_X9_allGoOn.eq_1 (view f) o0
  have hl : lv_has ls 3 [(0, .ref o0)] := hl
  refine lv_iconst (v := 0) hx hb dX9_allGoOn_0 (by decide) ?_
  refine lv_topi (fun x1 ex1 => ?_)
  replace hG := gLt_e hG ex1
  refine lv_istore_n (lv' := [(1, .int x1), (0, .ref o0)]) hx hb dX9_allGoOn_1 rfl hl (by decide) rfl (fun ls hl => ?_)
  have loop2 : ∀ (N9_2 : Nat) (w2_1 : Int32)  (Gf2 : Nat → va_E) (H : Heap) (locs : List Loc) (ls : Array Slot), cI ks τ L ψ Gf2 → (0 ≤ w2_1 ∧ w2_1 ≤ 8) → ((8 - w2_1).toInt.toNat) < N9_2 → (FC_X9_allGoOn (view f) o0 = FC_X9_allGoOn_L2 o0 N9_2 w2_1 (view Gf2)) → cV D L Gf2 A H → va_S A s.heap H locs → lv_has ls 3 [(0, .ref o0), (1, .int w2_1)] → W p l e ({ frames := 2, cells := 0, slots := 0, locals := 43 } : Room) s m ([.ref o0] : List Value).toArray below meth c H locs 0 0 (MQ below (va_Qv (fun x9 => (x9.1 = ψ) ∧ view x9.2 = FC_X9_allGoOn (view f) o0) (cB D ks τ L A N) A) ([.ref o0] : List Value).toArray s 0 0 A) (F0 m 2 ls []) := by
    intro N9_2
    induction N9_2 with
    | zero => intro w2_1  Gf2 H locs ls I hi2 hm2; exact absurd hm2 (Nat.not_lt_zero _)
    | succ N9_2 ih2 =>
      intro w2_1  Gf2 H locs ls I hi2 hm2 hG V hS hl
      rw [FC_X9_allGoOn_L2] at hG
      refine lv_iload_n hx hb dX9_allGoOn_2 rfl (lv_at hl 1 rfl) ?_
      refine lv_bipush (v := 8) hx hb dX9_allGoOn_3 (by decide) ?_
      refine lv_icmp_ge (tgt := 31) hx hb dX9_allGoOn_5 (by decide) (fun c2 => ?_) (fun c2 => ?_)
      · replace hG := gIf_p hG c2
        exact cRetV C9 hr hlk hN hNs V I hS (⟨rfl, hG.symm⟩) dX9_allGoOn_31
      · replace hG := gIf_n hG c2
        refine lv_aload_n hx hb dX9_allGoOn_8 rfl (lv_at hl 0 rfl) ?_
        obtain ⟨hL3, hk3⟩ := id t_o0
        rcases hk3 with hk3 | hk3 | hk3 | hk3 | hk3 | hk3
        · have tk3 : ty τ L o0 0 := ⟨hL3, hk3⟩
          obtain ⟨v4_0, v4_1, v4_2, v4_3, v4_4, hf4, t4_2⟩ := op0 I tk3
          refine cG C9 V tk3.1 hf4 rfl tC_lay0 2 (by decide) tCf_X9_12 (Or.inl rfl) rfl dX9_allGoOn_9 ?_
          replace hG := gLt_e hG (view_gR hf4 rfl)
          obtain ⟨v5_0, v5_1, hf5, hn5, t5_1⟩ := op5 I t4_2
          refine cGoQ (cRunV (As := []) (rest := []) C9 hml hN hNs V I hS t4_2.1 hf5 rfl (c_X6_first l D ks τ L A N hN  ψ Gf2 v4_2 t4_2 ) gC_X9_40 okC_X6_first ⟨rfl, rfl, Nat.le_of_ble_eq_true rfl, Nat.le_of_ble_eq_true rfl⟩ hl.1 rfl (Nat.le_of_ble_eq_true rfl) dX9_allGoOn_12 ⟨Nat.zero_le _, Nat.zero_le _⟩) hS (fun r8 p7 f6 H locs hqf6 V I hS => ?_)
          obtain ⟨hqf6, ghqf6⟩ := hqf6
          replace hG := gC_e hG ghqf6
          have I : cI ks τ L ψ f6 := by rw [show p7 = ψ from hqf6.1] at I; exact I
          replace hG := gO_e hG (rfl)
          rcases r8 with _ | y9
          · replace hG := gO_n hG
            refine W.eq (g2 := F0 m 15 ls [.null]) rfl ?_
            refine lv_astore_nN (lv' := [(2, .null), (0, .ref o0), (1, .int w2_1)]) hx hb dX9_allGoOn_15 rfl hl (by decide) rfl (fun ls hl => ?_)
            refine lv_aload_nN hx hb dX9_allGoOn_16 rfl (lv_at hl 0 rfl) ?_
            refine lv_ifnonnullN hx hb dX9_allGoOn_17 ?_
            exact cRetV C9 hr hlk hN hNs V I hS (⟨rfl, hG.symm⟩) dX9_allGoOn_20
          · replace hG := gO_s hG
            have hy9 := hqf6.2 y9 rfl
            refine W.eq (g2 := F0 m 15 ls [.ref y9]) rfl ?_
            refine lv_astore_n (lv' := [(2, .ref y9), (0, .ref o0), (1, .int w2_1)]) hx hb dX9_allGoOn_15 rfl hl (by decide) rfl (fun ls hl => ?_)
            refine lv_aload_n hx hb dX9_allGoOn_16 rfl (lv_at hl 0 rfl) ?_
            refine lv_ifnonnull (tgt := 21) hx hb dX9_allGoOn_17 (by decide) ?_
            refine lv_aload_n hx hb dX9_allGoOn_21 rfl (lv_at hl 0 rfl) ?_
            obtain ⟨v10_0, v10_1, v10_2, v10_3, v10_4, v10_5, v10_6, v10_7, v10_8, v10_9, v10_10, v10_11, v10_12, hf10, t10_7, t10_8, t10_11⟩ := op7 I hy9
            refine cGoV (cRunV (As := []) (rest := []) C9 hml hN hNs V I hS hy9.1 hf10 rfl (c_X8_goOn l D ks τ L A N hN  ψ f6 y9 hy9 ) gC_X9_44 okC_X8_goOn ⟨rfl, rfl, Nat.le_of_ble_eq_true rfl, Nat.le_of_ble_eq_true rfl⟩ hl.1 rfl (Nat.le_of_ble_eq_true rfl) dX9_allGoOn_22 ⟨Nat.zero_le _, Nat.zero_le _⟩) hS (fun p12 f11 H locs hqf11 V I hS => ?_)
            obtain ⟨hqf11, ghqf11⟩ := hqf11
            replace hG := gLt_e hG (ghqf11)
            have I : cI ks τ L ψ f11 := by rw [show p12 = ψ from hqf11] at I; exact I
            obtain ⟨x14, ex14⟩ : ∃ y : Int32, y = w2_1 + (1) := ⟨_, rfl⟩
            replace hG := gLt_e hG ex14
            refine lv_iinc (v := x14) (lv' := [(1, .int x14), (2, .ref y9), (0, .ref o0)]) hx hb dX9_allGoOn_25 hl (k := 2) rfl (by rw [ex14]; rfl) (by decide) rfl (fun ls hl => ?_)
            refine lv_goto (tgt := 2) hx hb dX9_allGoOn_28 (by decide) ?_
            exact ih2 x14  f11 _ _ _ I (ca_up ex14 hi2.1 (ci_lt c2)) (cmsd hm2 (ca_dec ex14 hi2.1 (ci_lt c2)).1 (ca_dec ex14 hi2.1 (ci_lt c2)).2) hG V hS (lv_sub hl [2, 0] rfl)
        · have tk3 : ty τ L o0 1 := ⟨hL3, hk3⟩
          obtain ⟨v15_0, v15_1, v15_2, v15_3, v15_4, hf15, t15_2⟩ := op1 I tk3
          refine cG C9 V tk3.1 hf15 rfl tC_lay1 2 (by decide) tCf_X9_12 (Or.inl rfl) rfl dX9_allGoOn_9 ?_
          replace hG := gLt_e hG (view_gR hf15 rfl)
          obtain ⟨v16_0, v16_1, hf16, hn16, t16_1⟩ := op5 I t15_2
          refine cGoQ (cRunV (As := []) (rest := []) C9 hml hN hNs V I hS t15_2.1 hf16 rfl (c_X6_first l D ks τ L A N hN  ψ Gf2 v15_2 t15_2 ) gC_X9_40 okC_X6_first ⟨rfl, rfl, Nat.le_of_ble_eq_true rfl, Nat.le_of_ble_eq_true rfl⟩ hl.1 rfl (Nat.le_of_ble_eq_true rfl) dX9_allGoOn_12 ⟨Nat.zero_le _, Nat.zero_le _⟩) hS (fun r19 p18 f17 H locs hqf17 V I hS => ?_)
          obtain ⟨hqf17, ghqf17⟩ := hqf17
          replace hG := gC_e hG ghqf17
          have I : cI ks τ L ψ f17 := by rw [show p18 = ψ from hqf17.1] at I; exact I
          replace hG := gO_e hG (rfl)
          rcases r19 with _ | y20
          · replace hG := gO_n hG
            refine W.eq (g2 := F0 m 15 ls [.null]) rfl ?_
            refine lv_astore_nN (lv' := [(2, .null), (0, .ref o0), (1, .int w2_1)]) hx hb dX9_allGoOn_15 rfl hl (by decide) rfl (fun ls hl => ?_)
            refine lv_aload_nN hx hb dX9_allGoOn_16 rfl (lv_at hl 0 rfl) ?_
            refine lv_ifnonnullN hx hb dX9_allGoOn_17 ?_
            exact cRetV C9 hr hlk hN hNs V I hS (⟨rfl, hG.symm⟩) dX9_allGoOn_20
          · replace hG := gO_s hG
            have hy20 := hqf17.2 y20 rfl
            refine W.eq (g2 := F0 m 15 ls [.ref y20]) rfl ?_
            refine lv_astore_n (lv' := [(2, .ref y20), (0, .ref o0), (1, .int w2_1)]) hx hb dX9_allGoOn_15 rfl hl (by decide) rfl (fun ls hl => ?_)
            refine lv_aload_n hx hb dX9_allGoOn_16 rfl (lv_at hl 0 rfl) ?_
            refine lv_ifnonnull (tgt := 21) hx hb dX9_allGoOn_17 (by decide) ?_
            refine lv_aload_n hx hb dX9_allGoOn_21 rfl (lv_at hl 0 rfl) ?_
            obtain ⟨v21_0, v21_1, v21_2, v21_3, v21_4, v21_5, v21_6, v21_7, v21_8, v21_9, v21_10, v21_11, v21_12, hf21, t21_7, t21_8, t21_11⟩ := op7 I hy20
            refine cGoV (cRunV (As := []) (rest := []) C9 hml hN hNs V I hS hy20.1 hf21 rfl (c_X8_goOn l D ks τ L A N hN  ψ f17 y20 hy20 ) gC_X9_44 okC_X8_goOn ⟨rfl, rfl, Nat.le_of_ble_eq_true rfl, Nat.le_of_ble_eq_true rfl⟩ hl.1 rfl (Nat.le_of_ble_eq_true rfl) dX9_allGoOn_22 ⟨Nat.zero_le _, Nat.zero_le _⟩) hS (fun p23 f22 H locs hqf22 V I hS => ?_)
            obtain ⟨hqf22, ghqf22⟩ := hqf22
            replace hG := gLt_e hG (ghqf22)
            have I : cI ks τ L ψ f22 := by rw [show p23 = ψ from hqf22] at I; exact I
            obtain ⟨x25, ex25⟩ : ∃ y : Int32, y = w2_1 + (1) := ⟨_, rfl⟩
            replace hG := gLt_e hG ex25
            refine lv_iinc (v := x25) (lv' := [(1, .int x25), (2, .ref y20), (0, .ref o0)]) hx hb dX9_allGoOn_25 hl (k := 2) rfl (by rw [ex25]; rfl) (by decide) rfl (fun ls hl => ?_)
            refine lv_goto (tgt := 2) hx hb dX9_allGoOn_28 (by decide) ?_
            exact ih2 x25  f22 _ _ _ I (ca_up ex25 hi2.1 (ci_lt c2)) (cmsd hm2 (ca_dec ex25 hi2.1 (ci_lt c2)).1 (ca_dec ex25 hi2.1 (ci_lt c2)).2) hG V hS (lv_sub hl [2, 0] rfl)
        · have tk3 : ty τ L o0 2 := ⟨hL3, hk3⟩
          obtain ⟨v26_0, v26_1, v26_2, v26_3, hf26, t26_2⟩ := op2 I tk3
          refine cG C9 V tk3.1 hf26 rfl tC_lay2 2 (by decide) tCf_X9_12 (Or.inl rfl) rfl dX9_allGoOn_9 ?_
          replace hG := gLt_e hG (view_gR hf26 rfl)
          obtain ⟨v27_0, v27_1, hf27, hn27, t27_1⟩ := op5 I t26_2
          refine cGoQ (cRunV (As := []) (rest := []) C9 hml hN hNs V I hS t26_2.1 hf27 rfl (c_X6_first l D ks τ L A N hN  ψ Gf2 v26_2 t26_2 ) gC_X9_40 okC_X6_first ⟨rfl, rfl, Nat.le_of_ble_eq_true rfl, Nat.le_of_ble_eq_true rfl⟩ hl.1 rfl (Nat.le_of_ble_eq_true rfl) dX9_allGoOn_12 ⟨Nat.zero_le _, Nat.zero_le _⟩) hS (fun r30 p29 f28 H locs hqf28 V I hS => ?_)
          obtain ⟨hqf28, ghqf28⟩ := hqf28
          replace hG := gC_e hG ghqf28
          have I : cI ks τ L ψ f28 := by rw [show p29 = ψ from hqf28.1] at I; exact I
          replace hG := gO_e hG (rfl)
          rcases r30 with _ | y31
          · replace hG := gO_n hG
            refine W.eq (g2 := F0 m 15 ls [.null]) rfl ?_
            refine lv_astore_nN (lv' := [(2, .null), (0, .ref o0), (1, .int w2_1)]) hx hb dX9_allGoOn_15 rfl hl (by decide) rfl (fun ls hl => ?_)
            refine lv_aload_nN hx hb dX9_allGoOn_16 rfl (lv_at hl 0 rfl) ?_
            refine lv_ifnonnullN hx hb dX9_allGoOn_17 ?_
            exact cRetV C9 hr hlk hN hNs V I hS (⟨rfl, hG.symm⟩) dX9_allGoOn_20
          · replace hG := gO_s hG
            have hy31 := hqf28.2 y31 rfl
            refine W.eq (g2 := F0 m 15 ls [.ref y31]) rfl ?_
            refine lv_astore_n (lv' := [(2, .ref y31), (0, .ref o0), (1, .int w2_1)]) hx hb dX9_allGoOn_15 rfl hl (by decide) rfl (fun ls hl => ?_)
            refine lv_aload_n hx hb dX9_allGoOn_16 rfl (lv_at hl 0 rfl) ?_
            refine lv_ifnonnull (tgt := 21) hx hb dX9_allGoOn_17 (by decide) ?_
            refine lv_aload_n hx hb dX9_allGoOn_21 rfl (lv_at hl 0 rfl) ?_
            obtain ⟨v32_0, v32_1, v32_2, v32_3, v32_4, v32_5, v32_6, v32_7, v32_8, v32_9, v32_10, v32_11, v32_12, hf32, t32_7, t32_8, t32_11⟩ := op7 I hy31
            refine cGoV (cRunV (As := []) (rest := []) C9 hml hN hNs V I hS hy31.1 hf32 rfl (c_X8_goOn l D ks τ L A N hN  ψ f28 y31 hy31 ) gC_X9_44 okC_X8_goOn ⟨rfl, rfl, Nat.le_of_ble_eq_true rfl, Nat.le_of_ble_eq_true rfl⟩ hl.1 rfl (Nat.le_of_ble_eq_true rfl) dX9_allGoOn_22 ⟨Nat.zero_le _, Nat.zero_le _⟩) hS (fun p34 f33 H locs hqf33 V I hS => ?_)
            obtain ⟨hqf33, ghqf33⟩ := hqf33
            replace hG := gLt_e hG (ghqf33)
            have I : cI ks τ L ψ f33 := by rw [show p34 = ψ from hqf33] at I; exact I
            obtain ⟨x36, ex36⟩ : ∃ y : Int32, y = w2_1 + (1) := ⟨_, rfl⟩
            replace hG := gLt_e hG ex36
            refine lv_iinc (v := x36) (lv' := [(1, .int x36), (2, .ref y31), (0, .ref o0)]) hx hb dX9_allGoOn_25 hl (k := 2) rfl (by rw [ex36]; rfl) (by decide) rfl (fun ls hl => ?_)
            refine lv_goto (tgt := 2) hx hb dX9_allGoOn_28 (by decide) ?_
            exact ih2 x36  f33 _ _ _ I (ca_up ex36 hi2.1 (ci_lt c2)) (cmsd hm2 (ca_dec ex36 hi2.1 (ci_lt c2)).1 (ca_dec ex36 hi2.1 (ci_lt c2)).2) hG V hS (lv_sub hl [2, 0] rfl)
        · have tk3 : ty τ L o0 3 := ⟨hL3, hk3⟩
          obtain ⟨v37_0, v37_1, v37_2, v37_3, v37_4, v37_5, v37_6, hf37, t37_2, t37_6⟩ := op3 I tk3
          refine cG C9 V tk3.1 hf37 rfl tC_lay3 2 (by decide) tCf_X9_12 (Or.inl rfl) rfl dX9_allGoOn_9 ?_
          replace hG := gLt_e hG (view_gR hf37 rfl)
          obtain ⟨v38_0, v38_1, hf38, hn38, t38_1⟩ := op5 I t37_2
          refine cGoQ (cRunV (As := []) (rest := []) C9 hml hN hNs V I hS t37_2.1 hf38 rfl (c_X6_first l D ks τ L A N hN  ψ Gf2 v37_2 t37_2 ) gC_X9_40 okC_X6_first ⟨rfl, rfl, Nat.le_of_ble_eq_true rfl, Nat.le_of_ble_eq_true rfl⟩ hl.1 rfl (Nat.le_of_ble_eq_true rfl) dX9_allGoOn_12 ⟨Nat.zero_le _, Nat.zero_le _⟩) hS (fun r41 p40 f39 H locs hqf39 V I hS => ?_)
          obtain ⟨hqf39, ghqf39⟩ := hqf39
          replace hG := gC_e hG ghqf39
          have I : cI ks τ L ψ f39 := by rw [show p40 = ψ from hqf39.1] at I; exact I
          replace hG := gO_e hG (rfl)
          rcases r41 with _ | y42
          · replace hG := gO_n hG
            refine W.eq (g2 := F0 m 15 ls [.null]) rfl ?_
            refine lv_astore_nN (lv' := [(2, .null), (0, .ref o0), (1, .int w2_1)]) hx hb dX9_allGoOn_15 rfl hl (by decide) rfl (fun ls hl => ?_)
            refine lv_aload_nN hx hb dX9_allGoOn_16 rfl (lv_at hl 0 rfl) ?_
            refine lv_ifnonnullN hx hb dX9_allGoOn_17 ?_
            exact cRetV C9 hr hlk hN hNs V I hS (⟨rfl, hG.symm⟩) dX9_allGoOn_20
          · replace hG := gO_s hG
            have hy42 := hqf39.2 y42 rfl
            refine W.eq (g2 := F0 m 15 ls [.ref y42]) rfl ?_
            refine lv_astore_n (lv' := [(2, .ref y42), (0, .ref o0), (1, .int w2_1)]) hx hb dX9_allGoOn_15 rfl hl (by decide) rfl (fun ls hl => ?_)
            refine lv_aload_n hx hb dX9_allGoOn_16 rfl (lv_at hl 0 rfl) ?_
            refine lv_ifnonnull (tgt := 21) hx hb dX9_allGoOn_17 (by decide) ?_
            refine lv_aload_n hx hb dX9_allGoOn_21 rfl (lv_at hl 0 rfl) ?_
            obtain ⟨v43_0, v43_1, v43_2, v43_3, v43_4, v43_5, v43_6, v43_7, v43_8, v43_9, v43_10, v43_11, v43_12, hf43, t43_7, t43_8, t43_11⟩ := op7 I hy42
            refine cGoV (cRunV (As := []) (rest := []) C9 hml hN hNs V I hS hy42.1 hf43 rfl (c_X8_goOn l D ks τ L A N hN  ψ f39 y42 hy42 ) gC_X9_44 okC_X8_goOn ⟨rfl, rfl, Nat.le_of_ble_eq_true rfl, Nat.le_of_ble_eq_true rfl⟩ hl.1 rfl (Nat.le_of_ble_eq_true rfl) dX9_allGoOn_22 ⟨Nat.zero_le _, Nat.zero_le _⟩) hS (fun p45 f44 H locs hqf44 V I hS => ?_)
            obtain ⟨hqf44, ghqf44⟩ := hqf44
            replace hG := gLt_e hG (ghqf44)
            have I : cI ks τ L ψ f44 := by rw [show p45 = ψ from hqf44] at I; exact I
            obtain ⟨x47, ex47⟩ : ∃ y : Int32, y = w2_1 + (1) := ⟨_, rfl⟩
            replace hG := gLt_e hG ex47
            refine lv_iinc (v := x47) (lv' := [(1, .int x47), (2, .ref y42), (0, .ref o0)]) hx hb dX9_allGoOn_25 hl (k := 2) rfl (by rw [ex47]; rfl) (by decide) rfl (fun ls hl => ?_)
            refine lv_goto (tgt := 2) hx hb dX9_allGoOn_28 (by decide) ?_
            exact ih2 x47  f44 _ _ _ I (ca_up ex47 hi2.1 (ci_lt c2)) (cmsd hm2 (ca_dec ex47 hi2.1 (ci_lt c2)).1 (ca_dec ex47 hi2.1 (ci_lt c2)).2) hG V hS (lv_sub hl [2, 0] rfl)
        · have tk3 : ty τ L o0 4 := ⟨hL3, hk3⟩
          obtain ⟨v48_0, v48_1, v48_2, v48_3, v48_4, v48_5, c48, hf48, t48_2, t48_3, hc48, h048, h148⟩ := op4 I tk3
          refine cG C9 V tk3.1 hf48 rfl tC_lay4 2 (by decide) tCf_X9_12 (Or.inl rfl) rfl dX9_allGoOn_9 ?_
          replace hG := gLt_e hG (view_gR hf48 rfl)
          obtain ⟨v49_0, v49_1, hf49, hn49, t49_1⟩ := op5 I t48_2
          refine cGoQ (cRunV (As := []) (rest := []) C9 hml hN hNs V I hS t48_2.1 hf49 rfl (c_X6_first l D ks τ L A N hN  ψ Gf2 v48_2 t48_2 ) gC_X9_40 okC_X6_first ⟨rfl, rfl, Nat.le_of_ble_eq_true rfl, Nat.le_of_ble_eq_true rfl⟩ hl.1 rfl (Nat.le_of_ble_eq_true rfl) dX9_allGoOn_12 ⟨Nat.zero_le _, Nat.zero_le _⟩) hS (fun r52 p51 f50 H locs hqf50 V I hS => ?_)
          obtain ⟨hqf50, ghqf50⟩ := hqf50
          replace hG := gC_e hG ghqf50
          have I : cI ks τ L ψ f50 := by rw [show p51 = ψ from hqf50.1] at I; exact I
          replace hG := gO_e hG (rfl)
          rcases r52 with _ | y53
          · replace hG := gO_n hG
            refine W.eq (g2 := F0 m 15 ls [.null]) rfl ?_
            refine lv_astore_nN (lv' := [(2, .null), (0, .ref o0), (1, .int w2_1)]) hx hb dX9_allGoOn_15 rfl hl (by decide) rfl (fun ls hl => ?_)
            refine lv_aload_nN hx hb dX9_allGoOn_16 rfl (lv_at hl 0 rfl) ?_
            refine lv_ifnonnullN hx hb dX9_allGoOn_17 ?_
            exact cRetV C9 hr hlk hN hNs V I hS (⟨rfl, hG.symm⟩) dX9_allGoOn_20
          · replace hG := gO_s hG
            have hy53 := hqf50.2 y53 rfl
            refine W.eq (g2 := F0 m 15 ls [.ref y53]) rfl ?_
            refine lv_astore_n (lv' := [(2, .ref y53), (0, .ref o0), (1, .int w2_1)]) hx hb dX9_allGoOn_15 rfl hl (by decide) rfl (fun ls hl => ?_)
            refine lv_aload_n hx hb dX9_allGoOn_16 rfl (lv_at hl 0 rfl) ?_
            refine lv_ifnonnull (tgt := 21) hx hb dX9_allGoOn_17 (by decide) ?_
            refine lv_aload_n hx hb dX9_allGoOn_21 rfl (lv_at hl 0 rfl) ?_
            obtain ⟨v54_0, v54_1, v54_2, v54_3, v54_4, v54_5, v54_6, v54_7, v54_8, v54_9, v54_10, v54_11, v54_12, hf54, t54_7, t54_8, t54_11⟩ := op7 I hy53
            refine cGoV (cRunV (As := []) (rest := []) C9 hml hN hNs V I hS hy53.1 hf54 rfl (c_X8_goOn l D ks τ L A N hN  ψ f50 y53 hy53 ) gC_X9_44 okC_X8_goOn ⟨rfl, rfl, Nat.le_of_ble_eq_true rfl, Nat.le_of_ble_eq_true rfl⟩ hl.1 rfl (Nat.le_of_ble_eq_true rfl) dX9_allGoOn_22 ⟨Nat.zero_le _, Nat.zero_le _⟩) hS (fun p56 f55 H locs hqf55 V I hS => ?_)
            obtain ⟨hqf55, ghqf55⟩ := hqf55
            replace hG := gLt_e hG (ghqf55)
            have I : cI ks τ L ψ f55 := by rw [show p56 = ψ from hqf55] at I; exact I
            obtain ⟨x58, ex58⟩ : ∃ y : Int32, y = w2_1 + (1) := ⟨_, rfl⟩
            replace hG := gLt_e hG ex58
            refine lv_iinc (v := x58) (lv' := [(1, .int x58), (2, .ref y53), (0, .ref o0)]) hx hb dX9_allGoOn_25 hl (k := 2) rfl (by rw [ex58]; rfl) (by decide) rfl (fun ls hl => ?_)
            refine lv_goto (tgt := 2) hx hb dX9_allGoOn_28 (by decide) ?_
            exact ih2 x58  f55 _ _ _ I (ca_up ex58 hi2.1 (ci_lt c2)) (cmsd hm2 (ca_dec ex58 hi2.1 (ci_lt c2)).1 (ca_dec ex58 hi2.1 (ci_lt c2)).2) hG V hS (lv_sub hl [2, 0] rfl)
        · have tk3 : ty τ L o0 6 := ⟨hL3, hk3⟩
          obtain ⟨v59_0, v59_1, v59_2, v59_3, hf59, t59_2⟩ := op6 I tk3
          refine cG C9 V tk3.1 hf59 rfl tC_lay6 2 (by decide) tCf_X9_12 (Or.inl rfl) rfl dX9_allGoOn_9 ?_
          replace hG := gLt_e hG (view_gR hf59 rfl)
          obtain ⟨v60_0, v60_1, hf60, hn60, t60_1⟩ := op5 I t59_2
          refine cGoQ (cRunV (As := []) (rest := []) C9 hml hN hNs V I hS t59_2.1 hf60 rfl (c_X6_first l D ks τ L A N hN  ψ Gf2 v59_2 t59_2 ) gC_X9_40 okC_X6_first ⟨rfl, rfl, Nat.le_of_ble_eq_true rfl, Nat.le_of_ble_eq_true rfl⟩ hl.1 rfl (Nat.le_of_ble_eq_true rfl) dX9_allGoOn_12 ⟨Nat.zero_le _, Nat.zero_le _⟩) hS (fun r63 p62 f61 H locs hqf61 V I hS => ?_)
          obtain ⟨hqf61, ghqf61⟩ := hqf61
          replace hG := gC_e hG ghqf61
          have I : cI ks τ L ψ f61 := by rw [show p62 = ψ from hqf61.1] at I; exact I
          replace hG := gO_e hG (rfl)
          rcases r63 with _ | y64
          · replace hG := gO_n hG
            refine W.eq (g2 := F0 m 15 ls [.null]) rfl ?_
            refine lv_astore_nN (lv' := [(2, .null), (0, .ref o0), (1, .int w2_1)]) hx hb dX9_allGoOn_15 rfl hl (by decide) rfl (fun ls hl => ?_)
            refine lv_aload_nN hx hb dX9_allGoOn_16 rfl (lv_at hl 0 rfl) ?_
            refine lv_ifnonnullN hx hb dX9_allGoOn_17 ?_
            exact cRetV C9 hr hlk hN hNs V I hS (⟨rfl, hG.symm⟩) dX9_allGoOn_20
          · replace hG := gO_s hG
            have hy64 := hqf61.2 y64 rfl
            refine W.eq (g2 := F0 m 15 ls [.ref y64]) rfl ?_
            refine lv_astore_n (lv' := [(2, .ref y64), (0, .ref o0), (1, .int w2_1)]) hx hb dX9_allGoOn_15 rfl hl (by decide) rfl (fun ls hl => ?_)
            refine lv_aload_n hx hb dX9_allGoOn_16 rfl (lv_at hl 0 rfl) ?_
            refine lv_ifnonnull (tgt := 21) hx hb dX9_allGoOn_17 (by decide) ?_
            refine lv_aload_n hx hb dX9_allGoOn_21 rfl (lv_at hl 0 rfl) ?_
            obtain ⟨v65_0, v65_1, v65_2, v65_3, v65_4, v65_5, v65_6, v65_7, v65_8, v65_9, v65_10, v65_11, v65_12, hf65, t65_7, t65_8, t65_11⟩ := op7 I hy64
            refine cGoV (cRunV (As := []) (rest := []) C9 hml hN hNs V I hS hy64.1 hf65 rfl (c_X8_goOn l D ks τ L A N hN  ψ f61 y64 hy64 ) gC_X9_44 okC_X8_goOn ⟨rfl, rfl, Nat.le_of_ble_eq_true rfl, Nat.le_of_ble_eq_true rfl⟩ hl.1 rfl (Nat.le_of_ble_eq_true rfl) dX9_allGoOn_22 ⟨Nat.zero_le _, Nat.zero_le _⟩) hS (fun p67 f66 H locs hqf66 V I hS => ?_)
            obtain ⟨hqf66, ghqf66⟩ := hqf66
            replace hG := gLt_e hG (ghqf66)
            have I : cI ks τ L ψ f66 := by rw [show p67 = ψ from hqf66] at I; exact I
            obtain ⟨x69, ex69⟩ : ∃ y : Int32, y = w2_1 + (1) := ⟨_, rfl⟩
            replace hG := gLt_e hG ex69
            refine lv_iinc (v := x69) (lv' := [(1, .int x69), (2, .ref y64), (0, .ref o0)]) hx hb dX9_allGoOn_25 hl (k := 2) rfl (by rw [ex69]; rfl) (by decide) rfl (fun ls hl => ?_)
            refine lv_goto (tgt := 2) hx hb dX9_allGoOn_28 (by decide) ?_
            exact ih2 x69  f66 _ _ _ I (ca_up ex69 hi2.1 (ci_lt c2)) (cmsd hm2 (ca_dec ex69 hi2.1 (ci_lt c2)).1 (ca_dec ex69 hi2.1 (ci_lt c2)).2) hG V hS (lv_sub hl [2, 0] rfl)
  exact loop2 ((8 - x1).toInt.toNat + 1) x1  f _ _ _ I (by clear hG V hS hl C9 hts hown hx hb hml hr hlk; subst_vars; decide) (Nat.lt_succ_self _) hG V hS (lv_sub hl [1, 0] rfl)
def FC_X9_hasStrands (X : xS) (o0 : Nat) : Int32 × xS := gLt ((xR X o0 2).getD 0 : Nat) (fun v2_2 => gLt (xI X v2_2 0 : Int32) (fun v3_0 => if (v3_0 : Int32) ≤ 0 then (((0 : Int32), X)) else (((1 : Int32), X))))
set_option maxHeartbeats 200000 in
set_option maxRecDepth 100000 in
theorem c_X9_hasStrands (l : Launch) (D : va_G) (ks : kS) (τ : Nat → Nat) (L : List Nat) (A : Nat → Prop) (N : State → Prop) (hN : cNk A N)  (ψ : Int32) (f : Nat → va_E) (o0 : Nat) (t_o0 : tyS τ L o0) : Met l yX9_hasStrands (Cond.code yX9_hasStrands cX9_hasStrands 1 (some .boolean) :: tC) ({ frames := 0, cells := 0, slots := 0, locals := 0 }) (va_Pc [.ref o0] (cB D ks τ L A N (ψ, f))) (va_Qi (fun r9 x9 => (x9.1 = ψ) ∧ (r9, view x9.2) = FC_X9_hasStrands (view f) o0) (cB D ks τ L A N) A) 0 0 A := by
  refine cMet (own := RX9) (by decide) rfl (Nat.le_of_ble_eq_true rfl) ?_
  intro p e s m below meth c ls C9 hml hr hlk V I hNs hl
  have hx := C9.1
  have hb := C9.2.1
  have hown := C9.2.2.1
  have hts := C9.2.2.2.1
  have hS : va_S A s.heap s.heap [] := va_S.rf
  have hG := FC_X9_hasStrands.eq_1 (view f) o0
  have hl : lv_has ls 1 [(0, .ref o0)] := hl
  refine lv_aload_n hx hb dX9_hasStrands_0 rfl (lv_at hl 0 rfl) ?_
  obtain ⟨hL1, hk1⟩ := id t_o0
  rcases hk1 with hk1 | hk1 | hk1 | hk1 | hk1 | hk1
  · have tk1 : ty τ L o0 0 := ⟨hL1, hk1⟩
    obtain ⟨v2_0, v2_1, v2_2, v2_3, v2_4, hf2, t2_2⟩ := op0 I tk1
    refine cG C9 V tk1.1 hf2 rfl tC_lay0 2 (by decide) tCf_X9_12 (Or.inl rfl) rfl dX9_hasStrands_1 ?_
    replace hG := gLt_e hG (view_gR hf2 rfl)
    obtain ⟨v3_0, v3_1, hf3, hn3, t3_1⟩ := op5 I t2_2
    refine cG C9 V t2_2.1 hf3 rfl tC_lay5 0 (by decide) tCf_X9_25 (Or.inl rfl) rfl dX9_hasStrands_4 ?_
    replace hG := gLt_e hG (view_gI hf3 rfl)
    refine lv_if_le (tgt := 14) hx hb dX9_hasStrands_7 (by decide) (fun c4 => ?_) (fun c4 => ?_)
    · replace hG := gIf_p hG c4
      refine lv_iconst (v := 0) hx hb dX9_hasStrands_14 (by decide) ?_
      exact cRetZ C9 hr hlk hN hNs V I hS (by clear hG V hS hl C9 hts hown hx hb hml hr hlk; first | rfl | decide | (subst_vars; rfl)) (⟨rfl, hG.symm⟩) dX9_hasStrands_15
    · replace hG := gIf_n hG c4
      refine lv_iconst (v := 1) hx hb dX9_hasStrands_10 (by decide) ?_
      refine lv_goto (tgt := 15) hx hb dX9_hasStrands_11 (by decide) ?_
      exact cRetZ C9 hr hlk hN hNs V I hS (by clear hG V hS hl C9 hts hown hx hb hml hr hlk; first | rfl | decide | (subst_vars; rfl)) (⟨rfl, hG.symm⟩) dX9_hasStrands_15
  · have tk1 : ty τ L o0 1 := ⟨hL1, hk1⟩
    obtain ⟨v5_0, v5_1, v5_2, v5_3, v5_4, hf5, t5_2⟩ := op1 I tk1
    refine cG C9 V tk1.1 hf5 rfl tC_lay1 2 (by decide) tCf_X9_12 (Or.inl rfl) rfl dX9_hasStrands_1 ?_
    replace hG := gLt_e hG (view_gR hf5 rfl)
    obtain ⟨v6_0, v6_1, hf6, hn6, t6_1⟩ := op5 I t5_2
    refine cG C9 V t5_2.1 hf6 rfl tC_lay5 0 (by decide) tCf_X9_25 (Or.inl rfl) rfl dX9_hasStrands_4 ?_
    replace hG := gLt_e hG (view_gI hf6 rfl)
    refine lv_if_le (tgt := 14) hx hb dX9_hasStrands_7 (by decide) (fun c7 => ?_) (fun c7 => ?_)
    · replace hG := gIf_p hG c7
      refine lv_iconst (v := 0) hx hb dX9_hasStrands_14 (by decide) ?_
      exact cRetZ C9 hr hlk hN hNs V I hS (by clear hG V hS hl C9 hts hown hx hb hml hr hlk; first | rfl | decide | (subst_vars; rfl)) (⟨rfl, hG.symm⟩) dX9_hasStrands_15
    · replace hG := gIf_n hG c7
      refine lv_iconst (v := 1) hx hb dX9_hasStrands_10 (by decide) ?_
      refine lv_goto (tgt := 15) hx hb dX9_hasStrands_11 (by decide) ?_
      exact cRetZ C9 hr hlk hN hNs V I hS (by clear hG V hS hl C9 hts hown hx hb hml hr hlk; first | rfl | decide | (subst_vars; rfl)) (⟨rfl, hG.symm⟩) dX9_hasStrands_15
  · have tk1 : ty τ L o0 2 := ⟨hL1, hk1⟩
    obtain ⟨v8_0, v8_1, v8_2, v8_3, hf8, t8_2⟩ := op2 I tk1
    refine cG C9 V tk1.1 hf8 rfl tC_lay2 2 (by decide) tCf_X9_12 (Or.inl rfl) rfl dX9_hasStrands_1 ?_
    replace hG := gLt_e hG (view_gR hf8 rfl)
    obtain ⟨v9_0, v9_1, hf9, hn9, t9_1⟩ := op5 I t8_2
    refine cG C9 V t8_2.1 hf9 rfl tC_lay5 0 (by decide) tCf_X9_25 (Or.inl rfl) rfl dX9_hasStrands_4 ?_
    replace hG := gLt_e hG (view_gI hf9 rfl)
    refine lv_if_le (tgt := 14) hx hb dX9_hasStrands_7 (by decide) (fun c10 => ?_) (fun c10 => ?_)
    · replace hG := gIf_p hG c10
      refine lv_iconst (v := 0) hx hb dX9_hasStrands_14 (by decide) ?_
      exact cRetZ C9 hr hlk hN hNs V I hS (by clear hG V hS hl C9 hts hown hx hb hml hr hlk; first | rfl | decide | (subst_vars; rfl)) (⟨rfl, hG.symm⟩) dX9_hasStrands_15
    · replace hG := gIf_n hG c10
      refine lv_iconst (v := 1) hx hb dX9_hasStrands_10 (by decide) ?_
      refine lv_goto (tgt := 15) hx hb dX9_hasStrands_11 (by decide) ?_
      exact cRetZ C9 hr hlk hN hNs V I hS (by clear hG V hS hl C9 hts hown hx hb hml hr hlk; first | rfl | decide | (subst_vars; rfl)) (⟨rfl, hG.symm⟩) dX9_hasStrands_15
  · have tk1 : ty τ L o0 3 := ⟨hL1, hk1⟩
    obtain ⟨v11_0, v11_1, v11_2, v11_3, v11_4, v11_5, v11_6, hf11, t11_2, t11_6⟩ := op3 I tk1
    refine cG C9 V tk1.1 hf11 rfl tC_lay3 2 (by decide) tCf_X9_12 (Or.inl rfl) rfl dX9_hasStrands_1 ?_
    replace hG := gLt_e hG (view_gR hf11 rfl)
    obtain ⟨v12_0, v12_1, hf12, hn12, t12_1⟩ := op5 I t11_2
    refine cG C9 V t11_2.1 hf12 rfl tC_lay5 0 (by decide) tCf_X9_25 (Or.inl rfl) rfl dX9_hasStrands_4 ?_
    replace hG := gLt_e hG (view_gI hf12 rfl)
    refine lv_if_le (tgt := 14) hx hb dX9_hasStrands_7 (by decide) (fun c13 => ?_) (fun c13 => ?_)
    · replace hG := gIf_p hG c13
      refine lv_iconst (v := 0) hx hb dX9_hasStrands_14 (by decide) ?_
      exact cRetZ C9 hr hlk hN hNs V I hS (by clear hG V hS hl C9 hts hown hx hb hml hr hlk; first | rfl | decide | (subst_vars; rfl)) (⟨rfl, hG.symm⟩) dX9_hasStrands_15
    · replace hG := gIf_n hG c13
      refine lv_iconst (v := 1) hx hb dX9_hasStrands_10 (by decide) ?_
      refine lv_goto (tgt := 15) hx hb dX9_hasStrands_11 (by decide) ?_
      exact cRetZ C9 hr hlk hN hNs V I hS (by clear hG V hS hl C9 hts hown hx hb hml hr hlk; first | rfl | decide | (subst_vars; rfl)) (⟨rfl, hG.symm⟩) dX9_hasStrands_15
  · have tk1 : ty τ L o0 4 := ⟨hL1, hk1⟩
    obtain ⟨v14_0, v14_1, v14_2, v14_3, v14_4, v14_5, c14, hf14, t14_2, t14_3, hc14, h014, h114⟩ := op4 I tk1
    refine cG C9 V tk1.1 hf14 rfl tC_lay4 2 (by decide) tCf_X9_12 (Or.inl rfl) rfl dX9_hasStrands_1 ?_
    replace hG := gLt_e hG (view_gR hf14 rfl)
    obtain ⟨v15_0, v15_1, hf15, hn15, t15_1⟩ := op5 I t14_2
    refine cG C9 V t14_2.1 hf15 rfl tC_lay5 0 (by decide) tCf_X9_25 (Or.inl rfl) rfl dX9_hasStrands_4 ?_
    replace hG := gLt_e hG (view_gI hf15 rfl)
    refine lv_if_le (tgt := 14) hx hb dX9_hasStrands_7 (by decide) (fun c16 => ?_) (fun c16 => ?_)
    · replace hG := gIf_p hG c16
      refine lv_iconst (v := 0) hx hb dX9_hasStrands_14 (by decide) ?_
      exact cRetZ C9 hr hlk hN hNs V I hS (by clear hG V hS hl C9 hts hown hx hb hml hr hlk; first | rfl | decide | (subst_vars; rfl)) (⟨rfl, hG.symm⟩) dX9_hasStrands_15
    · replace hG := gIf_n hG c16
      refine lv_iconst (v := 1) hx hb dX9_hasStrands_10 (by decide) ?_
      refine lv_goto (tgt := 15) hx hb dX9_hasStrands_11 (by decide) ?_
      exact cRetZ C9 hr hlk hN hNs V I hS (by clear hG V hS hl C9 hts hown hx hb hml hr hlk; first | rfl | decide | (subst_vars; rfl)) (⟨rfl, hG.symm⟩) dX9_hasStrands_15
  · have tk1 : ty τ L o0 6 := ⟨hL1, hk1⟩
    obtain ⟨v17_0, v17_1, v17_2, v17_3, hf17, t17_2⟩ := op6 I tk1
    refine cG C9 V tk1.1 hf17 rfl tC_lay6 2 (by decide) tCf_X9_12 (Or.inl rfl) rfl dX9_hasStrands_1 ?_
    replace hG := gLt_e hG (view_gR hf17 rfl)
    obtain ⟨v18_0, v18_1, hf18, hn18, t18_1⟩ := op5 I t17_2
    refine cG C9 V t17_2.1 hf18 rfl tC_lay5 0 (by decide) tCf_X9_25 (Or.inl rfl) rfl dX9_hasStrands_4 ?_
    replace hG := gLt_e hG (view_gI hf18 rfl)
    refine lv_if_le (tgt := 14) hx hb dX9_hasStrands_7 (by decide) (fun c19 => ?_) (fun c19 => ?_)
    · replace hG := gIf_p hG c19
      refine lv_iconst (v := 0) hx hb dX9_hasStrands_14 (by decide) ?_
      exact cRetZ C9 hr hlk hN hNs V I hS (by clear hG V hS hl C9 hts hown hx hb hml hr hlk; first | rfl | decide | (subst_vars; rfl)) (⟨rfl, hG.symm⟩) dX9_hasStrands_15
    · replace hG := gIf_n hG c19
      refine lv_iconst (v := 1) hx hb dX9_hasStrands_10 (by decide) ?_
      refine lv_goto (tgt := 15) hx hb dX9_hasStrands_11 (by decide) ?_
      exact cRetZ C9 hr hlk hN hNs V I hS (by clear hG V hS hl C9 hts hown hx hb hml hr hlk; first | rfl | decide | (subst_vars; rfl)) (⟨rfl, hG.symm⟩) dX9_hasStrands_15
def FC_X9_tells (X : xS) (o0 : Nat) (i1 : Int32) : Int32 × xS := if 1 < (i1 : Int32) then (((0 : Int32), X)) else (((1 : Int32), X))
set_option maxHeartbeats 200000 in
set_option maxRecDepth 100000 in
theorem c_X9_tells (l : Launch) (D : va_G) (ks : kS) (τ : Nat → Nat) (L : List Nat) (A : Nat → Prop) (N : State → Prop) (hN : cNk A N)  (ψ : Int32) (f : Nat → va_E) (o0 : Nat) (i1 : Int32) (t_o0 : tyS τ L o0) : Met l yX9_tells (Cond.code yX9_tells cX9_tells 2 (some .boolean) :: tC) ({ frames := 0, cells := 0, slots := 0, locals := 0 }) (va_Pc [.ref o0, .int i1] (cB D ks τ L A N (ψ, f))) (va_Qi (fun r9 x9 => (x9.1 = ψ) ∧ (r9, view x9.2) = FC_X9_tells (view f) o0 i1) (cB D ks τ L A N) A) 0 0 A := by
  refine cMet (own := RX9) (by decide) rfl (Nat.le_of_ble_eq_true rfl) ?_
  intro p e s m below meth c ls C9 hml hr hlk V I hNs hl
  have hx := C9.1
  have hb := C9.2.1
  have hown := C9.2.2.1
  have hts := C9.2.2.2.1
  have hS : va_S A s.heap s.heap [] := va_S.rf
  have hG := FC_X9_tells.eq_1 (view f) o0 i1
  have hl : lv_has ls 2 [(0, .ref o0), (1, .int i1)] := hl
  refine lv_iload_n hx hb dX9_tells_0 rfl (lv_at hl 1 rfl) ?_
  refine lv_iconst (v := 1) hx hb dX9_tells_1 (by decide) ?_
  refine lv_icmp_gt (tgt := 9) hx hb dX9_tells_2 (by decide) (fun c1 => ?_) (fun c1 => ?_)
  · replace hG := gIf_p hG c1
    refine lv_iconst (v := 0) hx hb dX9_tells_9 (by decide) ?_
    exact cRetZ C9 hr hlk hN hNs V I hS (by clear hG V hS hl C9 hts hown hx hb hml hr hlk; first | rfl | decide | (subst_vars; rfl)) (⟨rfl, hG.symm⟩) dX9_tells_10
  · replace hG := gIf_n hG c1
    refine lv_iconst (v := 1) hx hb dX9_tells_5 (by decide) ?_
    refine lv_goto (tgt := 10) hx hb dX9_tells_6 (by decide) ?_
    exact cRetZ C9 hr hlk hN hNs V I hS (by clear hG V hS hl C9 hts hown hx hb hml hr hlk; first | rfl | decide | (subst_vars; rfl)) (⟨rfl, hG.symm⟩) dX9_tells_10
def FC_X9_detail (X : xS) (o0 : Nat) (i1 : Int32) : Int64 × xS := (((-1) : Int64), X)
set_option maxHeartbeats 200000 in
set_option maxRecDepth 100000 in
theorem c_X9_detail (l : Launch) (D : va_G) (ks : kS) (τ : Nat → Nat) (L : List Nat) (A : Nat → Prop) (N : State → Prop) (hN : cNk A N)  (ψ : Int32) (f : Nat → va_E) (o0 : Nat) (i1 : Int32) (t_o0 : tyS τ L o0) : Met l yX9_detail (Cond.code yX9_detail cX9_detail 2 (some .long) :: tC) ({ frames := 0, cells := 0, slots := 0, locals := 0 }) (va_Pc [.ref o0, .int i1] (cB D ks τ L A N (ψ, f))) (va_Ql (fun r9 x9 => (x9.1 = ψ) ∧ (r9, view x9.2) = FC_X9_detail (view f) o0 i1) (cB D ks τ L A N) A) 0 0 A := by
  refine cMet (own := RX9) (by decide) rfl (Nat.le_of_ble_eq_true rfl) ?_
  intro p e s m below meth c ls C9 hml hr hlk V I hNs hl
  have hx := C9.1
  have hb := C9.2.1
  have hown := C9.2.2.1
  have hts := C9.2.2.2.1
  have hS : va_S A s.heap s.heap [] := va_S.rf
  have hG := FC_X9_detail.eq_1 (view f) o0 i1
  have hl : lv_has ls 2 [(0, .ref o0), (1, .int i1)] := hl
  refine lv_ldc2 hx hb hown (hts _ tCc_X9_28) dX9_detail_0 ?_
  exact cRetL C9 hr hlk hN hNs V I hS (⟨rfl, hG.symm⟩) dX9_detail_3
def FC_X1_value (X : xS) (o0 : Nat) : Int64 × xS := gLt (xI X o0 4 : Int32) (fun v1_4 => (((Int32.toInt64 v1_4) : Int64), X))
set_option maxHeartbeats 200000 in
set_option maxRecDepth 100000 in
theorem c_X1_value (l : Launch) (D : va_G) (ks : kS) (τ : Nat → Nat) (L : List Nat) (A : Nat → Prop) (N : State → Prop) (hN : cNk A N)  (ψ : Int32) (f : Nat → va_E) (o0 : Nat) (t_o0 : ty τ L o0 0) : Met l yX1_value (Cond.code yX1_value cX1_value 1 (some .long) :: tC) ({ frames := 0, cells := 0, slots := 0, locals := 0 }) (va_Pc [.ref o0] (cB D ks τ L A N (ψ, f))) (va_Ql (fun r9 x9 => (x9.1 = ψ) ∧ (r9, view x9.2) = FC_X1_value (view f) o0) (cB D ks τ L A N) A) 0 0 A := by
  refine cMet (own := RX1) (by decide) rfl (Nat.le_of_ble_eq_true rfl) ?_
  intro p e s m below meth c ls C9 hml hr hlk V I hNs hl
  have hx := C9.1
  have hb := C9.2.1
  have hown := C9.2.2.1
  have hts := C9.2.2.2.1
  have hS : va_S A s.heap s.heap [] := va_S.rf
  have hG := FC_X1_value.eq_1 (view f) o0
  have hl : lv_has ls 1 [(0, .ref o0)] := hl
  refine lv_aload_n hx hb dX1_value_0 rfl (lv_at hl 0 rfl) ?_
  obtain ⟨v1_0, v1_1, v1_2, v1_3, v1_4, hf1, t1_2⟩ := op0 I t_o0
  refine cG C9 V t_o0.1 hf1 rfl tC_lay0 4 (by decide) tCf_X1_36 (Or.inl rfl) rfl dX1_value_1 ?_
  replace hG := gLt_e hG (view_gI hf1 rfl)
  refine lv_i2l hx hb dX1_value_4 rfl ?_
  exact cRetL C9 hr hlk hN hNs V I hS (⟨rfl, hG.symm⟩) dX1_value_5
def FC_X3_value (X : xS) (o0 : Nat) : Int64 × xS := gLt (xI X o0 1 : Int32) (fun v1_1 => if (v1_1 : Int32) = 2 then (gLt (xI X o0 3 : Int32) (fun v1_3 => (((Int32.toInt64 v1_3) : Int64), X))) else (gLt ((xR X o0 2).getD 0 : Nat) (fun v1_2 => gLt (xI X v1_2 0 : Int32) (fun v3_0 => (((Int32.toInt64 v3_0) : Int64), X)))))
set_option maxHeartbeats 200000 in
set_option maxRecDepth 100000 in
theorem c_X3_value (l : Launch) (D : va_G) (ks : kS) (τ : Nat → Nat) (L : List Nat) (A : Nat → Prop) (N : State → Prop) (hN : cNk A N)  (ψ : Int32) (f : Nat → va_E) (o0 : Nat) (t_o0 : ty τ L o0 2) : Met l yX3_value (Cond.code yX3_value cX3_value 1 (some .long) :: tC) ({ frames := 0, cells := 0, slots := 0, locals := 0 }) (va_Pc [.ref o0] (cB D ks τ L A N (ψ, f))) (va_Ql (fun r9 x9 => (x9.1 = ψ) ∧ (r9, view x9.2) = FC_X3_value (view f) o0) (cB D ks τ L A N) A) 0 0 A := by
  refine cMet (own := RX3) (by decide) rfl (Nat.le_of_ble_eq_true rfl) ?_
  intro p e s m below meth c ls C9 hml hr hlk V I hNs hl
  have hx := C9.1
  have hb := C9.2.1
  have hown := C9.2.2.1
  have hts := C9.2.2.2.1
  have hS : va_S A s.heap s.heap [] := va_S.rf
  have hG := FC_X3_value.eq_1 (view f) o0
  have hl : lv_has ls 1 [(0, .ref o0)] := hl
  refine lv_aload_n hx hb dX3_value_0 rfl (lv_at hl 0 rfl) ?_
  obtain ⟨v1_0, v1_1, v1_2, v1_3, hf1, t1_2⟩ := op2 I t_o0
  refine cG C9 V t_o0.1 hf1 rfl tC_lay2 1 (by decide) tCf_X3_52 (Or.inr tCs_X3_kind) rfl dX3_value_1 ?_
  replace hG := gLt_e hG (view_gI hf1 rfl)
  refine lv_iconst (v := 2) hx hb dX3_value_4 (by decide) ?_
  refine lv_icmp_ne (tgt := 16) hx hb dX3_value_5 (by decide) (fun c2 => ?_) (fun c2 => ?_)
  · replace hG := gIf_n hG c2
    refine lv_aload_n hx hb dX3_value_16 rfl (lv_at hl 0 rfl) ?_
    refine cG C9 V t_o0.1 hf1 rfl tC_lay2 2 (by decide) tCf_X3_40 (Or.inr tCs_X3_row) rfl dX3_value_17 ?_
    replace hG := gLt_e hG (view_gR hf1 rfl)
    obtain ⟨v3_0, v3_1, hf3, hn3, t3_1⟩ := op5 I t1_2
    refine cG C9 V t1_2.1 hf3 rfl tC_lay5 0 (by decide) tCf_X3_44 (Or.inl rfl) rfl dX3_value_20 ?_
    replace hG := gLt_e hG (view_gI hf3 rfl)
    refine lv_i2l hx hb dX3_value_23 rfl ?_
    exact cRetL C9 hr hlk hN hNs V I hS (⟨rfl, hG.symm⟩) dX3_value_24
  · replace hG := gIf_p hG c2
    refine lv_aload_n hx hb dX3_value_8 rfl (lv_at hl 0 rfl) ?_
    refine cG C9 V t_o0.1 hf1 rfl tC_lay2 3 (by decide) tCf_X3_9 (Or.inl rfl) rfl dX3_value_9 ?_
    replace hG := gLt_e hG (view_gI hf1 rfl)
    refine lv_i2l hx hb dX3_value_12 rfl ?_
    refine lv_goto (tgt := 24) hx hb dX3_value_13 (by decide) ?_
    exact cRetL C9 hr hlk hN hNs V I hS (⟨rfl, hG.symm⟩) dX3_value_24
def FC_X5_value (X : xS) (o0 : Nat) : Int64 × xS := gLt (xI X o0 5 : Int32) (fun v1_5 => (((Int32.toInt64 v1_5) : Int64), X))
set_option maxHeartbeats 200000 in
set_option maxRecDepth 100000 in
theorem c_X5_value (l : Launch) (D : va_G) (ks : kS) (τ : Nat → Nat) (L : List Nat) (A : Nat → Prop) (N : State → Prop) (hN : cNk A N)  (ψ : Int32) (f : Nat → va_E) (o0 : Nat) (t_o0 : ty τ L o0 4) : Met l yX5_value (Cond.code yX5_value cX5_value 1 (some .long) :: tC) ({ frames := 0, cells := 0, slots := 0, locals := 0 }) (va_Pc [.ref o0] (cB D ks τ L A N (ψ, f))) (va_Ql (fun r9 x9 => (x9.1 = ψ) ∧ (r9, view x9.2) = FC_X5_value (view f) o0) (cB D ks τ L A N) A) 0 0 A := by
  refine cMet (own := RX5) (by decide) rfl (Nat.le_of_ble_eq_true rfl) ?_
  intro p e s m below meth c ls C9 hml hr hlk V I hNs hl
  have hx := C9.1
  have hb := C9.2.1
  have hown := C9.2.2.1
  have hts := C9.2.2.2.1
  have hS : va_S A s.heap s.heap [] := va_S.rf
  have hG := FC_X5_value.eq_1 (view f) o0
  have hl : lv_has ls 1 [(0, .ref o0)] := hl
  refine lv_aload_n hx hb dX5_value_0 rfl (lv_at hl 0 rfl) ?_
  obtain ⟨v1_0, v1_1, v1_2, v1_3, v1_4, v1_5, c1, hf1, t1_2, t1_3, hc1, h01, h11⟩ := op4 I t_o0
  refine cG C9 V t_o0.1 hf1 rfl tC_lay4 5 (by decide) tCf_X5_48 (Or.inl rfl) rfl dX5_value_1 ?_
  replace hG := gLt_e hG (view_gI hf1 rfl)
  refine lv_i2l hx hb dX5_value_4 rfl ?_
  exact cRetL C9 hr hlk hN hNs V I hS (⟨rfl, hG.symm⟩) dX5_value_5
def FC_X7_value (X : xS) (o0 : Nat) : Int64 × xS := gLt (xI X o0 3 : Int32) (fun v1_3 => (((Int32.toInt64 v1_3) : Int64), X))
set_option maxHeartbeats 200000 in
set_option maxRecDepth 100000 in
theorem c_X7_value (l : Launch) (D : va_G) (ks : kS) (τ : Nat → Nat) (L : List Nat) (A : Nat → Prop) (N : State → Prop) (hN : cNk A N)  (ψ : Int32) (f : Nat → va_E) (o0 : Nat) (t_o0 : ty τ L o0 6) : Met l yX7_value (Cond.code yX7_value cX7_value 1 (some .long) :: tC) ({ frames := 0, cells := 0, slots := 0, locals := 0 }) (va_Pc [.ref o0] (cB D ks τ L A N (ψ, f))) (va_Ql (fun r9 x9 => (x9.1 = ψ) ∧ (r9, view x9.2) = FC_X7_value (view f) o0) (cB D ks τ L A N) A) 0 0 A := by
  refine cMet (own := RX7) (by decide) rfl (Nat.le_of_ble_eq_true rfl) ?_
  intro p e s m below meth c ls C9 hml hr hlk V I hNs hl
  have hx := C9.1
  have hb := C9.2.1
  have hown := C9.2.2.1
  have hts := C9.2.2.2.1
  have hS : va_S A s.heap s.heap [] := va_S.rf
  have hG := FC_X7_value.eq_1 (view f) o0
  have hl : lv_has ls 1 [(0, .ref o0)] := hl
  refine lv_aload_n hx hb dX7_value_0 rfl (lv_at hl 0 rfl) ?_
  obtain ⟨v1_0, v1_1, v1_2, v1_3, hf1, t1_2⟩ := op6 I t_o0
  refine cG C9 V t_o0.1 hf1 rfl tC_lay6 3 (by decide) tCf_X7_9 (Or.inl rfl) rfl dX7_value_1 ?_
  replace hG := gLt_e hG (view_gI hf1 rfl)
  refine lv_i2l hx hb dX7_value_4 rfl ?_
  exact cRetL C9 hr hlk hN hNs V I hS (⟨rfl, hG.symm⟩) dX7_value_5
def FC_X1_tells (X : xS) (o0 : Nat) (i1 : Int32) : Int32 × xS := if 2 < (i1 : Int32) then (((0 : Int32), X)) else (((1 : Int32), X))
set_option maxHeartbeats 200000 in
set_option maxRecDepth 100000 in
theorem c_X1_tells (l : Launch) (D : va_G) (ks : kS) (τ : Nat → Nat) (L : List Nat) (A : Nat → Prop) (N : State → Prop) (hN : cNk A N)  (ψ : Int32) (f : Nat → va_E) (o0 : Nat) (i1 : Int32) (t_o0 : ty τ L o0 0) : Met l yX1_tells (Cond.code yX1_tells cX1_tells 2 (some .boolean) :: tC) ({ frames := 0, cells := 0, slots := 0, locals := 0 }) (va_Pc [.ref o0, .int i1] (cB D ks τ L A N (ψ, f))) (va_Qi (fun r9 x9 => (x9.1 = ψ) ∧ (r9, view x9.2) = FC_X1_tells (view f) o0 i1) (cB D ks τ L A N) A) 0 0 A := by
  refine cMet (own := RX1) (by decide) rfl (Nat.le_of_ble_eq_true rfl) ?_
  intro p e s m below meth c ls C9 hml hr hlk V I hNs hl
  have hx := C9.1
  have hb := C9.2.1
  have hown := C9.2.2.1
  have hts := C9.2.2.2.1
  have hS : va_S A s.heap s.heap [] := va_S.rf
  have hG := FC_X1_tells.eq_1 (view f) o0 i1
  have hl : lv_has ls 2 [(0, .ref o0), (1, .int i1)] := hl
  refine lv_iload_n hx hb dX1_tells_0 rfl (lv_at hl 1 rfl) ?_
  refine lv_iconst (v := 2) hx hb dX1_tells_1 (by decide) ?_
  refine lv_icmp_gt (tgt := 9) hx hb dX1_tells_2 (by decide) (fun c1 => ?_) (fun c1 => ?_)
  · replace hG := gIf_p hG c1
    refine lv_iconst (v := 0) hx hb dX1_tells_9 (by decide) ?_
    exact cRetZ C9 hr hlk hN hNs V I hS (by clear hG V hS hl C9 hts hown hx hb hml hr hlk; first | rfl | decide | (subst_vars; rfl)) (⟨rfl, hG.symm⟩) dX1_tells_10
  · replace hG := gIf_n hG c1
    refine lv_iconst (v := 1) hx hb dX1_tells_5 (by decide) ?_
    refine lv_goto (tgt := 10) hx hb dX1_tells_6 (by decide) ?_
    exact cRetZ C9 hr hlk hN hNs V I hS (by clear hG V hS hl C9 hts hown hx hb hml hr hlk; first | rfl | decide | (subst_vars; rfl)) (⟨rfl, hG.symm⟩) dX1_tells_10
def FC_X5_tells (X : xS) (o0 : Nat) (i1 : Int32) : Int32 × xS := if (i1 : Int32) ≤ 1 then (((1 : Int32), X)) else (if (i1 : Int32) = 4 then (((1 : Int32), X)) else (((0 : Int32), X)))
set_option maxHeartbeats 200000 in
set_option maxRecDepth 100000 in
theorem c_X5_tells (l : Launch) (D : va_G) (ks : kS) (τ : Nat → Nat) (L : List Nat) (A : Nat → Prop) (N : State → Prop) (hN : cNk A N)  (ψ : Int32) (f : Nat → va_E) (o0 : Nat) (i1 : Int32) (t_o0 : ty τ L o0 4) : Met l yX5_tells (Cond.code yX5_tells cX5_tells 2 (some .boolean) :: tC) ({ frames := 0, cells := 0, slots := 0, locals := 0 }) (va_Pc [.ref o0, .int i1] (cB D ks τ L A N (ψ, f))) (va_Qi (fun r9 x9 => (x9.1 = ψ) ∧ (r9, view x9.2) = FC_X5_tells (view f) o0 i1) (cB D ks τ L A N) A) 0 0 A := by
  refine cMet (own := RX5) (by decide) rfl (Nat.le_of_ble_eq_true rfl) ?_
  intro p e s m below meth c ls C9 hml hr hlk V I hNs hl
  have hx := C9.1
  have hb := C9.2.1
  have hown := C9.2.2.1
  have hts := C9.2.2.2.1
  have hS : va_S A s.heap s.heap [] := va_S.rf
  have hG := FC_X5_tells.eq_1 (view f) o0 i1
  have hl : lv_has ls 2 [(0, .ref o0), (1, .int i1)] := hl
  refine lv_iload_n hx hb dX5_tells_0 rfl (lv_at hl 1 rfl) ?_
  refine lv_iconst (v := 1) hx hb dX5_tells_1 (by decide) ?_
  refine lv_icmp_le (tgt := 10) hx hb dX5_tells_2 (by decide) (fun c1 => ?_) (fun c1 => ?_)
  · replace hG := gIf_p hG c1
    refine lv_iconst (v := 1) hx hb dX5_tells_10 (by decide) ?_
    refine lv_goto (tgt := 15) hx hb dX5_tells_11 (by decide) ?_
    exact cRetZ C9 hr hlk hN hNs V I hS (by clear hG V hS hl C9 hts hown hx hb hml hr hlk; first | rfl | decide | (subst_vars; rfl)) (⟨rfl, hG.symm⟩) dX5_tells_15
  · replace hG := gIf_n hG c1
    refine lv_iload_n hx hb dX5_tells_5 rfl (lv_at hl 1 rfl) ?_
    refine lv_iconst (v := 4) hx hb dX5_tells_6 (by decide) ?_
    refine lv_icmp_ne (tgt := 14) hx hb dX5_tells_7 (by decide) (fun c2 => ?_) (fun c2 => ?_)
    · replace hG := gIf_n hG c2
      refine lv_iconst (v := 0) hx hb dX5_tells_14 (by decide) ?_
      exact cRetZ C9 hr hlk hN hNs V I hS (by clear hG V hS hl C9 hts hown hx hb hml hr hlk; first | rfl | decide | (subst_vars; rfl)) (⟨rfl, hG.symm⟩) dX5_tells_15
    · replace hG := gIf_p hG c2
      refine lv_iconst (v := 1) hx hb dX5_tells_10 (by decide) ?_
      refine lv_goto (tgt := 15) hx hb dX5_tells_11 (by decide) ?_
      exact cRetZ C9 hr hlk hN hNs V I hS (by clear hG V hS hl C9 hts hown hx hb hml hr hlk; first | rfl | decide | (subst_vars; rfl)) (⟨rfl, hG.symm⟩) dX5_tells_15
def FC_X1_detail (X : xS) (o0 : Nat) (i1 : Int32) : Int64 × xS := gLt (xI X o0 3 : Int32) (fun v1_3 => (((Int32.toInt64 v1_3) : Int64), X))
set_option maxHeartbeats 200000 in
set_option maxRecDepth 100000 in
theorem c_X1_detail (l : Launch) (D : va_G) (ks : kS) (τ : Nat → Nat) (L : List Nat) (A : Nat → Prop) (N : State → Prop) (hN : cNk A N)  (ψ : Int32) (f : Nat → va_E) (o0 : Nat) (i1 : Int32) (t_o0 : ty τ L o0 0) : Met l yX1_detail (Cond.code yX1_detail cX1_detail 2 (some .long) :: tC) ({ frames := 0, cells := 0, slots := 0, locals := 0 }) (va_Pc [.ref o0, .int i1] (cB D ks τ L A N (ψ, f))) (va_Ql (fun r9 x9 => (x9.1 = ψ) ∧ (r9, view x9.2) = FC_X1_detail (view f) o0 i1) (cB D ks τ L A N) A) 0 0 A := by
  refine cMet (own := RX1) (by decide) rfl (Nat.le_of_ble_eq_true rfl) ?_
  intro p e s m below meth c ls C9 hml hr hlk V I hNs hl
  have hx := C9.1
  have hb := C9.2.1
  have hown := C9.2.2.1
  have hts := C9.2.2.2.1
  have hS : va_S A s.heap s.heap [] := va_S.rf
  have hG := FC_X1_detail.eq_1 (view f) o0 i1
  have hl : lv_has ls 2 [(0, .ref o0), (1, .int i1)] := hl
  refine lv_aload_n hx hb dX1_detail_0 rfl (lv_at hl 0 rfl) ?_
  obtain ⟨v1_0, v1_1, v1_2, v1_3, v1_4, hf1, t1_2⟩ := op0 I t_o0
  refine cG C9 V t_o0.1 hf1 rfl tC_lay0 3 (by decide) tCf_X1_9 (Or.inl rfl) rfl dX1_detail_1 ?_
  replace hG := gLt_e hG (view_gI hf1 rfl)
  refine lv_i2l hx hb dX1_detail_4 rfl ?_
  exact cRetL C9 hr hlk hN hNs V I hS (⟨rfl, hG.symm⟩) dX1_detail_5
def FC_X5_detail (X : xS) (o0 : Nat) (i1 : Int32) : Int64 × xS := gLt ((xR X o0 3).getD 0 : Nat) (fun v1_3 => gLt (xC X v1_3 : Nat) (fun c1 => (((Int32.toInt64 (nI c1)) : Int64), X)))
set_option maxHeartbeats 200000 in
set_option maxRecDepth 100000 in
theorem c_X5_detail (l : Launch) (D : va_G) (ks : kS) (τ : Nat → Nat) (L : List Nat) (A : Nat → Prop) (N : State → Prop) (hN : cNk A N)  (ψ : Int32) (f : Nat → va_E) (o0 : Nat) (i1 : Int32) (t_o0 : ty τ L o0 4) : Met l yX5_detail (Cond.code yX5_detail cX5_detail 2 (some .long) :: tC) ({ frames := 0, cells := 0, slots := 0, locals := 0 }) (va_Pc [.ref o0, .int i1] (cB D ks τ L A N (ψ, f))) (va_Ql (fun r9 x9 => (x9.1 = ψ) ∧ (r9, view x9.2) = FC_X5_detail (view f) o0 i1) (cB D ks τ L A N) A) 0 0 A := by
  refine cMet (own := RX5) (by decide) rfl (Nat.le_of_ble_eq_true rfl) ?_
  intro p e s m below meth c ls C9 hml hr hlk V I hNs hl
  have hx := C9.1
  have hb := C9.2.1
  have hown := C9.2.2.1
  have hts := C9.2.2.2.1
  have hS : va_S A s.heap s.heap [] := va_S.rf
  have hG := FC_X5_detail.eq_1 (view f) o0 i1
  have hl : lv_has ls 2 [(0, .ref o0), (1, .int i1)] := hl
  refine lv_aload_n hx hb dX5_detail_0 rfl (lv_at hl 0 rfl) ?_
  obtain ⟨v1_0, v1_1, v1_2, v1_3, v1_4, v1_5, c1, hf1, t1_2, t1_3, hc1, h01, h11⟩ := op4 I t_o0
  refine cG C9 V t_o0.1 hf1 rfl tC_lay4 3 (by decide) tCf_X5_9 (Or.inl rfl) rfl dX5_detail_1 ?_
  replace hG := gLt_e hG (view_gR hf1 rfl)
  obtain ⟨g2, hf2⟩ := opN I t1_3 hc1
  replace hG := gLt_e hG ((view_l hf2).symm)
  refine cAl (t0 := 1) (v := (nI c1)) C9 V t1_3.1 hf2 rfl (by first | rfl | decide) dX5_detail_4 ?_
  refine lv_i2l hx hb dX5_detail_5 rfl ?_
  exact cRetL C9 hr hlk hN hNs V I hS (⟨rfl, hG.symm⟩) dX5_detail_6

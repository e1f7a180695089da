def FC_X8_goOn (X : xS) (o0 : Nat) : xS := gO (xR X o0 8) (gLt (xwR X o0 8 none : xS) (fun Xf3 => gLt (xwR Xf3 o0 7 none : xS) (fun Xf5 => gLt (xI Xf5 o0 3 : Int32) (fun v1_3 => gLt (FC_X8_goTo Xf5 o0 (v1_3 + 1) : xS) (fun Xf7 => Xf7))))) (fun y2 => gLt (FC_X6_remove X y2 o0 : xS) (fun Xf11 => gLt (xwR Xf11 o0 8 none : xS) (fun Xf15 => gLt (xwR Xf15 o0 7 none : xS) (fun Xf17 => gLt (xI Xf17 o0 3 : Int32) (fun v14_3 => gLt (FC_X8_goTo Xf17 o0 (v14_3 + 1) : xS) (fun Xf19 => Xf19))))))
set_option maxHeartbeats 200000 in
set_option maxRecDepth 100000 in
theorem c_X8_goOn (l : Launch) (D : va_G) (ks : kS) (τ : Nat → Nat) (L : List Nat) (A : Nat → Prop) (N : State → Prop) (hN : cNk A N)  (ψ : Int32) (f : Nat → va_E) (o0 : Nat) (t_o0 : ty τ L o0 7) : Met l yX8_goOn (Cond.code yX8_goOn cX8_goOn 1 none :: tC) ({ frames := 1, cells := 0, slots := 0, locals := 23 }) (va_Pc [.ref o0] (cB D ks τ L A N (ψ, f))) (va_Qv (fun x9 => (x9.1 = ψ) ∧ view x9.2 = FC_X8_goOn (view f) o0) (cB D ks τ L A N) A) 0 0 A := by
  refine cMet (own := RX8) (by decide) rfl (Nat.le_of_ble_eq_true rfl) ?_
  intro p e s m below meth c ls C9 hml hr hlk V I hNs hl
  have hx := C9.1
  have hb := C9.2.1
  have hown := C9.2.2.1
  have hts := C9.2.2.2.1
  have hS : va_S A s.heap s.heap [] := va_S.rf
  have hG := FC_X8_goOn.eq_1 (view f) o0
  have hl : lv_has ls 1 [(0, .ref o0)] := hl
  refine lv_aload_n hx hb dX8_goOn_0 rfl (lv_at hl 0 rfl) ?_
  obtain ⟨v1_0, v1_1, v1_2, v1_3, v1_4, v1_5, v1_6, v1_7, v1_8, v1_9, v1_10, v1_11, v1_12, hf1, t1_7, t1_8, t1_11⟩ := op7 I t_o0
  refine cG C9 V t_o0.1 hf1 rfl tC_lay7 8 (by decide) tCf_X8_52 (Or.inl rfl) rfl dX8_goOn_1 ?_
  replace hG := gO_e hG (view_gO hf1 rfl)
  rcases v1_8 with _ | y2
  · replace hG := gO_n hG
    refine W.eq (g2 := F0 m 4 ls [.null]) rfl ?_
    refine lv_ifnullN (tgt := 15) hx hb dX8_goOn_4 (by decide) ?_
    refine lv_aload_n hx hb dX8_goOn_15 rfl (lv_at hl 0 rfl) ?_
    refine lv_null hx hb dX8_goOn_16 ?_
    refine cP (v := va_rf none) (ty := .object "TurnKeeper$Row") C9 V hS t_o0.1 hf1 rfl tC_lay7 tyX8 tyX8_ok nmX8 8 (by decide) tCf_X8_52 rfl rfl (by decide +kernel) rfl rfl (Nat.le_of_ble_eq_true rfl) dX8_goOn_17 (fun f3 H locs ef3 V hS => ?_)
    replace hG := gLt_e hG (view_R hf1 rfl ef3)
    have hf4 : f3 o0 = .inr (7, [.int v1_0, .int v1_1, .int v1_2, .int v1_3, .int v1_4, .int v1_5, .long v1_6, va_rf v1_7, va_rf none, .int v1_9, .int v1_10, .ref v1_11, .int v1_12]) := up_s ef3
    have I := cI_up I t_o0.2 ef3 (mk7 t1_7 tyO_n t1_11)
    refine lv_aload_n hx hb dX8_goOn_20 rfl (lv_at hl 0 rfl) ?_
    refine lv_null hx hb dX8_goOn_21 ?_
    refine cP (v := va_rf none) (ty := .object "TurnKeeper$Sync") C9 V hS t_o0.1 hf4 rfl tC_lay7 tyX8 tyX8_ok nmX8 7 (by decide) tCf_X8_62 rfl rfl (by decide +kernel) rfl rfl (Nat.le_of_ble_eq_true rfl) dX8_goOn_22 (fun f5 H locs ef5 V hS => ?_)
    replace hG := gLt_e hG (view_R hf4 rfl ef5)
    have hf6 : f5 o0 = .inr (7, [.int v1_0, .int v1_1, .int v1_2, .int v1_3, .int v1_4, .int v1_5, .long v1_6, va_rf none, va_rf none, .int v1_9, .int v1_10, .ref v1_11, .int v1_12]) := up_s ef5
    have I := cI_up I t_o0.2 ef5 (mk7 tySO_n tyO_n t1_11)
    refine lv_aload_n hx hb dX8_goOn_25 rfl (lv_at hl 0 rfl) ?_
    refine lv_aload_n hx hb dX8_goOn_26 rfl (lv_at hl 0 rfl) ?_
    refine cG C9 V t_o0.1 hf6 rfl tC_lay7 3 (by decide) tCf_X8_28 (Or.inl rfl) rfl dX8_goOn_27 ?_
    replace hG := gLt_e hG (view_gI hf6 rfl)
    refine lv_iconst (v := 1) hx hb dX8_goOn_30 (by decide) ?_
    refine lv_iadd hx hb dX8_goOn_31 ?_
    refine cGoV (cRunV (As := [.int (v1_3 + 1)]) (rest := []) C9 hml hN hNs V I hS t_o0.1 hf6 rfl (c_X8_goTo l D ks τ L A N hN  ψ f5 o0 (v1_3 + 1) t_o0 ) gC_X8_66 okC_X8_goTo ⟨rfl, rfl, Nat.le_of_ble_eq_true rfl, Nat.le_of_ble_eq_true rfl⟩ hl.1 rfl (Nat.le_of_ble_eq_true rfl) dX8_goOn_32 ⟨Nat.zero_le _, Nat.zero_le _⟩) hS (fun p8 f7 H locs hqf7 V I hS => ?_)
    obtain ⟨hqf7, ghqf7⟩ := hqf7
    replace hG := gLt_e hG (ghqf7)
    have I : cI ks τ L ψ f7 := by rw [show p8 = ψ from hqf7] at I; exact I
    exact cRetV C9 hr hlk hN hNs V I hS (⟨rfl, hG.symm⟩) dX8_goOn_35
  · replace hG := gO_s hG
    have hy2 := t1_8 y2 rfl
    refine W.eq (g2 := F0 m 4 ls [.ref y2]) rfl ?_
    refine lv_ifnull hx hb dX8_goOn_4 ?_
    refine lv_aload_n hx hb dX8_goOn_7 rfl (lv_at hl 0 rfl) ?_
    refine cG C9 V t_o0.1 hf1 rfl tC_lay7 8 (by decide) tCf_X8_52 (Or.inl rfl) rfl dX8_goOn_8 ?_
    refine W.eq (g2 := F0 m 11 ls [.ref y2]) rfl ?_
    refine lv_aload_n hx hb dX8_goOn_11 rfl (lv_at hl 0 rfl) ?_
    obtain ⟨v10_0, v10_1, hf10, hn10, t10_1⟩ := op5 I hy2
    refine cGoV (cRunV (As := [.ref o0]) (rest := []) C9 hml hN hNs V I hS hy2.1 hf10 rfl (c_X6_remove l D ks τ L A N hN  ψ f y2 o0 hy2 t_o0 ) gC_X8_56 okC_X6_remove ⟨rfl, rfl, Nat.le_of_ble_eq_true rfl, Nat.le_of_ble_eq_true rfl⟩ hl.1 rfl (Nat.le_of_ble_eq_true rfl) dX8_goOn_12 ⟨Nat.zero_le _, Nat.zero_le _⟩) hS (fun p12 f11 H locs hqf11 V I hS => ?_)
    obtain ⟨hqf11, ghqf11⟩ := hqf11
    replace hG := gLt_e hG (ghqf11)
    have I : cI ks τ L ψ f11 := by rw [show p12 = ψ from hqf11] at I; exact I
    refine lv_aload_n hx hb dX8_goOn_15 rfl (lv_at hl 0 rfl) ?_
    refine lv_null hx hb dX8_goOn_16 ?_
    obtain ⟨v14_0, v14_1, v14_2, v14_3, v14_4, v14_5, v14_6, v14_7, v14_8, v14_9, v14_10, v14_11, v14_12, hf14, t14_7, t14_8, t14_11⟩ := op7 I t_o0
    refine cP (v := va_rf none) (ty := .object "TurnKeeper$Row") C9 V hS t_o0.1 hf14 rfl tC_lay7 tyX8 tyX8_ok nmX8 8 (by decide) tCf_X8_52 rfl rfl (by decide +kernel) rfl rfl (Nat.le_of_ble_eq_true rfl) dX8_goOn_17 (fun f15 H locs ef15 V hS => ?_)
    replace hG := gLt_e hG (view_R hf14 rfl ef15)
    have hf16 : f15 o0 = .inr (7, [.int v14_0, .int v14_1, .int v14_2, .int v14_3, .int v14_4, .int v14_5, .long v14_6, va_rf v14_7, va_rf none, .int v14_9, .int v14_10, .ref v14_11, .int v14_12]) := up_s ef15
    have I := cI_up I t_o0.2 ef15 (mk7 t14_7 tyO_n t14_11)
    refine lv_aload_n hx hb dX8_goOn_20 rfl (lv_at hl 0 rfl) ?_
    refine lv_null hx hb dX8_goOn_21 ?_
    refine cP (v := va_rf none) (ty := .object "TurnKeeper$Sync") C9 V hS t_o0.1 hf16 rfl tC_lay7 tyX8 tyX8_ok nmX8 7 (by decide) tCf_X8_62 rfl rfl (by decide +kernel) rfl rfl (Nat.le_of_ble_eq_true rfl) dX8_goOn_22 (fun f17 H locs ef17 V hS => ?_)
    replace hG := gLt_e hG (view_R hf16 rfl ef17)
    have hf18 : f17 o0 = .inr (7, [.int v14_0, .int v14_1, .int v14_2, .int v14_3, .int v14_4, .int v14_5, .long v14_6, va_rf none, va_rf none, .int v14_9, .int v14_10, .ref v14_11, .int v14_12]) := up_s ef17
    have I := cI_up I t_o0.2 ef17 (mk7 tySO_n tyO_n t14_11)
    refine lv_aload_n hx hb dX8_goOn_25 rfl (lv_at hl 0 rfl) ?_
    refine lv_aload_n hx hb dX8_goOn_26 rfl (lv_at hl 0 rfl) ?_
    refine cG C9 V t_o0.1 hf18 rfl tC_lay7 3 (by decide) tCf_X8_28 (Or.inl rfl) rfl dX8_goOn_27 ?_
    replace hG := gLt_e hG (view_gI hf18 rfl)
    refine lv_iconst (v := 1) hx hb dX8_goOn_30 (by decide) ?_
    refine lv_iadd hx hb dX8_goOn_31 ?_
    refine cGoV (cRunV (As := [.int (v14_3 + 1)]) (rest := []) C9 hml hN hNs V I hS t_o0.1 hf18 rfl (c_X8_goTo l D ks τ L A N hN  ψ f17 o0 (v14_3 + 1) t_o0 ) gC_X8_66 okC_X8_goTo ⟨rfl, rfl, Nat.le_of_ble_eq_true rfl, Nat.le_of_ble_eq_true rfl⟩ hl.1 rfl (Nat.le_of_ble_eq_true rfl) dX8_goOn_32 ⟨Nat.zero_le _, Nat.zero_le _⟩) hS (fun p20 f19 H locs hqf19 V I hS => ?_)
    obtain ⟨hqf19, ghqf19⟩ := hqf19
    replace hG := gLt_e hG (ghqf19)
    have I : cI ks τ L ψ f19 := by rw [show p20 = ψ from hqf19] at I; exact I
    exact cRetV C9 hr hlk hN hNs V I hS (⟨rfl, hG.symm⟩) dX8_goOn_35
def FC_X8_goOnWith (X : xS) (o0 : Nat) (i1 : Int32) : xS := gLt (xwI X o0 2 i1 : xS) (fun Xf2 => gLt (FC_X8_goOn Xf2 o0 : xS) (fun Xf4 => Xf4))
set_option maxHeartbeats 200000 in
set_option maxRecDepth 100000 in
theorem c_X8_goOnWith (l : Launch) (D : va_G) (ks : kS) (τ : Nat → Nat) (L : List Nat) (A : Nat → Prop) (N : State → Prop) (hN : cNk A N)  (ψ : Int32) (f : Nat → va_E) (o0 : Nat) (i1 : Int32) (t_o0 : ty τ L o0 7) : Met l yX8_goOnWith (Cond.code yX8_goOnWith cX8_goOnWith 2 none :: tC) ({ frames := 2, cells := 0, slots := 0, locals := 43 }) (va_Pc [.ref o0, .int i1] (cB D ks τ L A N (ψ, f))) (va_Qv (fun x9 => (x9.1 = ψ) ∧ view x9.2 = FC_X8_goOnWith (view f) o0 i1) (cB D ks τ L A N) A) 0 0 A := by
  refine cMet (own := RX8) (by decide) rfl (Nat.le_of_ble_eq_true rfl) ?_
  intro p e s m below meth c ls C9 hml hr hlk V I hNs hl
  have hx := C9.1
  have hb := C9.2.1
  have hown := C9.2.2.1
  have hts := C9.2.2.2.1
  have hS : va_S A s.heap s.heap [] := va_S.rf
  have hG := FC_X8_goOnWith.eq_1 (view f) o0 i1
  have hl : lv_has ls 2 [(0, .ref o0), (1, .int i1)] := hl
  refine lv_aload_n hx hb dX8_goOnWith_0 rfl (lv_at hl 0 rfl) ?_
  refine lv_iload_n hx hb dX8_goOnWith_1 rfl (lv_at hl 1 rfl) ?_
  obtain ⟨v1_0, v1_1, v1_2, v1_3, v1_4, v1_5, v1_6, v1_7, v1_8, v1_9, v1_10, v1_11, v1_12, hf1, t1_7, t1_8, t1_11⟩ := op7 I t_o0
  refine cP (v := .int i1) (ty := .int) C9 V hS t_o0.1 hf1 rfl tC_lay7 tyX8 tyX8_ok nmX8 2 (by decide) tCf_X8_25 rfl rfl (by decide +kernel) rfl rfl (Nat.le_of_ble_eq_true rfl) dX8_goOnWith_2 (fun f2 H locs ef2 V hS => ?_)
  replace hG := gLt_e hG (view_I hf1 rfl ef2)
  have hf3 : f2 o0 = .inr (7, [.int v1_0, .int v1_1, .int i1, .int v1_3, .int v1_4, .int v1_5, .long v1_6, va_rf v1_7, va_rf v1_8, .int v1_9, .int v1_10, .ref v1_11, .int v1_12]) := up_s ef2
  have I := cI_up I t_o0.2 ef2 (mk7 t1_7 t1_8 t1_11)
  refine lv_aload_n hx hb dX8_goOnWith_5 rfl (lv_at hl 0 rfl) ?_
  refine cGoV (cRunV (As := []) (rest := []) C9 hml hN hNs V I hS t_o0.1 hf3 rfl (c_X8_goOn l D ks τ L A N hN  ψ f2 o0 t_o0 ) gC_X8_70 okC_X8_goOn ⟨rfl, rfl, Nat.le_of_ble_eq_true rfl, Nat.le_of_ble_eq_true rfl⟩ hl.1 rfl (Nat.le_of_ble_eq_true rfl) dX8_goOnWith_6 ⟨Nat.zero_le _, Nat.zero_le _⟩) hS (fun p5 f4 H locs hqf4 V I hS => ?_)
  obtain ⟨hqf4, ghqf4⟩ := hqf4
  replace hG := gLt_e hG (ghqf4)
  have I : cI ks τ L ψ f4 := by rw [show p5 = ψ from hqf4] at I; exact I
  exact cRetV C9 hr hlk hN hNs V I hS (⟨rfl, hG.symm⟩) dX8_goOnWith_9
def FC_X8_refusesToWait (X : xS) (o0 : Nat) : Int32 × xS := gLt (xI X o0 5 : Int32) (fun v1_5 => if (v1_5 : Int32) = 0 then (((0 : Int32), X)) else (gLt (xwI X o0 5 0 : xS) (fun Xf3 => gLt ((-2) : Int32) (fun x5 => gLt (xwI Xf3 o0 2 x5 : xS) (fun Xf6 => gLt (FC_X8_goOn Xf6 o0 : xS) (fun Xf8 => ((1 : Int32), Xf8)))))))
set_option maxHeartbeats 200000 in
set_option maxRecDepth 100000 in
theorem c_X8_refusesToWait (l : Launch) (D : va_G) (ks : kS) (τ : Nat → Nat) (L : List Nat) (A : Nat → Prop) (N : State → Prop) (hN : cNk A N)  (ψ : Int32) (f : Nat → va_E) (o0 : Nat) (t_o0 : ty τ L o0 7) : Met l yX8_refusesToWait (Cond.code yX8_refusesToWait cX8_refusesToWait 1 (some .boolean) :: tC) ({ frames := 2, cells := 0, slots := 0, locals := 43 }) (va_Pc [.ref o0] (cB D ks τ L A N (ψ, f))) (va_Qi (fun r9 x9 => (x9.1 = ψ) ∧ (r9, view x9.2) = FC_X8_refusesToWait (view f) o0) (cB D ks τ L A N) A) 0 0 A := by
  refine cMet (own := RX8) (by decide) rfl (Nat.le_of_ble_eq_true rfl) ?_
  intro p e s m below meth c ls C9 hml hr hlk V I hNs hl
  have hx := C9.1
  have hb := C9.2.1
  have hown := C9.2.2.1
  have hts := C9.2.2.2.1
  have hS : va_S A s.heap s.heap [] := va_S.rf
  have hG := FC_X8_refusesToWait.eq_1 (view f) o0
  have hl : lv_has ls 1 [(0, .ref o0)] := hl
  refine lv_aload_n hx hb dX8_refusesToWait_0 rfl (lv_at hl 0 rfl) ?_
  obtain ⟨v1_0, v1_1, v1_2, v1_3, v1_4, v1_5, v1_6, v1_7, v1_8, v1_9, v1_10, v1_11, v1_12, hf1, t1_7, t1_8, t1_11⟩ := op7 I t_o0
  refine cG C9 V t_o0.1 hf1 rfl tC_lay7 5 (by decide) tCf_X8_34 (Or.inl rfl) rfl dX8_refusesToWait_1 ?_
  replace hG := gLt_e hG (view_gI hf1 rfl)
  refine lv_if_ne (tgt := 9) hx hb dX8_refusesToWait_4 (by decide) (fun c2 => ?_) (fun c2 => ?_)
  · replace hG := gIf_n hG c2
    refine lv_aload_n hx hb dX8_refusesToWait_9 rfl (lv_at hl 0 rfl) ?_
    refine lv_iconst (v := 0) hx hb dX8_refusesToWait_10 (by decide) ?_
    refine cP (v := .int 0) (ty := .boolean) C9 V hS t_o0.1 hf1 rfl tC_lay7 tyX8 tyX8_ok nmX8 5 (by decide) tCf_X8_34 rfl rfl (by decide +kernel) rfl rfl (Nat.le_of_ble_eq_true rfl) dX8_refusesToWait_11 (fun f3 H locs ef3 V hS => ?_)
    replace hG := gLt_e hG (view_I hf1 rfl ef3)
    have hf4 : f3 o0 = .inr (7, [.int v1_0, .int v1_1, .int v1_2, .int v1_3, .int v1_4, .int 0, .long v1_6, va_rf v1_7, va_rf v1_8, .int v1_9, .int v1_10, .ref v1_11, .int v1_12]) := up_s ef3
    have I := cI_up I t_o0.2 ef3 (mk7 t1_7 t1_8 t1_11)
    refine lv_aload_n hx hb dX8_refusesToWait_14 rfl (lv_at hl 0 rfl) ?_
    refine lv_bipush (v := (-2)) hx hb dX8_refusesToWait_15 (by decide) ?_
    refine lv_topi (fun x5 ex5 => ?_)
    replace hG := gLt_e hG ex5
    refine cP (v := .int x5) (ty := .int) C9 V hS t_o0.1 hf4 rfl tC_lay7 tyX8 tyX8_ok nmX8 2 (by decide) tCf_X8_25 rfl rfl (by decide +kernel) rfl rfl (Nat.le_of_ble_eq_true rfl) dX8_refusesToWait_17 (fun f6 H locs ef6 V hS => ?_)
    replace hG := gLt_e hG (view_I hf4 rfl ef6)
    have hf7 : f6 o0 = .inr (7, [.int v1_0, .int v1_1, .int x5, .int v1_3, .int v1_4, .int 0, .long v1_6, va_rf v1_7, va_rf v1_8, .int v1_9, .int v1_10, .ref v1_11, .int v1_12]) := up_s ef6
    have I := cI_up I t_o0.2 ef6 (mk7 t1_7 t1_8 t1_11)
    refine lv_aload_n hx hb dX8_refusesToWait_20 rfl (lv_at hl 0 rfl) ?_
    refine cGoV (cRunV (As := []) (rest := []) C9 hml hN hNs V I hS t_o0.1 hf7 rfl (c_X8_goOn l D ks τ L A N hN  ψ f6 o0 t_o0 ) gC_X8_70 okC_X8_goOn ⟨rfl, rfl, Nat.le_of_ble_eq_true rfl, Nat.le_of_ble_eq_true rfl⟩ hl.1 rfl (Nat.le_of_ble_eq_true rfl) dX8_refusesToWait_21 ⟨Nat.zero_le _, Nat.zero_le _⟩) hS (fun p9 f8 H locs hqf8 V I hS => ?_)
    obtain ⟨hqf8, ghqf8⟩ := hqf8
    replace hG := gLt_e hG (ghqf8)
    have I : cI ks τ L ψ f8 := by rw [show p9 = ψ from hqf8] at I; exact I
    refine lv_iconst (v := 1) hx hb dX8_refusesToWait_24 (by decide) ?_
    exact cRetZ C9 hr hlk hN hNs V I hS (by clear hG V hS hl C9 hts hown hx hb hml hr hlk; first | rfl | decide | (subst_vars; rfl)) (⟨rfl, hG.symm⟩) dX8_refusesToWait_25
  · replace hG := gIf_p hG c2
    refine lv_iconst (v := 0) hx hb dX8_refusesToWait_7 (by decide) ?_
    exact cRetZ C9 hr hlk hN hNs V I hS (by clear hG V hS hl C9 hts hown hx hb hml hr hlk; first | rfl | decide | (subst_vars; rfl)) (⟨rfl, hG.symm⟩) dX8_refusesToWait_8
def FC_X8_start_L2 (o0 : Nat) (o1 : Nat) (i1 : Int32) : Nat → Int32 → xS → xS
  | 0, w2_3, XGf2 => XGf2
  | N9_2 + 1, w2_3, XGf2 => gLt ((xR XGf2 o0 11).getD 0 : Nat) (fun v2_11 => if 240 ≤ (w2_3 : Int32) then (gLt (xwI XGf2 o0 12 i1 : xS) (fun Xf5 => gLt (xwI Xf5 o0 1 1 : xS) (fun Xf8 => gLt (xwI Xf8 o0 2 0 : xS) (fun Xf11 => gLt (xwI Xf11 o0 3 0 : xS) (fun Xf14 => gLt (xwI Xf14 o0 4 0 : xS) (fun Xf17 => gLt (xwI Xf17 o0 5 0 : xS) (fun Xf20 => Xf20))))))) else (if 240 ≤ (w2_3 : Int32) then (gLt (xwI XGf2 o0 12 i1 : xS) (fun Xf25 => gLt (xwI Xf25 o0 1 1 : xS) (fun Xf29 => gLt (xwI Xf29 o0 2 0 : xS) (fun Xf33 => gLt (xwI Xf33 o0 3 0 : xS) (fun Xf37 => gLt (xwI Xf37 o0 4 0 : xS) (fun Xf41 => gLt (xwI Xf41 o0 5 0 : xS) (fun Xf45 => Xf45))))))) else (gLt (xA XGf2 o1 w2_3 : Int32) (fun x49 => gLt (xwA XGf2 v2_11 w2_3 (x49) : xS) (fun Xf50 => gLt (w2_3 + (1) : Int32) (fun x54 => FC_X8_start_L2 o0 o1 i1 N9_2 x54 Xf50))))))
def FC_X8_start (X : xS) (o0 : Nat) (o1 : Nat) (i1 : Int32) : xS := gLt (0 : Int32) (fun x1 => FC_X8_start_L2 o0 o1 i1 ((240 - x1).toInt.toNat + 1) x1 X)
set_option maxHeartbeats 200000 in
set_option maxRecDepth 100000 in
theorem c_X8_start (l : Launch) (D : va_G) (ks : kS) (τ : Nat → Nat) (L : List Nat) (A : Nat → Prop) (N : State → Prop) (hN : cNk A N)  (ψ : Int32) (f : Nat → va_E) (o0 : Nat) (o1 : Nat) (i1 : Int32) (t_o0 : ty τ L o0 7) (t_o1 : ty τ L o1 12) : Met l yX8_start (Cond.code yX8_start cX8_start 4 none :: tC) ({ frames := 0, cells := 0, slots := 0, locals := 0 }) (va_Pc [.ref o0, .ref o1, .int i1] (cB D ks τ L A N (ψ, f))) (va_Qv (fun x9 => (x9.1 = ψ) ∧ view x9.2 = FC_X8_start (view f) o0 o1 i1) (cB D ks τ L A N) A) 0 0 A := by
  refine cMet (own := RX8) (by decide) rfl (Nat.le_of_ble_eq_true rfl) ?_
  intro p e s m below meth c ls C9 hml hr hlk V I hNs hl
  have hx := C9.1
  have hb := C9.2.1
  have hown := C9.2.2.1
  have hts := C9.2.2.2.1
  have hS : va_S A s.heap s.heap [] := va_S.rf
  have hG := FC_X8_start.eq_1 (view f) o0 o1 i1
  have hl : lv_has ls 4 [(0, .ref o0), (1, .ref o1), (2, .int i1)] := hl
  refine lv_iconst (v := 0) hx hb dX8_start_0 (by decide) ?_
  refine lv_topi (fun x1 ex1 => ?_)
  replace hG := gLt_e hG ex1
  refine lv_istore_n (lv' := [(3, .int x1), (0, .ref o0), (1, .ref o1), (2, .int i1)]) hx hb dX8_start_1 rfl hl (by decide) rfl (fun ls hl => ?_)
  have loop2 : ∀ (N9_2 : Nat) (w2_3 : Int32)  (Gf2 : Nat → va_E) (H : Heap) (locs : List Loc) (ls : Array Slot), cI ks τ L ψ Gf2 → (0 ≤ w2_3 ∧ w2_3 ≤ 240) → ((240 - w2_3).toInt.toNat) < N9_2 → (FC_X8_start (view f) o0 o1 i1 = FC_X8_start_L2 o0 o1 i1 N9_2 w2_3 (view Gf2)) → cV D L Gf2 A H → va_S A s.heap H locs → lv_has ls 4 [(0, .ref o0), (1, .ref o1), (2, .int i1), (3, .int w2_3)] → W p l e ({ frames := 0, cells := 0, slots := 0, locals := 0 } : Room) s m ([.ref o0, .ref o1, .int i1] : List Value).toArray below meth c H locs 0 0 (MQ below (va_Qv (fun x9 => (x9.1 = ψ) ∧ view x9.2 = FC_X8_start (view f) o0 o1 i1) (cB D ks τ L A N) A) ([.ref o0, .ref o1, .int i1] : List Value).toArray s 0 0 A) (F0 m 2 ls []) := by
    intro N9_2
    induction N9_2 with
    | zero => intro w2_3  Gf2 H locs ls I hi2 hm2; exact absurd hm2 (Nat.not_lt_zero _)
    | succ N9_2 ih2 =>
      intro w2_3  Gf2 H locs ls I hi2 hm2 hG V hS hl
      rw [FC_X8_start_L2] at hG
      refine lv_iload_n hx hb dX8_start_2 rfl (lv_at hl 3 rfl) ?_
      refine lv_aload_n hx hb dX8_start_3 rfl (lv_at hl 0 rfl) ?_
      obtain ⟨v2_0, v2_1, v2_2, v2_3, v2_4, v2_5, v2_6, v2_7, v2_8, v2_9, v2_10, v2_11, v2_12, hf2, t2_7, t2_8, t2_11⟩ := op7 I t_o0
      refine cG C9 V t_o0.1 hf2 rfl tC_lay7 11 (by decide) tCf_X8_9 (Or.inl rfl) rfl dX8_start_4 ?_
      replace hG := gLt_e hG (view_gR hf2 rfl)
      obtain ⟨g3, hf3⟩ := op12 I t2_11
      refine cAl (t0 := 1) (v := 240) C9 V t2_11.1 hf3 rfl (by first | rfl | decide) dX8_start_7 ?_
      refine lv_icmp_ge (tgt := 32) hx hb dX8_start_8 (by decide) (fun c4 => ?_) (fun c4 => ?_)
      · replace hG := gIf_p hG c4
        refine lv_aload_n hx hb dX8_start_32 rfl (lv_at hl 0 rfl) ?_
        refine lv_iload_n hx hb dX8_start_33 rfl (lv_at hl 2 rfl) ?_
        refine cP (v := .int i1) (ty := .int) C9 V hS t_o0.1 hf2 rfl tC_lay7 tyX8 tyX8_ok nmX8 12 (by decide) tCf_X8_22 rfl rfl (by decide +kernel) rfl rfl (Nat.le_of_ble_eq_true rfl) dX8_start_34 (fun f5 H locs ef5 V hS => ?_)
        replace hG := gLt_e hG (view_I hf2 rfl ef5)
        have hf6 : f5 o0 = .inr (7, [.int v2_0, .int v2_1, .int v2_2, .int v2_3, .int v2_4, .int v2_5, .long v2_6, va_rf v2_7, va_rf v2_8, .int v2_9, .int v2_10, .ref v2_11, .int i1]) := up_s ef5
        have I := cI_up I t_o0.2 ef5 (mk7 t2_7 t2_8 t2_11)
        have hf7 := up_n ef5 t_o0.2 t2_11.2 (by first | decide | omega) hf3
        refine lv_aload_n hx hb dX8_start_37 rfl (lv_at hl 0 rfl) ?_
        refine lv_iconst (v := 1) hx hb dX8_start_38 (by decide) ?_
        refine cP (v := .int 1) (ty := .int) C9 V hS t_o0.1 hf6 rfl tC_lay7 tyX8 tyX8_ok nmX8 1 (by decide) tCf_X8_19 rfl rfl (by decide +kernel) rfl rfl (Nat.le_of_ble_eq_true rfl) dX8_start_39 (fun f8 H locs ef8 V hS => ?_)
        replace hG := gLt_e hG (view_I hf6 rfl ef8)
        have hf9 : f8 o0 = .inr (7, [.int v2_0, .int 1, .int v2_2, .int v2_3, .int v2_4, .int v2_5, .long v2_6, va_rf v2_7, va_rf v2_8, .int v2_9, .int v2_10, .ref v2_11, .int i1]) := up_s ef8
        have I := cI_up I t_o0.2 ef8 (mk7 t2_7 t2_8 t2_11)
        have hf10 := up_n ef8 t_o0.2 t2_11.2 (by first | decide | omega) hf7
        refine lv_aload_n hx hb dX8_start_42 rfl (lv_at hl 0 rfl) ?_
        refine lv_iconst (v := 0) hx hb dX8_start_43 (by decide) ?_
        refine cP (v := .int 0) (ty := .int) C9 V hS t_o0.1 hf9 rfl tC_lay7 tyX8 tyX8_ok nmX8 2 (by decide) tCf_X8_25 rfl rfl (by decide +kernel) rfl rfl (Nat.le_of_ble_eq_true rfl) dX8_start_44 (fun f11 H locs ef11 V hS => ?_)
        replace hG := gLt_e hG (view_I hf9 rfl ef11)
        have hf12 : f11 o0 = .inr (7, [.int v2_0, .int 1, .int 0, .int v2_3, .int v2_4, .int v2_5, .long v2_6, va_rf v2_7, va_rf v2_8, .int v2_9, .int v2_10, .ref v2_11, .int i1]) := up_s ef11
        have I := cI_up I t_o0.2 ef11 (mk7 t2_7 t2_8 t2_11)
        have hf13 := up_n ef11 t_o0.2 t2_11.2 (by first | decide | omega) hf10
        refine lv_aload_n hx hb dX8_start_47 rfl (lv_at hl 0 rfl) ?_
        refine lv_iconst (v := 0) hx hb dX8_start_48 (by decide) ?_
        refine cP (v := .int 0) (ty := .int) C9 V hS t_o0.1 hf12 rfl tC_lay7 tyX8 tyX8_ok nmX8 3 (by decide) tCf_X8_28 rfl rfl (by decide +kernel) rfl rfl (Nat.le_of_ble_eq_true rfl) dX8_start_49 (fun f14 H locs ef14 V hS => ?_)
        replace hG := gLt_e hG (view_I hf12 rfl ef14)
        have hf15 : f14 o0 = .inr (7, [.int v2_0, .int 1, .int 0, .int 0, .int v2_4, .int v2_5, .long v2_6, va_rf v2_7, va_rf v2_8, .int v2_9, .int v2_10, .ref v2_11, .int i1]) := up_s ef14
        have I := cI_up I t_o0.2 ef14 (mk7 t2_7 t2_8 t2_11)
        have hf16 := up_n ef14 t_o0.2 t2_11.2 (by first | decide | omega) hf13
        refine lv_aload_n hx hb dX8_start_52 rfl (lv_at hl 0 rfl) ?_
        refine lv_iconst (v := 0) hx hb dX8_start_53 (by decide) ?_
        refine cP (v := .int 0) (ty := .int) C9 V hS t_o0.1 hf15 rfl tC_lay7 tyX8 tyX8_ok nmX8 4 (by decide) tCf_X8_31 rfl rfl (by decide +kernel) rfl rfl (Nat.le_of_ble_eq_true rfl) dX8_start_54 (fun f17 H locs ef17 V hS => ?_)
        replace hG := gLt_e hG (view_I hf15 rfl ef17)
        have hf18 : f17 o0 = .inr (7, [.int v2_0, .int 1, .int 0, .int 0, .int 0, .int v2_5, .long v2_6, va_rf v2_7, va_rf v2_8, .int v2_9, .int v2_10, .ref v2_11, .int i1]) := up_s ef17
        have I := cI_up I t_o0.2 ef17 (mk7 t2_7 t2_8 t2_11)
        have hf19 := up_n ef17 t_o0.2 t2_11.2 (by first | decide | omega) hf16
        refine lv_aload_n hx hb dX8_start_57 rfl (lv_at hl 0 rfl) ?_
        refine lv_iconst (v := 0) hx hb dX8_start_58 (by decide) ?_
        refine cP (v := .int 0) (ty := .boolean) C9 V hS t_o0.1 hf18 rfl tC_lay7 tyX8 tyX8_ok nmX8 5 (by decide) tCf_X8_34 rfl rfl (by decide +kernel) rfl rfl (Nat.le_of_ble_eq_true rfl) dX8_start_59 (fun f20 H locs ef20 V hS => ?_)
        replace hG := gLt_e hG (view_I hf18 rfl ef20)
        have hf21 : f20 o0 = .inr (7, [.int v2_0, .int 1, .int 0, .int 0, .int 0, .int 0, .long v2_6, va_rf v2_7, va_rf v2_8, .int v2_9, .int v2_10, .ref v2_11, .int i1]) := up_s ef20
        have I := cI_up I t_o0.2 ef20 (mk7 t2_7 t2_8 t2_11)
        have hf22 := up_n ef20 t_o0.2 t2_11.2 (by first | decide | omega) hf19
        exact cRetV C9 hr hlk hN hNs V I hS (⟨rfl, hG.symm⟩) dX8_start_62
      · replace hG := gIf_n hG c4
        refine lv_iload_n hx hb dX8_start_11 rfl (lv_at hl 3 rfl) ?_
        refine lv_aload_n hx hb dX8_start_12 rfl (lv_at hl 1 rfl) ?_
        obtain ⟨g23, hf23⟩ := op12 I t_o1
        refine cAl (t0 := 1) (v := 240) C9 V t_o1.1 hf23 rfl (by first | rfl | decide) dX8_start_13 ?_
        refine lv_icmp_ge (tgt := 32) hx hb dX8_start_14 (by decide) (fun c24 => ?_) (fun c24 => ?_)
        · replace hG := gIf_p hG c24
          refine lv_aload_n hx hb dX8_start_32 rfl (lv_at hl 0 rfl) ?_
          refine lv_iload_n hx hb dX8_start_33 rfl (lv_at hl 2 rfl) ?_
          refine cP (v := .int i1) (ty := .int) C9 V hS t_o0.1 hf2 rfl tC_lay7 tyX8 tyX8_ok nmX8 12 (by decide) tCf_X8_22 rfl rfl (by decide +kernel) rfl rfl (Nat.le_of_ble_eq_true rfl) dX8_start_34 (fun f25 H locs ef25 V hS => ?_)
          replace hG := gLt_e hG (view_I hf2 rfl ef25)
          have hf26 : f25 o0 = .inr (7, [.int v2_0, .int v2_1, .int v2_2, .int v2_3, .int v2_4, .int v2_5, .long v2_6, va_rf v2_7, va_rf v2_8, .int v2_9, .int v2_10, .ref v2_11, .int i1]) := up_s ef25
          have I := cI_up I t_o0.2 ef25 (mk7 t2_7 t2_8 t2_11)
          have hf27 := up_n ef25 t_o0.2 t2_11.2 (by first | decide | omega) hf3
          have hf28 := up_n ef25 t_o0.2 t_o1.2 (by first | decide | omega) hf23
          refine lv_aload_n hx hb dX8_start_37 rfl (lv_at hl 0 rfl) ?_
          refine lv_iconst (v := 1) hx hb dX8_start_38 (by decide) ?_
          refine cP (v := .int 1) (ty := .int) C9 V hS t_o0.1 hf26 rfl tC_lay7 tyX8 tyX8_ok nmX8 1 (by decide) tCf_X8_19 rfl rfl (by decide +kernel) rfl rfl (Nat.le_of_ble_eq_true rfl) dX8_start_39 (fun f29 H locs ef29 V hS => ?_)
          replace hG := gLt_e hG (view_I hf26 rfl ef29)
          have hf30 : f29 o0 = .inr (7, [.int v2_0, .int 1, .int v2_2, .int v2_3, .int v2_4, .int v2_5, .long v2_6, va_rf v2_7, va_rf v2_8, .int v2_9, .int v2_10, .ref v2_11, .int i1]) := up_s ef29
          have I := cI_up I t_o0.2 ef29 (mk7 t2_7 t2_8 t2_11)
          have hf31 := up_n ef29 t_o0.2 t2_11.2 (by first | decide | omega) hf27
          have hf32 := up_n ef29 t_o0.2 t_o1.2 (by first | decide | omega) hf28
          refine lv_aload_n hx hb dX8_start_42 rfl (lv_at hl 0 rfl) ?_
          refine lv_iconst (v := 0) hx hb dX8_start_43 (by decide) ?_
          refine cP (v := .int 0) (ty := .int) C9 V hS t_o0.1 hf30 rfl tC_lay7 tyX8 tyX8_ok nmX8 2 (by decide) tCf_X8_25 rfl rfl (by decide +kernel) rfl rfl (Nat.le_of_ble_eq_true rfl) dX8_start_44 (fun f33 H locs ef33 V hS => ?_)
          replace hG := gLt_e hG (view_I hf30 rfl ef33)
          have hf34 : f33 o0 = .inr (7, [.int v2_0, .int 1, .int 0, .int v2_3, .int v2_4, .int v2_5, .long v2_6, va_rf v2_7, va_rf v2_8, .int v2_9, .int v2_10, .ref v2_11, .int i1]) := up_s ef33
          have I := cI_up I t_o0.2 ef33 (mk7 t2_7 t2_8 t2_11)
          have hf35 := up_n ef33 t_o0.2 t2_11.2 (by first | decide | omega) hf31
          have hf36 := up_n ef33 t_o0.2 t_o1.2 (by first | decide | omega) hf32
          refine lv_aload_n hx hb dX8_start_47 rfl (lv_at hl 0 rfl) ?_
          refine lv_iconst (v := 0) hx hb dX8_start_48 (by decide) ?_
          refine cP (v := .int 0) (ty := .int) C9 V hS t_o0.1 hf34 rfl tC_lay7 tyX8 tyX8_ok nmX8 3 (by decide) tCf_X8_28 rfl rfl (by decide +kernel) rfl rfl (Nat.le_of_ble_eq_true rfl) dX8_start_49 (fun f37 H locs ef37 V hS => ?_)
          replace hG := gLt_e hG (view_I hf34 rfl ef37)
          have hf38 : f37 o0 = .inr (7, [.int v2_0, .int 1, .int 0, .int 0, .int v2_4, .int v2_5, .long v2_6, va_rf v2_7, va_rf v2_8, .int v2_9, .int v2_10, .ref v2_11, .int i1]) := up_s ef37
          have I := cI_up I t_o0.2 ef37 (mk7 t2_7 t2_8 t2_11)
          have hf39 := up_n ef37 t_o0.2 t2_11.2 (by first | decide | omega) hf35
          have hf40 := up_n ef37 t_o0.2 t_o1.2 (by first | decide | omega) hf36
          refine lv_aload_n hx hb dX8_start_52 rfl (lv_at hl 0 rfl) ?_
          refine lv_iconst (v := 0) hx hb dX8_start_53 (by decide) ?_
          refine cP (v := .int 0) (ty := .int) C9 V hS t_o0.1 hf38 rfl tC_lay7 tyX8 tyX8_ok nmX8 4 (by decide) tCf_X8_31 rfl rfl (by decide +kernel) rfl rfl (Nat.le_of_ble_eq_true rfl) dX8_start_54 (fun f41 H locs ef41 V hS => ?_)
          replace hG := gLt_e hG (view_I hf38 rfl ef41)
          have hf42 : f41 o0 = .inr (7, [.int v2_0, .int 1, .int 0, .int 0, .int 0, .int v2_5, .long v2_6, va_rf v2_7, va_rf v2_8, .int v2_9, .int v2_10, .ref v2_11, .int i1]) := up_s ef41
          have I := cI_up I t_o0.2 ef41 (mk7 t2_7 t2_8 t2_11)
          have hf43 := up_n ef41 t_o0.2 t2_11.2 (by first | decide | omega) hf39
          have hf44 := up_n ef41 t_o0.2 t_o1.2 (by first | decide | omega) hf40
          refine lv_aload_n hx hb dX8_start_57 rfl (lv_at hl 0 rfl) ?_
          refine lv_iconst (v := 0) hx hb dX8_start_58 (by decide) ?_
          refine cP (v := .int 0) (ty := .boolean) C9 V hS t_o0.1 hf42 rfl tC_lay7 tyX8 tyX8_ok nmX8 5 (by decide) tCf_X8_34 rfl rfl (by decide +kernel) rfl rfl (Nat.le_of_ble_eq_true rfl) dX8_start_59 (fun f45 H locs ef45 V hS => ?_)
          replace hG := gLt_e hG (view_I hf42 rfl ef45)
          have hf46 : f45 o0 = .inr (7, [.int v2_0, .int 1, .int 0, .int 0, .int 0, .int 0, .long v2_6, va_rf v2_7, va_rf v2_8, .int v2_9, .int v2_10, .ref v2_11, .int i1]) := up_s ef45
          have I := cI_up I t_o0.2 ef45 (mk7 t2_7 t2_8 t2_11)
          have hf47 := up_n ef45 t_o0.2 t2_11.2 (by first | decide | omega) hf43
          have hf48 := up_n ef45 t_o0.2 t_o1.2 (by first | decide | omega) hf44
          exact cRetV C9 hr hlk hN hNs V I hS (⟨rfl, hG.symm⟩) dX8_start_62
        · replace hG := gIf_n hG c24
          refine lv_aload_n hx hb dX8_start_17 rfl (lv_at hl 0 rfl) ?_
          refine cG C9 V t_o0.1 hf2 rfl tC_lay7 11 (by decide) tCf_X8_9 (Or.inl rfl) rfl dX8_start_18 ?_
          refine lv_iload_n hx hb dX8_start_21 rfl (lv_at hl 3 rfl) ?_
          refine lv_aload_n hx hb dX8_start_22 rfl (lv_at hl 1 rfl) ?_
          refine lv_iload_n hx hb dX8_start_23 rfl (lv_at hl 3 rfl) ?_
          refine cLi C9 V t_o1.1 hf23 (cvin (N := 240) rfl (hi2.1) (ci_lt c4)) dX8_start_24 ?_
          refine lv_topi (fun x49 ex49 => ?_)
          replace hG := gLt_e hG (ex49.trans (view_gA hf23))
          refine cSi C9 V hS t2_11.1 hf3 (cvin (N := 240) rfl (hi2.1) (ci_lt c4)) dX8_start_25 (fun f50 H locs ef50 V hS => ?_)
          replace hG := gLt_e hG (view_A hf3 ef50)
          obtain ⟨g51, eg51⟩ : ∃ z, z = upd g3 (Int32.toNatClampNeg w2_3) (x49) := ⟨_, rfl⟩
          rw [← eg51] at ef50
          have hf52 := up_s ef50
          have I := cI_up I t2_11.2 ef50 (mk12)
          have hf53 := up_n ef50 t2_11.2 t_o0.2 (by first | decide | omega) hf2
          obtain ⟨x54, ex54⟩ : ∃ y : Int32, y = w2_3 + (1) := ⟨_, rfl⟩
          replace hG := gLt_e hG ex54
          refine lv_iinc (v := x54) (lv' := [(3, .int x54), (0, .ref o0), (1, .ref o1), (2, .int i1)]) hx hb dX8_start_26 hl (k := 3) rfl (by rw [ex54]; rfl) (by decide) rfl (fun ls hl => ?_)
          refine lv_goto (tgt := 2) hx hb dX8_start_29 (by decide) ?_
          exact ih2 x54  f50 _ _ _ I (ca_up ex54 hi2.1 (ci_lt c4)) (cmsd hm2 (ca_dec ex54 hi2.1 (ci_lt c4)).1 (ca_dec ex54 hi2.1 (ci_lt c4)).2) hG V hS (lv_sub hl [1, 2, 3, 0] rfl)
  exact loop2 ((240 - x1).toInt.toNat + 1) x1  f _ _ _ I (by clear hG V hS hl C9 hts hown hx hb hml hr hlk; subst_vars; decide) (Nat.lt_succ_self _) hG V hS (lv_sub hl [1, 2, 3, 0] rfl)

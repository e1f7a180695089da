def FC_X8_standIn (X : xS) (o0 : Nat) (o1 : Nat) (o2 : Nat) : xS := gLt (FC_X6_add X o1 o0 : xS) (fun Xf2 => gLt (xwR Xf2 o0 8 (some o1) : xS) (fun Xf6 => gLt (xwR Xf6 o0 7 (some o2) : xS) (fun Xf8 => gLt (xwI Xf8 o0 1 2 : xS) (fun Xf10 => Xf10))))
set_option maxHeartbeats 200000 in
set_option maxRecDepth 100000 in
theorem c_X8_standIn (l : Launch) (D : va_G) (ks : kS) (τ : Nat → Nat) (L : List Nat) (A : Nat → Prop) (N : State → Prop) (hN : cNk A N)  (ψ : Int32) (f : Nat → va_E) (o0 : Nat) (o1 : Nat) (o2 : Nat) (t_o0 : ty τ L o0 7) (t_o1 : ty τ L o1 5) (t_o2 : tyS τ L o2) : Met l yX8_standIn (Cond.code yX8_standIn cX8_standIn 3 none :: tC) ({ frames := 1, cells := 0, slots := 0, locals := 21 }) (va_Pc [.ref o0, .ref o1, .ref o2] (cB D ks τ L A N (ψ, f))) (va_Qv (fun x9 => (x9.1 = ψ) ∧ view x9.2 = FC_X8_standIn (view f) o0 o1 o2) (cB D ks τ L A N) A) 0 0 A := by
  refine cMet (own := RX8) (by decide) rfl (Nat.le_of_ble_eq_true rfl) ?_
  intro p e s m below meth c ls C9 hml hr hlk V I hNs hl
  have hx := C9.1
  have hb := C9.2.1
  have hown := C9.2.2.1
  have hts := C9.2.2.2.1
  have hS : va_S A s.heap s.heap [] := va_S.rf
  have hG := FC_X8_standIn.eq_1 (view f) o0 o1 o2
  have hl : lv_has ls 3 [(0, .ref o0), (1, .ref o1), (2, .ref o2)] := hl
  refine lv_aload_n hx hb dX8_standIn_0 rfl (lv_at hl 1 rfl) ?_
  refine lv_aload_n hx hb dX8_standIn_1 rfl (lv_at hl 0 rfl) ?_
  obtain ⟨v1_0, v1_1, hf1, hn1, t1_1⟩ := op5 I t_o1
  refine cGoV (cRunV (As := [.ref o0]) (rest := []) C9 hml hN hNs V I hS t_o1.1 hf1 rfl (c_X6_add l D ks τ L A N hN  ψ f o1 o0 t_o1 t_o0 ) gC_X8_73 okC_X6_add ⟨rfl, rfl, Nat.le_of_ble_eq_true rfl, Nat.le_of_ble_eq_true rfl⟩ hl.1 rfl (Nat.le_of_ble_eq_true rfl) dX8_standIn_2 ⟨Nat.zero_le _, Nat.zero_le _⟩) hS (fun p3 f2 H locs hqf2 V I hS => ?_)
  obtain ⟨hqf2, ghqf2⟩ := hqf2
  replace hG := gLt_e hG (ghqf2)
  have I : cI ks τ L ψ f2 := by rw [show p3 = ψ from hqf2] at I; exact I
  refine lv_aload_n hx hb dX8_standIn_5 rfl (lv_at hl 0 rfl) ?_
  refine lv_aload_n hx hb dX8_standIn_6 rfl (lv_at hl 1 rfl) ?_
  obtain ⟨v5_0, v5_1, v5_2, v5_3, v5_4, v5_5, v5_6, v5_7, v5_8, v5_9, v5_10, v5_11, v5_12, hf5, t5_7, t5_8, t5_11⟩ := op7 I t_o0
  refine cP (v := va_rf (some o1)) (ty := .object "TurnKeeper$Row") C9 V hS t_o0.1 hf5 rfl tC_lay7 tyX8 tyX8_ok nmX8 8 (by decide) tCf_X8_52 rfl rfl (by decide +kernel) rfl rfl (Nat.le_of_ble_eq_true rfl) dX8_standIn_7 (fun f6 H locs ef6 V hS => ?_)
  replace hG := gLt_e hG (view_R hf5 rfl ef6)
  have hf7 : f6 o0 = .inr (7, [.int v5_0, .int v5_1, .int v5_2, .int v5_3, .int v5_4, .int v5_5, .long v5_6, va_rf v5_7, va_rf (some o1), .int v5_9, .int v5_10, .ref v5_11, .int v5_12]) := up_s ef6
  have I := cI_up I t_o0.2 ef6 (mk7 t5_7 (tyO_s t_o1) t5_11)
  refine lv_aload_n hx hb dX8_standIn_10 rfl (lv_at hl 0 rfl) ?_
  refine lv_aload_n hx hb dX8_standIn_11 rfl (lv_at hl 2 rfl) ?_
  refine cP (v := va_rf (some o2)) (ty := .object "TurnKeeper$Sync") C9 V hS t_o0.1 hf7 rfl tC_lay7 tyX8 tyX8_ok nmX8 7 (by decide) tCf_X8_62 rfl rfl (by decide +kernel) rfl rfl (Nat.le_of_ble_eq_true rfl) dX8_standIn_12 (fun f8 H locs ef8 V hS => ?_)
  replace hG := gLt_e hG (view_R hf7 rfl ef8)
  have hf9 : f8 o0 = .inr (7, [.int v5_0, .int v5_1, .int v5_2, .int v5_3, .int v5_4, .int v5_5, .long v5_6, va_rf (some o2), va_rf (some o1), .int v5_9, .int v5_10, .ref v5_11, .int v5_12]) := up_s ef8
  have I := cI_up I t_o0.2 ef8 (mk7 (tySO_s t_o2) (tyO_s t_o1) t5_11)
  refine lv_aload_n hx hb dX8_standIn_15 rfl (lv_at hl 0 rfl) ?_
  refine lv_iconst (v := 2) hx hb dX8_standIn_16 (by decide) ?_
  refine cP (v := .int 2) (ty := .int) C9 V hS t_o0.1 hf9 rfl tC_lay7 tyX8 tyX8_ok nmX8 1 (by decide) tCf_X8_19 rfl rfl (by decide +kernel) rfl rfl (Nat.le_of_ble_eq_true rfl) dX8_standIn_17 (fun f10 H locs ef10 V hS => ?_)
  replace hG := gLt_e hG (view_I hf9 rfl ef10)
  have hf11 : f10 o0 = .inr (7, [.int v5_0, .int 2, .int v5_2, .int v5_3, .int v5_4, .int v5_5, .long v5_6, va_rf (some o2), va_rf (some o1), .int v5_9, .int v5_10, .ref v5_11, .int v5_12]) := up_s ef10
  have I := cI_up I t_o0.2 ef10 (mk7 (tySO_s t_o2) (tyO_s t_o1) t5_11)
  exact cRetV C9 hr hlk hN hNs V I hS (⟨rfl, hG.symm⟩) dX8_standIn_20

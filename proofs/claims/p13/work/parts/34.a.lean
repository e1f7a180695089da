def FC_X4_isGrabbed (X : xS) (o0 : Nat) (o1 : Nat) : Int32 × xS := gLt (xI X o0 3 : Int32) (fun v1_3 => if (v1_3 : Int32) = (-1) then (gLt (xI X o1 0 : Int32) (fun v3_0 => gLt (xwI X o0 3 v3_0 : xS) (fun Xf4 => gLt (xI Xf4 o0 5 : Int32) (fun v1_5 => gLt ((v1_5 + 1) : Int32) (fun x7 => gLt (xwI Xf4 o0 5 x7 : xS) (fun Xf8 => ((1 : Int32), Xf8))))))) else (gLt (xI X o1 0 : Int32) (fun v11_0 => if (v1_3 : Int32) = v11_0 then (gLt (xwI X o0 3 v11_0 : xS) (fun Xf13 => gLt (xI Xf13 o0 5 : Int32) (fun v1_5 => gLt ((v1_5 + 1) : Int32) (fun x16 => gLt (xwI Xf13 o0 5 x16 : xS) (fun Xf17 => ((1 : Int32), Xf17)))))) else (((0 : Int32), X)))))
set_option maxHeartbeats 200000 in
set_option maxRecDepth 100000 in
theorem c_X4_isGrabbed (l : Launch) (D : va_G) (ks : kS) (τ : Nat → Nat) (L : List Nat) (A : Nat → Prop) (N : State → Prop) (hN : cNk A N)  (ψ : Int32) (f : Nat → va_E) (o0 : Nat) (o1 : Nat) (t_o0 : ty τ L o0 3) (t_o1 : ty τ L o1 7) : Met l yX4_isGrabbed (Cond.code yX4_isGrabbed cX4_isGrabbed 2 (some .boolean) :: tC) ({ frames := 0, cells := 0, slots := 0, locals := 0 }) (va_Pc [.ref o0, .ref o1] (cB D ks τ L A N (ψ, f))) (va_Qi (fun r9 x9 => (x9.1 = ψ) ∧ (r9, view x9.2) = FC_X4_isGrabbed (view f) o0 o1) (cB D ks τ L A N) A) 0 0 A := by
  refine cMet (own := RX4) (by decide) rfl (Nat.le_of_ble_eq_true rfl) ?_
  intro p e s m below meth c ls C9 hml hr hlk V I hNs hl
  have hx := C9.1
  have hb := C9.2.1
  have hown := C9.2.2.1
  have hts := C9.2.2.2.1
  have hS : va_S A s.heap s.heap [] := va_S.rf
  have hG := FC_X4_isGrabbed.eq_1 (view f) o0 o1
  have hl : lv_has ls 2 [(0, .ref o0), (1, .ref o1)] := hl
  refine lv_aload_n hx hb dX4_isGrabbed_0 rfl (lv_at hl 0 rfl) ?_
  obtain ⟨v1_0, v1_1, v1_2, v1_3, v1_4, v1_5, v1_6, hf1, t1_2, t1_6⟩ := op3 I t_o0
  refine cG C9 V t_o0.1 hf1 rfl tC_lay3 3 (by decide) tCf_X4_9 (Or.inl rfl) rfl dX4_isGrabbed_1 ?_
  replace hG := gLt_e hG (view_gI hf1 rfl)
  refine lv_iconst (v := (-1)) hx hb dX4_isGrabbed_4 (by decide) ?_
  refine lv_icmp_eq (tgt := 21) hx hb dX4_isGrabbed_5 (by decide) (fun c2 => ?_) (fun c2 => ?_)
  · replace hG := gIf_p hG c2
    refine lv_aload_n hx hb dX4_isGrabbed_21 rfl (lv_at hl 0 rfl) ?_
    refine lv_aload_n hx hb dX4_isGrabbed_22 rfl (lv_at hl 1 rfl) ?_
    obtain ⟨v3_0, v3_1, v3_2, v3_3, v3_4, v3_5, v3_6, v3_7, v3_8, v3_9, v3_10, v3_11, v3_12, hf3, t3_7, t3_8, t3_11⟩ := op7 I t_o1
    refine cG C9 V t_o1.1 hf3 rfl tC_lay7 0 (by decide) tCf_X4_51 (Or.inl rfl) rfl dX4_isGrabbed_23 ?_
    replace hG := gLt_e hG (view_gI hf3 rfl)
    refine cP (v := .int v3_0) (ty := .int) C9 V hS t_o0.1 hf1 rfl tC_lay3 tyX4 tyX4_ok nmX4 3 (by decide) tCf_X4_9 rfl rfl (by decide +kernel) rfl rfl (Nat.le_of_ble_eq_true rfl) dX4_isGrabbed_26 (fun f4 H locs ef4 V hS => ?_)
    replace hG := gLt_e hG (view_I hf1 rfl ef4)
    have hf5 : f4 o0 = .inr (3, [.int v1_0, .int v1_1, .ref v1_2, .int v3_0, .int v1_4, .int v1_5, .ref v1_6]) := up_s ef4
    have I := cI_up I t_o0.2 ef4 (mk3 t1_2 t1_6)
    have hf6 := up_n ef4 t_o0.2 t_o1.2 (by first | decide | omega) hf3
    refine lv_aload_n hx hb dX4_isGrabbed_29 rfl (lv_at hl 0 rfl) ?_
    refine lv_dup hx hb dX4_isGrabbed_30 rfl ?_
    refine cG C9 V t_o0.1 hf5 rfl tC_lay3 5 (by decide) tCf_X4_63 (Or.inl rfl) rfl dX4_isGrabbed_31 ?_
    replace hG := gLt_e hG (view_gI hf5 rfl)
    refine lv_iconst (v := 1) hx hb dX4_isGrabbed_34 (by decide) ?_
    refine lv_iadd hx hb dX4_isGrabbed_35 ?_
    refine lv_topi (fun x7 ex7 => ?_)
    replace hG := gLt_e hG ex7
    refine cP (v := .int x7) (ty := .int) C9 V hS t_o0.1 hf5 rfl tC_lay3 tyX4 tyX4_ok nmX4 5 (by decide) tCf_X4_63 rfl rfl (by decide +kernel) rfl rfl (Nat.le_of_ble_eq_true rfl) dX4_isGrabbed_36 (fun f8 H locs ef8 V hS => ?_)
    replace hG := gLt_e hG (view_I hf5 rfl ef8)
    have hf9 : f8 o0 = .inr (3, [.int v1_0, .int v1_1, .ref v1_2, .int v3_0, .int v1_4, .int x7, .ref v1_6]) := up_s ef8
    have I := cI_up I t_o0.2 ef8 (mk3 t1_2 t1_6)
    have hf10 := up_n ef8 t_o0.2 t_o1.2 (by first | decide | omega) hf6
    refine lv_iconst (v := 1) hx hb dX4_isGrabbed_39 (by decide) ?_
    exact cRetZ C9 hr hlk hN hNs V I hS (by clear hG V hS hl C9 hts hown hx hb hml hr hlk; first | rfl | decide | (subst_vars; rfl)) (⟨rfl, hG.symm⟩) dX4_isGrabbed_40
  · replace hG := gIf_n hG c2
    refine lv_aload_n hx hb dX4_isGrabbed_8 rfl (lv_at hl 0 rfl) ?_
    refine cG C9 V t_o0.1 hf1 rfl tC_lay3 3 (by decide) tCf_X4_9 (Or.inl rfl) rfl dX4_isGrabbed_9 ?_
    refine lv_aload_n hx hb dX4_isGrabbed_12 rfl (lv_at hl 1 rfl) ?_
    obtain ⟨v11_0, v11_1, v11_2, v11_3, v11_4, v11_5, v11_6, v11_7, v11_8, v11_9, v11_10, v11_11, v11_12, hf11, t11_7, t11_8, t11_11⟩ := op7 I t_o1
    refine cG C9 V t_o1.1 hf11 rfl tC_lay7 0 (by decide) tCf_X4_51 (Or.inl rfl) rfl dX4_isGrabbed_13 ?_
    replace hG := gLt_e hG (view_gI hf11 rfl)
    refine lv_icmp_eq (tgt := 21) hx hb dX4_isGrabbed_16 (by decide) (fun c12 => ?_) (fun c12 => ?_)
    · replace hG := gIf_p hG c12
      refine lv_aload_n hx hb dX4_isGrabbed_21 rfl (lv_at hl 0 rfl) ?_
      refine lv_aload_n hx hb dX4_isGrabbed_22 rfl (lv_at hl 1 rfl) ?_
      refine cG C9 V t_o1.1 hf11 rfl tC_lay7 0 (by decide) tCf_X4_51 (Or.inl rfl) rfl dX4_isGrabbed_23 ?_
      refine cP (v := .int v11_0) (ty := .int) C9 V hS t_o0.1 hf1 rfl tC_lay3 tyX4 tyX4_ok nmX4 3 (by decide) tCf_X4_9 rfl rfl (by decide +kernel) rfl rfl (Nat.le_of_ble_eq_true rfl) dX4_isGrabbed_26 (fun f13 H locs ef13 V hS => ?_)
      replace hG := gLt_e hG (view_I hf1 rfl ef13)
      have hf14 : f13 o0 = .inr (3, [.int v1_0, .int v1_1, .ref v1_2, .int v11_0, .int v1_4, .int v1_5, .ref v1_6]) := up_s ef13
      have I := cI_up I t_o0.2 ef13 (mk3 t1_2 t1_6)
      have hf15 := up_n ef13 t_o0.2 t_o1.2 (by first | decide | omega) hf11
      refine lv_aload_n hx hb dX4_isGrabbed_29 rfl (lv_at hl 0 rfl) ?_
      refine lv_dup hx hb dX4_isGrabbed_30 rfl ?_
      refine cG C9 V t_o0.1 hf14 rfl tC_lay3 5 (by decide) tCf_X4_63 (Or.inl rfl) rfl dX4_isGrabbed_31 ?_
      replace hG := gLt_e hG (view_gI hf14 rfl)
      refine lv_iconst (v := 1) hx hb dX4_isGrabbed_34 (by decide) ?_
      refine lv_iadd hx hb dX4_isGrabbed_35 ?_
      refine lv_topi (fun x16 ex16 => ?_)
      replace hG := gLt_e hG ex16
      refine cP (v := .int x16) (ty := .int) C9 V hS t_o0.1 hf14 rfl tC_lay3 tyX4 tyX4_ok nmX4 5 (by decide) tCf_X4_63 rfl rfl (by decide +kernel) rfl rfl (Nat.le_of_ble_eq_true rfl) dX4_isGrabbed_36 (fun f17 H locs ef17 V hS => ?_)
      replace hG := gLt_e hG (view_I hf14 rfl ef17)
      have hf18 : f17 o0 = .inr (3, [.int v1_0, .int v1_1, .ref v1_2, .int v11_0, .int v1_4, .int x16, .ref v1_6]) := up_s ef17
      have I := cI_up I t_o0.2 ef17 (mk3 t1_2 t1_6)
      have hf19 := up_n ef17 t_o0.2 t_o1.2 (by first | decide | omega) hf15
      refine lv_iconst (v := 1) hx hb dX4_isGrabbed_39 (by decide) ?_
      exact cRetZ C9 hr hlk hN hNs V I hS (by clear hG V hS hl C9 hts hown hx hb hml hr hlk; first | rfl | decide | (subst_vars; rfl)) (⟨rfl, hG.symm⟩) dX4_isGrabbed_40
    · replace hG := gIf_n hG c12
      refine lv_iconst (v := 0) hx hb dX4_isGrabbed_19 (by decide) ?_
      exact cRetZ C9 hr hlk hN hNs V I hS (by clear hG V hS hl C9 hts hown hx hb hml hr hlk; first | rfl | decide | (subst_vars; rfl)) (⟨rfl, hG.symm⟩) dX4_isGrabbed_20
def FC_X4_have (X : xS) (o0 : Nat) (o1 : Nat) : xS := gLt (xI X o1 0 : Int32) (fun v1_0 => gLt (xwI X o0 3 v1_0 : xS) (fun Xf3 => gLt (xwI Xf3 o0 5 1 : xS) (fun Xf6 => gLt (xI Xf6 o1 9 : Int32) (fun v1_9 => if (v1_9 : Int32) ≤ 0 then (gLt (FC_X8_goOn Xf6 o1 : xS) (fun Xf10 => Xf10)) else (gLt (xwI Xf6 o0 5 v1_9 : xS) (fun Xf13 => gLt (xI Xf13 o1 10 : Int32) (fun v1_10 => gLt (xwI Xf13 o1 2 v1_10 : xS) (fun Xf16 => gLt (xwI Xf16 o1 9 0 : xS) (fun Xf19 => gLt (FC_X8_goOn Xf19 o1 : xS) (fun Xf22 => Xf22))))))))))
set_option maxHeartbeats 200000 in
set_option maxRecDepth 100000 in
theorem c_X4_have (l : Launch) (D : va_G) (ks : kS) (τ : Nat → Nat) (L : List Nat) (A : Nat → Prop) (N : State → Prop) (hN : cNk A N)  (ψ : Int32) (f : Nat → va_E) (o0 : Nat) (o1 : Nat) (t_o0 : ty τ L o0 3) (t_o1 : ty τ L o1 7) : Met l yX4_have (Cond.code yX4_have cX4_have 2 none :: tC) ({ frames := 2, cells := 0, slots := 0, locals := 43 }) (va_Pc [.ref o0, .ref o1] (cB D ks τ L A N (ψ, f))) (va_Qv (fun x9 => (x9.1 = ψ) ∧ view x9.2 = FC_X4_have (view f) o0 o1) (cB D ks τ L A N) A) 0 0 A := by
  refine cMet (own := RX4) (by decide) rfl (Nat.le_of_ble_eq_true rfl) ?_
  intro p e s m below meth c ls C9 hml hr hlk V I hNs hl
  have hx := C9.1
  have hb := C9.2.1
  have hown := C9.2.2.1
  have hts := C9.2.2.2.1
  have hS : va_S A s.heap s.heap [] := va_S.rf
  have hG := FC_X4_have.eq_1 (view f) o0 o1
  have hl : lv_has ls 2 [(0, .ref o0), (1, .ref o1)] := hl
  refine lv_aload_n hx hb dX4_have_0 rfl (lv_at hl 0 rfl) ?_
  refine lv_aload_n hx hb dX4_have_1 rfl (lv_at hl 1 rfl) ?_
  obtain ⟨v1_0, v1_1, v1_2, v1_3, v1_4, v1_5, v1_6, v1_7, v1_8, v1_9, v1_10, v1_11, v1_12, hf1, t1_7, t1_8, t1_11⟩ := op7 I t_o1
  refine cG C9 V t_o1.1 hf1 rfl tC_lay7 0 (by decide) tCf_X4_51 (Or.inl rfl) rfl dX4_have_2 ?_
  replace hG := gLt_e hG (view_gI hf1 rfl)
  obtain ⟨v2_0, v2_1, v2_2, v2_3, v2_4, v2_5, v2_6, hf2, t2_2, t2_6⟩ := op3 I t_o0
  refine cP (v := .int v1_0) (ty := .int) C9 V hS t_o0.1 hf2 rfl tC_lay3 tyX4 tyX4_ok nmX4 3 (by decide) tCf_X4_9 rfl rfl (by decide +kernel) rfl rfl (Nat.le_of_ble_eq_true rfl) dX4_have_5 (fun f3 H locs ef3 V hS => ?_)
  replace hG := gLt_e hG (view_I hf2 rfl ef3)
  have hf4 : f3 o0 = .inr (3, [.int v2_0, .int v2_1, .ref v2_2, .int v1_0, .int v2_4, .int v2_5, .ref v2_6]) := up_s ef3
  have I := cI_up I t_o0.2 ef3 (mk3 t2_2 t2_6)
  have hf5 := up_n ef3 t_o0.2 t_o1.2 (by first | decide | omega) hf1
  refine lv_aload_n hx hb dX4_have_8 rfl (lv_at hl 0 rfl) ?_
  refine lv_iconst (v := 1) hx hb dX4_have_9 (by decide) ?_
  refine cP (v := .int 1) (ty := .int) C9 V hS t_o0.1 hf4 rfl tC_lay3 tyX4 tyX4_ok nmX4 5 (by decide) tCf_X4_63 rfl rfl (by decide +kernel) rfl rfl (Nat.le_of_ble_eq_true rfl) dX4_have_10 (fun f6 H locs ef6 V hS => ?_)
  replace hG := gLt_e hG (view_I hf4 rfl ef6)
  have hf7 : f6 o0 = .inr (3, [.int v2_0, .int v2_1, .ref v2_2, .int v1_0, .int v2_4, .int 1, .ref v2_6]) := up_s ef6
  have I := cI_up I t_o0.2 ef6 (mk3 t2_2 t2_6)
  have hf8 := up_n ef6 t_o0.2 t_o1.2 (by first | decide | omega) hf5
  refine lv_aload_n hx hb dX4_have_13 rfl (lv_at hl 1 rfl) ?_
  refine cG C9 V t_o1.1 hf8 rfl tC_lay7 9 (by decide) tCf_X4_85 (Or.inl rfl) rfl dX4_have_14 ?_
  replace hG := gLt_e hG (view_gI hf8 rfl)
  refine lv_if_le (tgt := 41) hx hb dX4_have_17 (by decide) (fun c9 => ?_) (fun c9 => ?_)
  · replace hG := gIf_p hG c9
    refine lv_aload_n hx hb dX4_have_41 rfl (lv_at hl 1 rfl) ?_
    refine cGoV (cRunV (As := []) (rest := []) C9 hml hN hNs V I hS t_o1.1 hf8 rfl (c_X8_goOn l D ks τ L A N hN  ψ f6 o1 t_o1 ) gC_X4_60 okC_X8_goOn ⟨rfl, rfl, Nat.le_of_ble_eq_true rfl, Nat.le_of_ble_eq_true rfl⟩ hl.1 rfl (Nat.le_of_ble_eq_true rfl) dX4_have_42 ⟨Nat.zero_le _, Nat.zero_le _⟩) hS (fun p11 f10 H locs hqf10 V I hS => ?_)
    obtain ⟨hqf10, ghqf10⟩ := hqf10
    replace hG := gLt_e hG (ghqf10)
    have I : cI ks τ L ψ f10 := by rw [show p11 = ψ from hqf10] at I; exact I
    exact cRetV C9 hr hlk hN hNs V I hS (⟨rfl, hG.symm⟩) dX4_have_45
  · replace hG := gIf_n hG c9
    refine lv_aload_n hx hb dX4_have_20 rfl (lv_at hl 0 rfl) ?_
    refine lv_aload_n hx hb dX4_have_21 rfl (lv_at hl 1 rfl) ?_
    refine cG C9 V t_o1.1 hf8 rfl tC_lay7 9 (by decide) tCf_X4_85 (Or.inl rfl) rfl dX4_have_22 ?_
    refine cP (v := .int v1_9) (ty := .int) C9 V hS t_o0.1 hf7 rfl tC_lay3 tyX4 tyX4_ok nmX4 5 (by decide) tCf_X4_63 rfl rfl (by decide +kernel) rfl rfl (Nat.le_of_ble_eq_true rfl) dX4_have_25 (fun f13 H locs ef13 V hS => ?_)
    replace hG := gLt_e hG (view_I hf7 rfl ef13)
    have hf14 : f13 o0 = .inr (3, [.int v2_0, .int v2_1, .ref v2_2, .int v1_0, .int v2_4, .int v1_9, .ref v2_6]) := up_s ef13
    have I := cI_up I t_o0.2 ef13 (mk3 t2_2 t2_6)
    have hf15 := up_n ef13 t_o0.2 t_o1.2 (by first | decide | omega) hf8
    refine lv_aload_n hx hb dX4_have_28 rfl (lv_at hl 1 rfl) ?_
    refine lv_aload_n hx hb dX4_have_29 rfl (lv_at hl 1 rfl) ?_
    refine cG C9 V t_o1.1 hf15 rfl tC_lay7 10 (by decide) tCf_X4_105 (Or.inl rfl) rfl dX4_have_30 ?_
    replace hG := gLt_e hG (view_gI hf15 rfl)
    refine cP (v := .int v1_10) (ty := .int) C9 V hS t_o1.1 hf15 rfl tC_lay7 tyX8 tyX8_ok nmX8 2 (by decide) tCf_X4_108 rfl rfl (by decide +kernel) rfl rfl (Nat.le_of_ble_eq_true rfl) dX4_have_33 (fun f16 H locs ef16 V hS => ?_)
    replace hG := gLt_e hG (view_I hf15 rfl ef16)
    have hf17 : f16 o1 = .inr (7, [.int v1_0, .int v1_1, .int v1_10, .int v1_3, .int v1_4, .int v1_5, .long v1_6, va_rf v1_7, va_rf v1_8, .int v1_9, .int v1_10, .ref v1_11, .int v1_12]) := up_s ef16
    have I := cI_up I t_o1.2 ef16 (mk7 t1_7 t1_8 t1_11)
    have hf18 := up_n ef16 t_o1.2 t_o0.2 (by first | decide | omega) hf14
    refine lv_aload_n hx hb dX4_have_36 rfl (lv_at hl 1 rfl) ?_
    refine lv_iconst (v := 0) hx hb dX4_have_37 (by decide) ?_
    refine cP (v := .int 0) (ty := .int) C9 V hS t_o1.1 hf17 rfl tC_lay7 tyX8 tyX8_ok nmX8 9 (by decide) tCf_X4_85 rfl rfl (by decide +kernel) rfl rfl (Nat.le_of_ble_eq_true rfl) dX4_have_38 (fun f19 H locs ef19 V hS => ?_)
    replace hG := gLt_e hG (view_I hf17 rfl ef19)
    have hf20 : f19 o1 = .inr (7, [.int v1_0, .int v1_1, .int v1_10, .int v1_3, .int v1_4, .int v1_5, .long v1_6, va_rf v1_7, va_rf v1_8, .int 0, .int v1_10, .ref v1_11, .int v1_12]) := up_s ef19
    have I := cI_up I t_o1.2 ef19 (mk7 t1_7 t1_8 t1_11)
    have hf21 := up_n ef19 t_o1.2 t_o0.2 (by first | decide | omega) hf18
    refine lv_aload_n hx hb dX4_have_41 rfl (lv_at hl 1 rfl) ?_
    refine cGoV (cRunV (As := []) (rest := []) C9 hml hN hNs V I hS t_o1.1 hf20 rfl (c_X8_goOn l D ks τ L A N hN  ψ f19 o1 t_o1 ) gC_X4_60 okC_X8_goOn ⟨rfl, rfl, Nat.le_of_ble_eq_true rfl, Nat.le_of_ble_eq_true rfl⟩ hl.1 rfl (Nat.le_of_ble_eq_true rfl) dX4_have_42 ⟨Nat.zero_le _, Nat.zero_le _⟩) hS (fun p23 f22 H locs hqf22 V I hS => ?_)
    obtain ⟨hqf22, ghqf22⟩ := hqf22
    replace hG := gLt_e hG (ghqf22)
    have I : cI ks τ L ψ f22 := by rw [show p23 = ψ from hqf22] at I; exact I
    exact cRetV C9 hr hlk hN hNs V I hS (⟨rfl, hG.symm⟩) dX4_have_45
def FC_X4_free (X : xS) (o0 : Nat) : xS := gLt ((-1) : Int32) (fun x2 => gLt (xwI X o0 3 x2 : xS) (fun Xf3 => gLt (xwI Xf3 o0 5 0 : xS) (fun Xf5 => gLt ((xR Xf5 o0 2).getD 0 : Nat) (fun v1_2 => gC (FC_X6_first Xf5 v1_2) (fun r10 Xf8 => gO (r10) (Xf8) (fun y11 => gLt (xI Xf8 o0 4 : Int32) (fun v12_4 => if (v12_4 : Int32) = 0 then (gLt (xwI Xf8 y11 1 1 : xS) (fun Xf15 => Xf15)) else (gLt (FC_X4_have Xf8 o0 y11 : xS) (fun Xf18 => Xf18)))))))))
set_option maxHeartbeats 200000 in
set_option maxRecDepth 100000 in
theorem c_X4_free (l : Launch) (D : va_G) (ks : kS) (τ : Nat → Nat) (L : List Nat) (A : Nat → Prop) (N : State → Prop) (hN : cNk A N)  (ψ : Int32) (f : Nat → va_E) (o0 : Nat) (t_o0 : ty τ L o0 3) : Met l yX4_free (Cond.code yX4_free cX4_free 2 none :: tC) ({ frames := 3, cells := 0, slots := 0, locals := 64 }) (va_Pc [.ref o0] (cB D ks τ L A N (ψ, f))) (va_Qv (fun x9 => (x9.1 = ψ) ∧ view x9.2 = FC_X4_free (view f) o0) (cB D ks τ L A N) A) 0 0 A := by
  refine cMet (own := RX4) (by decide) rfl (Nat.le_of_ble_eq_true rfl) ?_
  intro p e s m below meth c ls C9 hml hr hlk V I hNs hl
  have hx := C9.1
  have hb := C9.2.1
  have hown := C9.2.2.1
  have hts := C9.2.2.2.1
  have hS : va_S A s.heap s.heap [] := va_S.rf
  have hG := FC_X4_free.eq_1 (view f) o0
  have hl : lv_has ls 2 [(0, .ref o0)] := hl
  refine lv_aload_n hx hb dX4_free_0 rfl (lv_at hl 0 rfl) ?_
  refine lv_iconst (v := (-1)) hx hb dX4_free_1 (by decide) ?_
  obtain ⟨v1_0, v1_1, v1_2, v1_3, v1_4, v1_5, v1_6, hf1, t1_2, t1_6⟩ := op3 I t_o0
  refine lv_topi (fun x2 ex2 => ?_)
  replace hG := gLt_e hG ex2
  refine cP (v := .int x2) (ty := .int) C9 V hS t_o0.1 hf1 rfl tC_lay3 tyX4 tyX4_ok nmX4 3 (by decide) tCf_X4_9 rfl rfl (by decide +kernel) rfl rfl (Nat.le_of_ble_eq_true rfl) dX4_free_2 (fun f3 H locs ef3 V hS => ?_)
  replace hG := gLt_e hG (view_I hf1 rfl ef3)
  have hf4 : f3 o0 = .inr (3, [.int v1_0, .int v1_1, .ref v1_2, .int x2, .int v1_4, .int v1_5, .ref v1_6]) := up_s ef3
  have I := cI_up I t_o0.2 ef3 (mk3 t1_2 t1_6)
  refine lv_aload_n hx hb dX4_free_5 rfl (lv_at hl 0 rfl) ?_
  refine lv_iconst (v := 0) hx hb dX4_free_6 (by decide) ?_
  refine cP (v := .int 0) (ty := .int) C9 V hS t_o0.1 hf4 rfl tC_lay3 tyX4 tyX4_ok nmX4 5 (by decide) tCf_X4_63 rfl rfl (by decide +kernel) rfl rfl (Nat.le_of_ble_eq_true rfl) dX4_free_7 (fun f5 H locs ef5 V hS => ?_)
  replace hG := gLt_e hG (view_I hf4 rfl ef5)
  have hf6 : f5 o0 = .inr (3, [.int v1_0, .int v1_1, .ref v1_2, .int x2, .int v1_4, .int 0, .ref v1_6]) := up_s ef5
  have I := cI_up I t_o0.2 ef5 (mk3 t1_2 t1_6)
  refine lv_aload_n hx hb dX4_free_10 rfl (lv_at hl 0 rfl) ?_
  refine cG C9 V t_o0.1 hf6 rfl tC_lay3 2 (by decide) tCf_X4_92 (Or.inr tCs_X4_row) rfl dX4_free_11 ?_
  replace hG := gLt_e hG (view_gR hf6 rfl)
  obtain ⟨v7_0, v7_1, hf7, hn7, t7_1⟩ := op5 I t1_2
  refine cGoQ (cRunV (As := []) (rest := []) C9 hml hN hNs V I hS t1_2.1 hf7 rfl (c_X6_first l D ks τ L A N hN  ψ f5 v1_2 t1_2 ) gC_X4_95 okC_X6_first ⟨rfl, rfl, Nat.le_of_ble_eq_true rfl, Nat.le_of_ble_eq_true rfl⟩ hl.1 rfl (Nat.le_of_ble_eq_true rfl) dX4_free_14 ⟨Nat.zero_le _, Nat.zero_le _⟩) hS (fun r10 p9 f8 H locs hqf8 V I hS => ?_)
  obtain ⟨hqf8, ghqf8⟩ := hqf8
  replace hG := gC_e hG ghqf8
  have I : cI ks τ L ψ f8 := by rw [show p9 = ψ from hqf8.1] at I; exact I
  replace hG := gO_e hG (rfl)
  rcases r10 with _ | y11
  · replace hG := gO_n hG
    refine W.eq (g2 := F0 m 17 ls [.null]) rfl ?_
    refine lv_astore_nN (lv' := [(1, .null), (0, .ref o0)]) hx hb dX4_free_17 rfl hl (by decide) rfl (fun ls hl => ?_)
    refine lv_aload_nN hx hb dX4_free_18 rfl (lv_at hl 0 rfl) ?_
    refine lv_ifnonnullN hx hb dX4_free_19 ?_
    exact cRetV C9 hr hlk hN hNs V I hS (⟨rfl, hG.symm⟩) dX4_free_22
  · replace hG := gO_s hG
    have hy11 := hqf8.2 y11 rfl
    refine W.eq (g2 := F0 m 17 ls [.ref y11]) rfl ?_
    refine lv_astore_n (lv' := [(1, .ref y11), (0, .ref o0)]) hx hb dX4_free_17 rfl hl (by decide) rfl (fun ls hl => ?_)
    refine lv_aload_n hx hb dX4_free_18 rfl (lv_at hl 0 rfl) ?_
    refine lv_ifnonnull (tgt := 23) hx hb dX4_free_19 (by decide) ?_
    refine lv_aload_n hx hb dX4_free_23 rfl (lv_at hl 1 rfl) ?_
    obtain ⟨v12_0, v12_1, v12_2, v12_3, v12_4, v12_5, v12_6, hf12, t12_2, t12_6⟩ := op3 I t_o0
    refine cG C9 V t_o0.1 hf12 rfl tC_lay3 4 (by decide) tCf_X4_24 (Or.inl rfl) rfl dX4_free_24 ?_
    replace hG := gLt_e hG (view_gI hf12 rfl)
    refine lv_if_eq (tgt := 38) hx hb dX4_free_27 (by decide) (fun c13 => ?_) (fun c13 => ?_)
    · replace hG := gIf_p hG c13
      refine lv_aload_n hx hb dX4_free_38 rfl (lv_at hl 0 rfl) ?_
      refine lv_iconst (v := 1) hx hb dX4_free_39 (by decide) ?_
      obtain ⟨v14_0, v14_1, v14_2, v14_3, v14_4, v14_5, v14_6, v14_7, v14_8, v14_9, v14_10, v14_11, v14_12, hf14, t14_7, t14_8, t14_11⟩ := op7 I hy11
      refine cP (v := .int 1) (ty := .int) C9 V hS hy11.1 hf14 rfl tC_lay7 tyX8 tyX8_ok nmX8 1 (by decide) tCf_X4_102 rfl rfl (by decide +kernel) rfl rfl (Nat.le_of_ble_eq_true rfl) dX4_free_40 (fun f15 H locs ef15 V hS => ?_)
      replace hG := gLt_e hG (view_I hf14 rfl ef15)
      have hf16 : f15 y11 = .inr (7, [.int v14_0, .int 1, .int v14_2, .int v14_3, .int v14_4, .int v14_5, .long v14_6, va_rf v14_7, va_rf v14_8, .int v14_9, .int v14_10, .ref v14_11, .int v14_12]) := up_s ef15
      have I := cI_up I hy11.2 ef15 (mk7 t14_7 t14_8 t14_11)
      have hf17 := up_n ef15 hy11.2 t_o0.2 (by first | decide | omega) hf12
      exact cRetV C9 hr hlk hN hNs V I hS (⟨rfl, hG.symm⟩) dX4_free_43
    · replace hG := gIf_n hG c13
      refine lv_aload_n hx hb dX4_free_30 rfl (lv_at hl 1 rfl) ?_
      refine lv_aload_n hx hb dX4_free_31 rfl (lv_at hl 0 rfl) ?_
      refine cGoV (cRunV (As := [.ref y11]) (rest := []) C9 hml hN hNs V I hS t_o0.1 hf12 rfl (c_X4_have l D ks τ L A N hN  ψ f8 o0 y11 t_o0 hy11 ) gC_X4_99 okC_X4_have ⟨rfl, rfl, Nat.le_of_ble_eq_true rfl, Nat.le_of_ble_eq_true rfl⟩ hl.1 rfl (Nat.le_of_ble_eq_true rfl) dX4_free_32 ⟨Nat.zero_le _, Nat.zero_le _⟩) hS (fun p19 f18 H locs hqf18 V I hS => ?_)
      obtain ⟨hqf18, ghqf18⟩ := hqf18
      replace hG := gLt_e hG (ghqf18)
      have I : cI ks τ L ψ f18 := by rw [show p19 = ψ from hqf18] at I; exact I
      refine lv_goto (tgt := 43) hx hb dX4_free_35 (by decide) ?_
      exact cRetV C9 hr hlk hN hNs V I hS (⟨rfl, hG.symm⟩) dX4_free_43
def FC_X4_grabOrStandIn (X : xS) (o0 : Nat) (o1 : Nat) : xS := gC (FC_X4_isGrabbed X o0 o1) (fun r4 Xf2 => if (r4 : Int32) = 0 then (gLt ((xR Xf2 o0 2).getD 0 : Nat) (fun v6_2 => gLt (FC_X8_standIn Xf2 o1 v6_2 o0 : xS) (fun Xf8 => Xf8))) else (gLt (FC_X8_goOn Xf2 o1 : xS) (fun Xf12 => Xf12)))
set_option maxHeartbeats 200000 in
set_option maxRecDepth 100000 in
theorem c_X4_grabOrStandIn (l : Launch) (D : va_G) (ks : kS) (τ : Nat → Nat) (L : List Nat) (A : Nat → Prop) (N : State → Prop) (hN : cNk A N)  (ψ : Int32) (f : Nat → va_E) (o0 : Nat) (o1 : Nat) (t_o0 : ty τ L o0 3) (t_o1 : ty τ L o1 7) : Met l yX4_grabOrStandIn (Cond.code yX4_grabOrStandIn cX4_grabOrStandIn 2 none :: tC) ({ frames := 2, cells := 0, slots := 0, locals := 43 }) (va_Pc [.ref o0, .ref o1] (cB D ks τ L A N (ψ, f))) (va_Qv (fun x9 => (x9.1 = ψ) ∧ view x9.2 = FC_X4_grabOrStandIn (view f) o0 o1) (cB D ks τ L A N) A) 0 0 A := by
  refine cMet (own := RX4) (by decide) rfl (Nat.le_of_ble_eq_true rfl) ?_
  intro p e s m below meth c ls C9 hml hr hlk V I hNs hl
  have hx := C9.1
  have hb := C9.2.1
  have hown := C9.2.2.1
  have hts := C9.2.2.2.1
  have hS : va_S A s.heap s.heap [] := va_S.rf
  have hG := FC_X4_grabOrStandIn.eq_1 (view f) o0 o1
  have hl : lv_has ls 2 [(0, .ref o0), (1, .ref o1)] := hl
  refine lv_aload_n hx hb dX4_grabOrStandIn_0 rfl (lv_at hl 0 rfl) ?_
  refine lv_aload_n hx hb dX4_grabOrStandIn_1 rfl (lv_at hl 1 rfl) ?_
  obtain ⟨v1_0, v1_1, v1_2, v1_3, v1_4, v1_5, v1_6, hf1, t1_2, t1_6⟩ := op3 I t_o0
  refine cGoI (cRunV (As := [.ref o1]) (rest := []) C9 hml hN hNs V I hS t_o0.1 hf1 rfl (c_X4_isGrabbed l D ks τ L A N hN  ψ f o0 o1 t_o0 t_o1 ) gC_X4_41 okC_X4_isGrabbed ⟨rfl, rfl, Nat.le_of_ble_eq_true rfl, Nat.le_of_ble_eq_true rfl⟩ hl.1 rfl (Nat.le_of_ble_eq_true rfl) dX4_grabOrStandIn_2 ⟨Nat.zero_le _, Nat.zero_le _⟩) hS (fun r4 p3 f2 H locs hqf2 V I hS => ?_)
  obtain ⟨hqf2, ghqf2⟩ := hqf2
  replace hG := gC_e hG ghqf2
  have I : cI ks τ L ψ f2 := by rw [show p3 = ψ from hqf2] at I; exact I
  refine lv_if_eq (tgt := 15) hx hb dX4_grabOrStandIn_5 (by decide) (fun c5 => ?_) (fun c5 => ?_)
  · replace hG := gIf_p hG c5
    refine lv_aload_n hx hb dX4_grabOrStandIn_15 rfl (lv_at hl 1 rfl) ?_
    refine lv_aload_n hx hb dX4_grabOrStandIn_16 rfl (lv_at hl 0 rfl) ?_
    obtain ⟨v6_0, v6_1, v6_2, v6_3, v6_4, v6_5, v6_6, hf6, t6_2, t6_6⟩ := op3 I t_o0
    refine cG C9 V t_o0.1 hf6 rfl tC_lay3 2 (by decide) tCf_X4_92 (Or.inr tCs_X4_row) rfl dX4_grabOrStandIn_17 ?_
    replace hG := gLt_e hG (view_gR hf6 rfl)
    refine lv_aload_n hx hb dX4_grabOrStandIn_20 rfl (lv_at hl 0 rfl) ?_
    obtain ⟨v7_0, v7_1, v7_2, v7_3, v7_4, v7_5, v7_6, v7_7, v7_8, v7_9, v7_10, v7_11, v7_12, hf7, t7_7, t7_8, t7_11⟩ := op7 I t_o1
    refine cGoV (cRunV (As := [.ref v6_2, .ref o0]) (rest := []) C9 hml hN hNs V I hS t_o1.1 hf7 rfl (c_X8_standIn l D ks τ L A N hN  ψ f2 o1 v6_2 o0 t_o1 t6_2 (tyS_of t_o0 (by decide)) ) gC_X4_88 okC_X8_standIn ⟨rfl, rfl, Nat.le_of_ble_eq_true rfl, Nat.le_of_ble_eq_true rfl⟩ hl.1 rfl (Nat.le_of_ble_eq_true rfl) dX4_grabOrStandIn_21 ⟨Nat.zero_le _, Nat.zero_le _⟩) hS (fun p9 f8 H locs hqf8 V I hS => ?_)
    obtain ⟨hqf8, ghqf8⟩ := hqf8
    replace hG := gLt_e hG (ghqf8)
    have I : cI ks τ L ψ f8 := by rw [show p9 = ψ from hqf8] at I; exact I
    exact cRetV C9 hr hlk hN hNs V I hS (⟨rfl, hG.symm⟩) dX4_grabOrStandIn_24
  · replace hG := gIf_n hG c5
    refine lv_aload_n hx hb dX4_grabOrStandIn_8 rfl (lv_at hl 1 rfl) ?_
    obtain ⟨v11_0, v11_1, v11_2, v11_3, v11_4, v11_5, v11_6, v11_7, v11_8, v11_9, v11_10, v11_11, v11_12, hf11, t11_7, t11_8, t11_11⟩ := op7 I t_o1
    refine cGoV (cRunV (As := []) (rest := []) C9 hml hN hNs V I hS t_o1.1 hf11 rfl (c_X8_goOn l D ks τ L A N hN  ψ f2 o1 t_o1 ) gC_X4_60 okC_X8_goOn ⟨rfl, rfl, Nat.le_of_ble_eq_true rfl, Nat.le_of_ble_eq_true rfl⟩ hl.1 rfl (Nat.le_of_ble_eq_true rfl) dX4_grabOrStandIn_9 ⟨Nat.zero_le _, Nat.zero_le _⟩) hS (fun p13 f12 H locs hqf12 V I hS => ?_)
    obtain ⟨hqf12, ghqf12⟩ := hqf12
    replace hG := gLt_e hG (ghqf12)
    have I : cI ks τ L ψ f12 := by rw [show p13 = ψ from hqf12] at I; exact I
    refine lv_goto (tgt := 24) hx hb dX4_grabOrStandIn_12 (by decide) ?_
    exact cRetV C9 hr hlk hN hNs V I hS (⟨rfl, hG.symm⟩) dX4_grabOrStandIn_24
def FC_X4_tryAgain (X : xS) (o0 : Nat) (o1 : Nat) : xS := gLt (xI X o0 3 : Int32) (fun v1_3 => if (v1_3 : Int32) = (-1) then (gLt (FC_X4_have X o0 o1 : xS) (fun Xf7 => Xf7)) else (gLt (xwI X o1 1 2 : xS) (fun Xf4 => Xf4)))
set_option maxHeartbeats 200000 in
set_option maxRecDepth 100000 in
theorem c_X4_tryAgain (l : Launch) (D : va_G) (ks : kS) (τ : Nat → Nat) (L : List Nat) (A : Nat → Prop) (N : State → Prop) (hN : cNk A N)  (ψ : Int32) (f : Nat → va_E) (o0 : Nat) (o1 : Nat) (t_o0 : ty τ L o0 3) (t_o1 : ty τ L o1 7) : Met l yX4_tryAgain (Cond.code yX4_tryAgain cX4_tryAgain 2 none :: tC) ({ frames := 3, cells := 0, slots := 0, locals := 64 }) (va_Pc [.ref o0, .ref o1] (cB D ks τ L A N (ψ, f))) (va_Qv (fun x9 => (x9.1 = ψ) ∧ view x9.2 = FC_X4_tryAgain (view f) o0 o1) (cB D ks τ L A N) A) 0 0 A := by
  refine cMet (own := RX4) (by decide) rfl (Nat.le_of_ble_eq_true rfl) ?_
  intro p e s m below meth c ls C9 hml hr hlk V I hNs hl
  have hx := C9.1
  have hb := C9.2.1
  have hown := C9.2.2.1
  have hts := C9.2.2.2.1
  have hS : va_S A s.heap s.heap [] := va_S.rf
  have hG := FC_X4_tryAgain.eq_1 (view f) o0 o1
  have hl : lv_has ls 2 [(0, .ref o0), (1, .ref o1)] := hl
  refine lv_aload_n hx hb dX4_tryAgain_0 rfl (lv_at hl 0 rfl) ?_
  obtain ⟨v1_0, v1_1, v1_2, v1_3, v1_4, v1_5, v1_6, hf1, t1_2, t1_6⟩ := op3 I t_o0
  refine cG C9 V t_o0.1 hf1 rfl tC_lay3 3 (by decide) tCf_X4_9 (Or.inl rfl) rfl dX4_tryAgain_1 ?_
  replace hG := gLt_e hG (view_gI hf1 rfl)
  refine lv_iconst (v := (-1)) hx hb dX4_tryAgain_4 (by decide) ?_
  refine lv_icmp_ne (tgt := 16) hx hb dX4_tryAgain_5 (by decide) (fun c2 => ?_) (fun c2 => ?_)
  · replace hG := gIf_n hG c2
    refine lv_aload_n hx hb dX4_tryAgain_16 rfl (lv_at hl 1 rfl) ?_
    refine lv_iconst (v := 2) hx hb dX4_tryAgain_17 (by decide) ?_
    obtain ⟨v3_0, v3_1, v3_2, v3_3, v3_4, v3_5, v3_6, v3_7, v3_8, v3_9, v3_10, v3_11, v3_12, hf3, t3_7, t3_8, t3_11⟩ := op7 I t_o1
    refine cP (v := .int 2) (ty := .int) C9 V hS t_o1.1 hf3 rfl tC_lay7 tyX8 tyX8_ok nmX8 1 (by decide) tCf_X4_102 rfl rfl (by decide +kernel) rfl rfl (Nat.le_of_ble_eq_true rfl) dX4_tryAgain_18 (fun f4 H locs ef4 V hS => ?_)
    replace hG := gLt_e hG (view_I hf3 rfl ef4)
    have hf5 : f4 o1 = .inr (7, [.int v3_0, .int 2, .int v3_2, .int v3_3, .int v3_4, .int v3_5, .long v3_6, va_rf v3_7, va_rf v3_8, .int v3_9, .int v3_10, .ref v3_11, .int v3_12]) := up_s ef4
    have I := cI_up I t_o1.2 ef4 (mk7 t3_7 t3_8 t3_11)
    have hf6 := up_n ef4 t_o1.2 t_o0.2 (by first | decide | omega) hf1
    exact cRetV C9 hr hlk hN hNs V I hS (⟨rfl, hG.symm⟩) dX4_tryAgain_21
  · replace hG := gIf_p hG c2
    refine lv_aload_n hx hb dX4_tryAgain_8 rfl (lv_at hl 0 rfl) ?_
    refine lv_aload_n hx hb dX4_tryAgain_9 rfl (lv_at hl 1 rfl) ?_
    refine cGoV (cRunV (As := [.ref o1]) (rest := []) C9 hml hN hNs V I hS t_o0.1 hf1 rfl (c_X4_have l D ks τ L A N hN  ψ f o0 o1 t_o0 t_o1 ) gC_X4_99 okC_X4_have ⟨rfl, rfl, Nat.le_of_ble_eq_true rfl, Nat.le_of_ble_eq_true rfl⟩ hl.1 rfl (Nat.le_of_ble_eq_true rfl) dX4_tryAgain_10 ⟨Nat.zero_le _, Nat.zero_le _⟩) hS (fun p8 f7 H locs hqf7 V I hS => ?_)
    obtain ⟨hqf7, ghqf7⟩ := hqf7
    replace hG := gLt_e hG (ghqf7)
    have I : cI ks τ L ψ f7 := by rw [show p8 = ψ from hqf7] at I; exact I
    refine lv_goto (tgt := 21) hx hb dX4_tryAgain_13 (by decide) ?_
    exact cRetV C9 hr hlk hN hNs V I hS (⟨rfl, hG.symm⟩) dX4_tryAgain_21
def FC_X4_comeToFirst (X : xS) (o0 : Nat) (o1 : Nat) (i1 : Int32) : xS := gLt ((xR X o0 6).getD 0 : Nat) (fun v1_6 => gLt (FC_X6_remove X v1_6 o1 : xS) (fun Xf3 => gLt (xwI Xf3 o1 10 i1 : xS) (fun Xf7 => gLt ((xR Xf7 o0 2).getD 0 : Nat) (fun v9_2 => gLt (FC_X8_standIn Xf7 o1 v9_2 o0 : xS) (fun Xf10 => Xf10)))))
set_option maxHeartbeats 200000 in
set_option maxRecDepth 100000 in
theorem c_X4_comeToFirst (l : Launch) (D : va_G) (ks : kS) (τ : Nat → Nat) (L : List Nat) (A : Nat → Prop) (N : State → Prop) (hN : cNk A N)  (ψ : Int32) (f : Nat → va_E) (o0 : Nat) (o1 : Nat) (i1 : Int32) (t_o0 : ty τ L o0 3) (t_o1 : ty τ L o1 7) : Met l yX4_comeToFirst (Cond.code yX4_comeToFirst cX4_comeToFirst 3 none :: tC) ({ frames := 2, cells := 0, slots := 0, locals := 43 }) (va_Pc [.ref o0, .ref o1, .int i1] (cB D ks τ L A N (ψ, f))) (va_Qv (fun x9 => (x9.1 = ψ) ∧ view x9.2 = FC_X4_comeToFirst (view f) o0 o1 i1) (cB D ks τ L A N) A) 0 0 A := by
  refine cMet (own := RX4) (by decide) rfl (Nat.le_of_ble_eq_true rfl) ?_
  intro p e s m below meth c ls C9 hml hr hlk V I hNs hl
  have hx := C9.1
  have hb := C9.2.1
  have hown := C9.2.2.1
  have hts := C9.2.2.2.1
  have hS : va_S A s.heap s.heap [] := va_S.rf
  have hG := FC_X4_comeToFirst.eq_1 (view f) o0 o1 i1
  have hl : lv_has ls 3 [(0, .ref o0), (1, .ref o1), (2, .int i1)] := hl
  refine lv_aload_n hx hb dX4_comeToFirst_0 rfl (lv_at hl 0 rfl) ?_
  obtain ⟨v1_0, v1_1, v1_2, v1_3, v1_4, v1_5, v1_6, hf1, t1_2, t1_6⟩ := op3 I t_o0
  refine cG C9 V t_o0.1 hf1 rfl tC_lay3 6 (by decide) tCf_X4_20 (Or.inl rfl) rfl dX4_comeToFirst_1 ?_
  replace hG := gLt_e hG (view_gR hf1 rfl)
  refine lv_aload_n hx hb dX4_comeToFirst_4 rfl (lv_at hl 1 rfl) ?_
  obtain ⟨v2_0, v2_1, hf2, hn2, t2_1⟩ := op5 I t1_6
  refine cGoV (cRunV (As := [.ref o1]) (rest := []) C9 hml hN hNs V I hS t1_6.1 hf2 rfl (c_X6_remove l D ks τ L A N hN  ψ f v1_6 o1 t1_6 t_o1 ) gC_X4_115 okC_X6_remove ⟨rfl, rfl, Nat.le_of_ble_eq_true rfl, Nat.le_of_ble_eq_true rfl⟩ hl.1 rfl (Nat.le_of_ble_eq_true rfl) dX4_comeToFirst_5 ⟨Nat.zero_le _, Nat.zero_le _⟩) hS (fun p4 f3 H locs hqf3 V I hS => ?_)
  obtain ⟨hqf3, ghqf3⟩ := hqf3
  replace hG := gLt_e hG (ghqf3)
  have I : cI ks τ L ψ f3 := by rw [show p4 = ψ from hqf3] at I; exact I
  refine lv_aload_n hx hb dX4_comeToFirst_8 rfl (lv_at hl 1 rfl) ?_
  refine lv_iload_n hx hb dX4_comeToFirst_9 rfl (lv_at hl 2 rfl) ?_
  obtain ⟨v6_0, v6_1, v6_2, v6_3, v6_4, v6_5, v6_6, v6_7, v6_8, v6_9, v6_10, v6_11, v6_12, hf6, t6_7, t6_8, t6_11⟩ := op7 I t_o1
  refine cP (v := .int i1) (ty := .int) C9 V hS t_o1.1 hf6 rfl tC_lay7 tyX8 tyX8_ok nmX8 10 (by decide) tCf_X4_105 rfl rfl (by decide +kernel) rfl rfl (Nat.le_of_ble_eq_true rfl) dX4_comeToFirst_10 (fun f7 H locs ef7 V hS => ?_)
  replace hG := gLt_e hG (view_I hf6 rfl ef7)
  have hf8 : f7 o1 = .inr (7, [.int v6_0, .int v6_1, .int v6_2, .int v6_3, .int v6_4, .int v6_5, .long v6_6, va_rf v6_7, va_rf v6_8, .int v6_9, .int i1, .ref v6_11, .int v6_12]) := up_s ef7
  have I := cI_up I t_o1.2 ef7 (mk7 t6_7 t6_8 t6_11)
  refine lv_aload_n hx hb dX4_comeToFirst_13 rfl (lv_at hl 1 rfl) ?_
  refine lv_aload_n hx hb dX4_comeToFirst_14 rfl (lv_at hl 0 rfl) ?_
  obtain ⟨v9_0, v9_1, v9_2, v9_3, v9_4, v9_5, v9_6, hf9, t9_2, t9_6⟩ := op3 I t_o0
  refine cG C9 V t_o0.1 hf9 rfl tC_lay3 2 (by decide) tCf_X4_92 (Or.inr tCs_X4_row) rfl dX4_comeToFirst_15 ?_
  replace hG := gLt_e hG (view_gR hf9 rfl)
  refine lv_aload_n hx hb dX4_comeToFirst_18 rfl (lv_at hl 0 rfl) ?_
  refine cGoV (cRunV (As := [.ref v9_2, .ref o0]) (rest := []) C9 hml hN hNs V I hS t_o1.1 hf8 rfl (c_X8_standIn l D ks τ L A N hN  ψ f7 o1 v9_2 o0 t_o1 t9_2 (tyS_of t_o0 (by decide)) ) gC_X4_88 okC_X8_standIn ⟨rfl, rfl, Nat.le_of_ble_eq_true rfl, Nat.le_of_ble_eq_true rfl⟩ hl.1 rfl (Nat.le_of_ble_eq_true rfl) dX4_comeToFirst_19 ⟨Nat.zero_le _, Nat.zero_le _⟩) hS (fun p11 f10 H locs hqf10 V I hS => ?_)
  obtain ⟨hqf10, ghqf10⟩ := hqf10
  replace hG := gLt_e hG (ghqf10)
  have I : cI ks τ L ψ f10 := by rw [show p11 = ψ from hqf10] at I; exact I
  exact cRetV C9 hr hlk hN hNs V I hS (⟨rfl, hG.symm⟩) dX4_comeToFirst_22
def FC_X4_hasStrands (X : xS) (o0 : Nat) : Int32 × xS := gLt ((xR X o0 2).getD 0 : Nat) (fun v1_2 => gLt (xI X v1_2 0 : Int32) (fun v2_0 => if 0 < (v2_0 : Int32) then (((1 : Int32), X)) else (gLt ((xR X o0 6).getD 0 : Nat) (fun v1_6 => gLt (xI X v1_6 0 : Int32) (fun v4_0 => if (v4_0 : Int32) ≤ 0 then (((0 : Int32), X)) else (((1 : Int32), X)))))))
set_option maxHeartbeats 200000 in
set_option maxRecDepth 100000 in
theorem c_X4_hasStrands (l : Launch) (D : va_G) (ks : kS) (τ : Nat → Nat) (L : List Nat) (A : Nat → Prop) (N : State → Prop) (hN : cNk A N)  (ψ : Int32) (f : Nat → va_E) (o0 : Nat) (t_o0 : ty τ L o0 3) : Met l yX4_hasStrands (Cond.code yX4_hasStrands cX4_hasStrands 1 (some .boolean) :: tC) ({ frames := 0, cells := 0, slots := 0, locals := 0 }) (va_Pc [.ref o0] (cB D ks τ L A N (ψ, f))) (va_Qi (fun r9 x9 => (x9.1 = ψ) ∧ (r9, view x9.2) = FC_X4_hasStrands (view f) o0) (cB D ks τ L A N) A) 0 0 A := by
  refine cMet (own := RX4) (by decide) rfl (Nat.le_of_ble_eq_true rfl) ?_
  intro p e s m below meth c ls C9 hml hr hlk V I hNs hl
  have hx := C9.1
  have hb := C9.2.1
  have hown := C9.2.2.1
  have hts := C9.2.2.2.1
  have hS : va_S A s.heap s.heap [] := va_S.rf
  have hG := FC_X4_hasStrands.eq_1 (view f) o0
  have hl : lv_has ls 1 [(0, .ref o0)] := hl
  refine lv_aload_n hx hb dX4_hasStrands_0 rfl (lv_at hl 0 rfl) ?_
  obtain ⟨v1_0, v1_1, v1_2, v1_3, v1_4, v1_5, v1_6, hf1, t1_2, t1_6⟩ := op3 I t_o0
  refine cG C9 V t_o0.1 hf1 rfl tC_lay3 2 (by decide) tCf_X4_92 (Or.inr tCs_X4_row) rfl dX4_hasStrands_1 ?_
  replace hG := gLt_e hG (view_gR hf1 rfl)
  obtain ⟨v2_0, v2_1, hf2, hn2, t2_1⟩ := op5 I t1_2
  refine cG C9 V t1_2.1 hf2 rfl tC_lay5 0 (by decide) tCf_X4_75 (Or.inl rfl) rfl dX4_hasStrands_4 ?_
  replace hG := gLt_e hG (view_gI hf2 rfl)
  refine lv_if_gt (tgt := 20) hx hb dX4_hasStrands_7 (by decide) (fun c3 => ?_) (fun c3 => ?_)
  · replace hG := gIf_p hG c3
    refine lv_iconst (v := 1) hx hb dX4_hasStrands_20 (by decide) ?_
    refine lv_goto (tgt := 25) hx hb dX4_hasStrands_21 (by decide) ?_
    exact cRetZ C9 hr hlk hN hNs V I hS (by clear hG V hS hl C9 hts hown hx hb hml hr hlk; first | rfl | decide | (subst_vars; rfl)) (⟨rfl, hG.symm⟩) dX4_hasStrands_25
  · replace hG := gIf_n hG c3
    refine lv_aload_n hx hb dX4_hasStrands_10 rfl (lv_at hl 0 rfl) ?_
    refine cG C9 V t_o0.1 hf1 rfl tC_lay3 6 (by decide) tCf_X4_20 (Or.inl rfl) rfl dX4_hasStrands_11 ?_
    replace hG := gLt_e hG (view_gR hf1 rfl)
    obtain ⟨v4_0, v4_1, hf4, hn4, t4_1⟩ := op5 I t1_6
    refine cG C9 V t1_6.1 hf4 rfl tC_lay5 0 (by decide) tCf_X4_75 (Or.inl rfl) rfl dX4_hasStrands_14 ?_
    replace hG := gLt_e hG (view_gI hf4 rfl)
    refine lv_if_le (tgt := 24) hx hb dX4_hasStrands_17 (by decide) (fun c5 => ?_) (fun c5 => ?_)
    · replace hG := gIf_p hG c5
      refine lv_iconst (v := 0) hx hb dX4_hasStrands_24 (by decide) ?_
      exact cRetZ C9 hr hlk hN hNs V I hS (by clear hG V hS hl C9 hts hown hx hb hml hr hlk; first | rfl | decide | (subst_vars; rfl)) (⟨rfl, hG.symm⟩) dX4_hasStrands_25
    · replace hG := gIf_n hG c5
      refine lv_iconst (v := 1) hx hb dX4_hasStrands_20 (by decide) ?_
      refine lv_goto (tgt := 25) hx hb dX4_hasStrands_21 (by decide) ?_
      exact cRetZ C9 hr hlk hN hNs V I hS (by clear hG V hS hl C9 hts hown hx hb hml hr hlk; first | rfl | decide | (subst_vars; rfl)) (⟨rfl, hG.symm⟩) dX4_hasStrands_25
def FC_X4_value (X : xS) (o0 : Nat) : Int64 × xS := gLt (xI X o0 5 : Int32) (fun v1_5 => (((Int32.toInt64 v1_5) : Int64), X))
set_option maxHeartbeats 200000 in
set_option maxRecDepth 100000 in
theorem c_X4_value (l : Launch) (D : va_G) (ks : kS) (τ : Nat → Nat) (L : List Nat) (A : Nat → Prop) (N : State → Prop) (hN : cNk A N)  (ψ : Int32) (f : Nat → va_E) (o0 : Nat) (t_o0 : ty τ L o0 3) : Met l yX4_value (Cond.code yX4_value cX4_value 1 (some .long) :: tC) ({ frames := 0, cells := 0, slots := 0, locals := 0 }) (va_Pc [.ref o0] (cB D ks τ L A N (ψ, f))) (va_Ql (fun r9 x9 => (x9.1 = ψ) ∧ (r9, view x9.2) = FC_X4_value (view f) o0) (cB D ks τ L A N) A) 0 0 A := by
  refine cMet (own := RX4) (by decide) rfl (Nat.le_of_ble_eq_true rfl) ?_
  intro p e s m below meth c ls C9 hml hr hlk V I hNs hl
  have hx := C9.1
  have hb := C9.2.1
  have hown := C9.2.2.1
  have hts := C9.2.2.2.1
  have hS : va_S A s.heap s.heap [] := va_S.rf
  have hG := FC_X4_value.eq_1 (view f) o0
  have hl : lv_has ls 1 [(0, .ref o0)] := hl
  refine lv_aload_n hx hb dX4_value_0 rfl (lv_at hl 0 rfl) ?_
  obtain ⟨v1_0, v1_1, v1_2, v1_3, v1_4, v1_5, v1_6, hf1, t1_2, t1_6⟩ := op3 I t_o0
  refine cG C9 V t_o0.1 hf1 rfl tC_lay3 5 (by decide) tCf_X4_63 (Or.inl rfl) rfl dX4_value_1 ?_
  replace hG := gLt_e hG (view_gI hf1 rfl)
  refine lv_i2l hx hb dX4_value_4 rfl ?_
  exact cRetL C9 hr hlk hN hNs V I hS (⟨rfl, hG.symm⟩) dX4_value_5
def FC_X4_tells (X : xS) (o0 : Nat) (i1 : Int32) : Int32 × xS := if 3 < (i1 : Int32) then (((0 : Int32), X)) else (((1 : Int32), X))
set_option maxHeartbeats 200000 in
set_option maxRecDepth 100000 in
theorem c_X4_tells (l : Launch) (D : va_G) (ks : kS) (τ : Nat → Nat) (L : List Nat) (A : Nat → Prop) (N : State → Prop) (hN : cNk A N)  (ψ : Int32) (f : Nat → va_E) (o0 : Nat) (i1 : Int32) (t_o0 : ty τ L o0 3) : Met l yX4_tells (Cond.code yX4_tells cX4_tells 2 (some .boolean) :: tC) ({ frames := 0, cells := 0, slots := 0, locals := 0 }) (va_Pc [.ref o0, .int i1] (cB D ks τ L A N (ψ, f))) (va_Qi (fun r9 x9 => (x9.1 = ψ) ∧ (r9, view x9.2) = FC_X4_tells (view f) o0 i1) (cB D ks τ L A N) A) 0 0 A := by
  refine cMet (own := RX4) (by decide) rfl (Nat.le_of_ble_eq_true rfl) ?_
  intro p e s m below meth c ls C9 hml hr hlk V I hNs hl
  have hx := C9.1
  have hb := C9.2.1
  have hown := C9.2.2.1
  have hts := C9.2.2.2.1
  have hS : va_S A s.heap s.heap [] := va_S.rf
  have hG := FC_X4_tells.eq_1 (view f) o0 i1
  have hl : lv_has ls 2 [(0, .ref o0), (1, .int i1)] := hl
  refine lv_iload_n hx hb dX4_tells_0 rfl (lv_at hl 1 rfl) ?_
  refine lv_iconst (v := 3) hx hb dX4_tells_1 (by decide) ?_
  refine lv_icmp_gt (tgt := 9) hx hb dX4_tells_2 (by decide) (fun c1 => ?_) (fun c1 => ?_)
  · replace hG := gIf_p hG c1
    refine lv_iconst (v := 0) hx hb dX4_tells_9 (by decide) ?_
    exact cRetZ C9 hr hlk hN hNs V I hS (by clear hG V hS hl C9 hts hown hx hb hml hr hlk; first | rfl | decide | (subst_vars; rfl)) (⟨rfl, hG.symm⟩) dX4_tells_10
  · replace hG := gIf_n hG c1
    refine lv_iconst (v := 1) hx hb dX4_tells_5 (by decide) ?_
    refine lv_goto (tgt := 10) hx hb dX4_tells_6 (by decide) ?_
    exact cRetZ C9 hr hlk hN hNs V I hS (by clear hG V hS hl C9 hts hown hx hb hml hr hlk; first | rfl | decide | (subst_vars; rfl)) (⟨rfl, hG.symm⟩) dX4_tells_10
def FC_X4_detail (X : xS) (o0 : Nat) (i1 : Int32) : Int64 × xS := if (i1 : Int32) = 2 then (gLt (xI X o0 3 : Int32) (fun v4_3 => (((Int32.toInt64 v4_3) : Int64), X))) else (gLt ((xR X o0 6).getD 0 : Nat) (fun v2_6 => gLt (xI X v2_6 0 : Int32) (fun v3_0 => (((Int32.toInt64 v3_0) : Int64), X))))
set_option maxHeartbeats 200000 in
set_option maxRecDepth 100000 in
theorem c_X4_detail (l : Launch) (D : va_G) (ks : kS) (τ : Nat → Nat) (L : List Nat) (A : Nat → Prop) (N : State → Prop) (hN : cNk A N)  (ψ : Int32) (f : Nat → va_E) (o0 : Nat) (i1 : Int32) (t_o0 : ty τ L o0 3) : Met l yX4_detail (Cond.code yX4_detail cX4_detail 2 (some .long) :: tC) ({ frames := 0, cells := 0, slots := 0, locals := 0 }) (va_Pc [.ref o0, .int i1] (cB D ks τ L A N (ψ, f))) (va_Ql (fun r9 x9 => (x9.1 = ψ) ∧ (r9, view x9.2) = FC_X4_detail (view f) o0 i1) (cB D ks τ L A N) A) 0 0 A := by
  refine cMet (own := RX4) (by decide) rfl (Nat.le_of_ble_eq_true rfl) ?_
  intro p e s m below meth c ls C9 hml hr hlk V I hNs hl
  have hx := C9.1
  have hb := C9.2.1
  have hown := C9.2.2.1
  have hts := C9.2.2.2.1
  have hS : va_S A s.heap s.heap [] := va_S.rf
  have hG := FC_X4_detail.eq_1 (view f) o0 i1
  have hl : lv_has ls 2 [(0, .ref o0), (1, .int i1)] := hl
  refine lv_iload_n hx hb dX4_detail_0 rfl (lv_at hl 1 rfl) ?_
  refine lv_iconst (v := 2) hx hb dX4_detail_1 (by decide) ?_
  refine lv_icmp_ne (tgt := 13) hx hb dX4_detail_2 (by decide) (fun c1 => ?_) (fun c1 => ?_)
  · replace hG := gIf_n hG c1
    refine lv_aload_n hx hb dX4_detail_13 rfl (lv_at hl 0 rfl) ?_
    obtain ⟨v2_0, v2_1, v2_2, v2_3, v2_4, v2_5, v2_6, hf2, t2_2, t2_6⟩ := op3 I t_o0
    refine cG C9 V t_o0.1 hf2 rfl tC_lay3 6 (by decide) tCf_X4_20 (Or.inl rfl) rfl dX4_detail_14 ?_
    replace hG := gLt_e hG (view_gR hf2 rfl)
    obtain ⟨v3_0, v3_1, hf3, hn3, t3_1⟩ := op5 I t2_6
    refine cG C9 V t2_6.1 hf3 rfl tC_lay5 0 (by decide) tCf_X4_75 (Or.inl rfl) rfl dX4_detail_17 ?_
    replace hG := gLt_e hG (view_gI hf3 rfl)
    refine lv_i2l hx hb dX4_detail_20 rfl ?_
    exact cRetL C9 hr hlk hN hNs V I hS (⟨rfl, hG.symm⟩) dX4_detail_21
  · replace hG := gIf_p hG c1
    refine lv_aload_n hx hb dX4_detail_5 rfl (lv_at hl 0 rfl) ?_
    obtain ⟨v4_0, v4_1, v4_2, v4_3, v4_4, v4_5, v4_6, hf4, t4_2, t4_6⟩ := op3 I t_o0
    refine cG C9 V t_o0.1 hf4 rfl tC_lay3 3 (by decide) tCf_X4_9 (Or.inl rfl) rfl dX4_detail_6 ?_
    replace hG := gLt_e hG (view_gI hf4 rfl)
    refine lv_i2l hx hb dX4_detail_9 rfl ?_
    refine lv_goto (tgt := 21) hx hb dX4_detail_10 (by decide) ?_
    exact cRetL C9 hr hlk hN hNs V I hS (⟨rfl, hG.symm⟩) dX4_detail_21

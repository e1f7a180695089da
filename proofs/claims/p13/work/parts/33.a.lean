def FC_X6_first (X : xS) (o0 : Nat) : Option Nat × xS := gLt (xI X o0 0 : Int32) (fun v1_0 => if (v1_0 : Int32) ≤ 0 then (((none : Option Nat), X)) else (gLt ((xR X o0 1).getD 0 : Nat) (fun v1_1 => gO (xQ X v1_1 0) (((none : Option Nat), X)) (fun y5 => (((some y5) : Option Nat), X)))))
set_option maxHeartbeats 200000 in
set_option maxRecDepth 100000 in
theorem c_X6_first (l : Launch) (D : va_G) (ks : kS) (τ : Nat → Nat) (L : List Nat) (A : Nat → Prop) (N : State → Prop) (hN : cNk A N)  (ψ : Int32) (f : Nat → va_E) (o0 : Nat) (t_o0 : ty τ L o0 5) : Met l yX6_first (Cond.code yX6_first cX6_first 1 (some (.object "TurnKeeper$Strand")) :: tC) ({ frames := 0, cells := 0, slots := 0, locals := 0 }) (va_Pc [.ref o0] (cB D ks τ L A N (ψ, f))) (va_Qq (fun r9 x9 => (x9.1 = ψ ∧ tyO τ L r9 7) ∧ (r9, view x9.2) = FC_X6_first (view f) o0) (cB D ks τ L A N) A) 0 0 A := by
  refine cMet (own := RX6) (by decide) rfl (Nat.le_of_ble_eq_true rfl) ?_
  intro p e s m below meth c ls C9 hml hr hlk V I hNs hl
  have hx := C9.1
  have hb := C9.2.1
  have hown := C9.2.2.1
  have hts := C9.2.2.2.1
  have hS : va_S A s.heap s.heap [] := va_S.rf
  have hG := FC_X6_first.eq_1 (view f) o0
  have hl : lv_has ls 1 [(0, .ref o0)] := hl
  refine lv_aload_n hx hb dX6_first_0 rfl (lv_at hl 0 rfl) ?_
  obtain ⟨v1_0, v1_1, hf1, hn1, t1_1⟩ := op5 I t_o0
  refine cG C9 V t_o0.1 hf1 rfl tC_lay5 0 (by decide) tCf_X6_17 (Or.inl rfl) rfl dX6_first_1 ?_
  replace hG := gLt_e hG (view_gI hf1 rfl)
  refine lv_if_le (tgt := 16) hx hb dX6_first_4 (by decide) (fun c2 => ?_) (fun c2 => ?_)
  · replace hG := gIf_p hG c2
    refine lv_null hx hb dX6_first_16 ?_
    exact cRetR (v := none) C9 hr hlk hN hNs V I hS (⟨⟨rfl, tyO_n⟩, hG.symm⟩) dX6_first_17
  · replace hG := gIf_n hG c2
    refine lv_aload_n hx hb dX6_first_7 rfl (lv_at hl 0 rfl) ?_
    refine cG C9 V t_o0.1 hf1 rfl tC_lay5 1 (by decide) tCf_X6_11 (Or.inl rfl) rfl dX6_first_8 ?_
    replace hG := gLt_e hG (view_gR hf1 rfl)
    refine lv_iconst (v := 0) hx hb dX6_first_11 (by decide) ?_
    obtain ⟨g3, hf3, hg3⟩ := op13 I t1_1
    refine cLr (t0 := 2) C9 V t1_1.1 hf3 rfl (cvin (N := 8) rfl (by clear hG V hS hl C9 hts hown hx hb hml hr hlk; decide) (by clear hG V hS hl C9 hts hown hx hb hml hr hlk; decide)) dX6_first_12 ?_
    obtain ⟨r4, er4⟩ : ∃ z, z = g3 (Int32.toNatClampNeg 0) := ⟨_, rfl⟩
    rw [← er4]
    have tr4 : tyO τ L r4 7 := by rw [er4]; exact hg3 _
    replace hG := gO_e hG (er4.trans (view_gQ hf3))
    rcases r4 with _ | y5
    · replace hG := gO_n hG
      refine W.eq (g2 := F0 m 13 ls [.null]) rfl ?_
      refine lv_goto (tgt := 17) hx hb dX6_first_13 (by decide) ?_
      exact cRetR (v := none) C9 hr hlk hN hNs V I hS (⟨⟨rfl, tyO_n⟩, hG.symm⟩) dX6_first_17
    · replace hG := gO_s hG
      have hy5 := tr4 y5 rfl
      refine W.eq (g2 := F0 m 13 ls [.ref y5]) rfl ?_
      refine lv_goto (tgt := 17) hx hb dX6_first_13 (by decide) ?_
      exact cRetR (v := (some y5)) C9 hr hlk hN hNs V I hS (⟨⟨rfl, tyO_s hy5⟩, hG.symm⟩) dX6_first_17
def FC_X8_fail (X : xS) (o0 : Nat) (i1 : Int32) : xS := gLt (xwI X o0 1 5 : xS) (fun Xf2 => gLt (xwI Xf2 o0 4 i1 : xS) (fun Xf4 => Xf4))
set_option maxHeartbeats 200000 in
set_option maxRecDepth 100000 in
theorem c_X8_fail (l : Launch) (D : va_G) (ks : kS) (τ : Nat → Nat) (L : List Nat) (A : Nat → Prop) (N : State → Prop) (hN : cNk A N)  (ψ : Int32) (f : Nat → va_E) (o0 : Nat) (i1 : Int32) (t_o0 : ty τ L o0 7) : Met l yX8_fail (Cond.code yX8_fail cX8_fail 2 none :: tC) ({ frames := 0, cells := 0, slots := 0, locals := 0 }) (va_Pc [.ref o0, .int i1] (cB D ks τ L A N (ψ, f))) (va_Qv (fun x9 => (x9.1 = ψ) ∧ view x9.2 = FC_X8_fail (view f) o0 i1) (cB D ks τ L A N) A) 0 0 A := by
  refine cMet (own := RX8) (by decide) rfl (Nat.le_of_ble_eq_true rfl) ?_
  intro p e s m below meth c ls C9 hml hr hlk V I hNs hl
  have hx := C9.1
  have hb := C9.2.1
  have hown := C9.2.2.1
  have hts := C9.2.2.2.1
  have hS : va_S A s.heap s.heap [] := va_S.rf
  have hG := FC_X8_fail.eq_1 (view f) o0 i1
  have hl : lv_has ls 2 [(0, .ref o0), (1, .int i1)] := hl
  refine lv_aload_n hx hb dX8_fail_0 rfl (lv_at hl 0 rfl) ?_
  refine lv_iconst (v := 5) hx hb dX8_fail_1 (by decide) ?_
  obtain ⟨v1_0, v1_1, v1_2, v1_3, v1_4, v1_5, v1_6, v1_7, v1_8, v1_9, v1_10, v1_11, v1_12, hf1, t1_7, t1_8, t1_11⟩ := op7 I t_o0
  refine cP (v := .int 5) (ty := .int) C9 V hS t_o0.1 hf1 rfl tC_lay7 tyX8 tyX8_ok nmX8 1 (by decide) tCf_X8_19 rfl rfl (by decide +kernel) rfl rfl (Nat.le_of_ble_eq_true rfl) dX8_fail_2 (fun f2 H locs ef2 V hS => ?_)
  replace hG := gLt_e hG (view_I hf1 rfl ef2)
  have hf3 : f2 o0 = .inr (7, [.int v1_0, .int 5, .int v1_2, .int v1_3, .int v1_4, .int v1_5, .long v1_6, va_rf v1_7, va_rf v1_8, .int v1_9, .int v1_10, .ref v1_11, .int v1_12]) := up_s ef2
  have I := cI_up I t_o0.2 ef2 (mk7 t1_7 t1_8 t1_11)
  refine lv_aload_n hx hb dX8_fail_5 rfl (lv_at hl 0 rfl) ?_
  refine lv_iload_n hx hb dX8_fail_6 rfl (lv_at hl 1 rfl) ?_
  refine cP (v := .int i1) (ty := .int) C9 V hS t_o0.1 hf3 rfl tC_lay7 tyX8 tyX8_ok nmX8 4 (by decide) tCf_X8_31 rfl rfl (by decide +kernel) rfl rfl (Nat.le_of_ble_eq_true rfl) dX8_fail_7 (fun f4 H locs ef4 V hS => ?_)
  replace hG := gLt_e hG (view_I hf3 rfl ef4)
  have hf5 : f4 o0 = .inr (7, [.int v1_0, .int 5, .int v1_2, .int v1_3, .int i1, .int v1_5, .long v1_6, va_rf v1_7, va_rf v1_8, .int v1_9, .int v1_10, .ref v1_11, .int v1_12]) := up_s ef4
  have I := cI_up I t_o0.2 ef4 (mk7 t1_7 t1_8 t1_11)
  exact cRetV C9 hr hlk hN hNs V I hS (⟨rfl, hG.symm⟩) dX8_fail_10
def FC_X8_goTo (X : xS) (o0 : Nat) (i1 : Int32) : xS := gLt (xwI X o0 3 i1 : xS) (fun Xf2 => gLt (xI Xf2 o0 12 : Int32) (fun v1_12 => if v1_12 ≤ (i1 : Int32) then (gLt (xwI Xf2 o0 1 4 : xS) (fun Xf5 => Xf5)) else (gLt (xwI Xf2 o0 1 1 : xS) (fun Xf7 => Xf7))))
set_option maxHeartbeats 200000 in
set_option maxRecDepth 100000 in
theorem c_X8_goTo (l : Launch) (D : va_G) (ks : kS) (τ : Nat → Nat) (L : List Nat) (A : Nat → Prop) (N : State → Prop) (hN : cNk A N)  (ψ : Int32) (f : Nat → va_E) (o0 : Nat) (i1 : Int32) (t_o0 : ty τ L o0 7) : Met l yX8_goTo (Cond.code yX8_goTo cX8_goTo 2 none :: tC) ({ frames := 0, cells := 0, slots := 0, locals := 0 }) (va_Pc [.ref o0, .int i1] (cB D ks τ L A N (ψ, f))) (va_Qv (fun x9 => (x9.1 = ψ) ∧ view x9.2 = FC_X8_goTo (view f) o0 i1) (cB D ks τ L A N) A) 0 0 A := by
  refine cMet (own := RX8) (by decide) rfl (Nat.le_of_ble_eq_true rfl) ?_
  intro p e s m below meth c ls C9 hml hr hlk V I hNs hl
  have hx := C9.1
  have hb := C9.2.1
  have hown := C9.2.2.1
  have hts := C9.2.2.2.1
  have hS : va_S A s.heap s.heap [] := va_S.rf
  have hG := FC_X8_goTo.eq_1 (view f) o0 i1
  have hl : lv_has ls 2 [(0, .ref o0), (1, .int i1)] := hl
  refine lv_aload_n hx hb dX8_goTo_0 rfl (lv_at hl 0 rfl) ?_
  refine lv_iload_n hx hb dX8_goTo_1 rfl (lv_at hl 1 rfl) ?_
  obtain ⟨v1_0, v1_1, v1_2, v1_3, v1_4, v1_5, v1_6, v1_7, v1_8, v1_9, v1_10, v1_11, v1_12, hf1, t1_7, t1_8, t1_11⟩ := op7 I t_o0
  refine cP (v := .int i1) (ty := .int) C9 V hS t_o0.1 hf1 rfl tC_lay7 tyX8 tyX8_ok nmX8 3 (by decide) tCf_X8_28 rfl rfl (by decide +kernel) rfl rfl (Nat.le_of_ble_eq_true rfl) dX8_goTo_2 (fun f2 H locs ef2 V hS => ?_)
  replace hG := gLt_e hG (view_I hf1 rfl ef2)
  have hf3 : f2 o0 = .inr (7, [.int v1_0, .int v1_1, .int v1_2, .int i1, .int v1_4, .int v1_5, .long v1_6, va_rf v1_7, va_rf v1_8, .int v1_9, .int v1_10, .ref v1_11, .int v1_12]) := up_s ef2
  have I := cI_up I t_o0.2 ef2 (mk7 t1_7 t1_8 t1_11)
  refine lv_aload_n hx hb dX8_goTo_5 rfl (lv_at hl 0 rfl) ?_
  refine lv_iload_n hx hb dX8_goTo_6 rfl (lv_at hl 1 rfl) ?_
  refine lv_aload_n hx hb dX8_goTo_7 rfl (lv_at hl 0 rfl) ?_
  refine cG C9 V t_o0.1 hf3 rfl tC_lay7 12 (by decide) tCf_X8_22 (Or.inl rfl) rfl dX8_goTo_8 ?_
  replace hG := gLt_e hG (view_gI hf3 rfl)
  refine lv_icmp_ge (tgt := 18) hx hb dX8_goTo_11 (by decide) (fun c4 => ?_) (fun c4 => ?_)
  · replace hG := gIf_p hG c4
    refine lv_iconst (v := 4) hx hb dX8_goTo_18 (by decide) ?_
    refine cP (v := .int 4) (ty := .int) C9 V hS t_o0.1 hf3 rfl tC_lay7 tyX8 tyX8_ok nmX8 1 (by decide) tCf_X8_19 rfl rfl (by decide +kernel) rfl rfl (Nat.le_of_ble_eq_true rfl) dX8_goTo_19 (fun f5 H locs ef5 V hS => ?_)
    replace hG := gLt_e hG (view_I hf3 rfl ef5)
    have hf6 : f5 o0 = .inr (7, [.int v1_0, .int 4, .int v1_2, .int i1, .int v1_4, .int v1_5, .long v1_6, va_rf v1_7, va_rf v1_8, .int v1_9, .int v1_10, .ref v1_11, .int v1_12]) := up_s ef5
    have I := cI_up I t_o0.2 ef5 (mk7 t1_7 t1_8 t1_11)
    exact cRetV C9 hr hlk hN hNs V I hS (⟨rfl, hG.symm⟩) dX8_goTo_22
  · replace hG := gIf_n hG c4
    refine lv_iconst (v := 1) hx hb dX8_goTo_14 (by decide) ?_
    refine lv_goto (tgt := 19) hx hb dX8_goTo_15 (by decide) ?_
    refine cP (v := .int 1) (ty := .int) C9 V hS t_o0.1 hf3 rfl tC_lay7 tyX8 tyX8_ok nmX8 1 (by decide) tCf_X8_19 rfl rfl (by decide +kernel) rfl rfl (Nat.le_of_ble_eq_true rfl) dX8_goTo_19 (fun f7 H locs ef7 V hS => ?_)
    replace hG := gLt_e hG (view_I hf3 rfl ef7)
    have hf8 : f7 o0 = .inr (7, [.int v1_0, .int 1, .int v1_2, .int i1, .int v1_4, .int v1_5, .long v1_6, va_rf v1_7, va_rf v1_8, .int v1_9, .int v1_10, .ref v1_11, .int v1_12]) := up_s ef7
    have I := cI_up I t_o0.2 ef7 (mk7 t1_7 t1_8 t1_11)
    exact cRetV C9 hr hlk hN hNs V I hS (⟨rfl, hG.symm⟩) dX8_goTo_22
def FC_X8_isVacant (X : xS) (o0 : Nat) : Int32 × xS := gLt (xI X o0 1 : Int32) (fun v1_1 => if (v1_1 : Int32) = 0 then (((1 : Int32), X)) else (if (v1_1 : Int32) = 4 then (((1 : Int32), X)) else (if (v1_1 : Int32) = 5 then (((1 : Int32), X)) else (((0 : Int32), X)))))
set_option maxHeartbeats 200000 in
set_option maxRecDepth 100000 in
theorem c_X8_isVacant (l : Launch) (D : va_G) (ks : kS) (τ : Nat → Nat) (L : List Nat) (A : Nat → Prop) (N : State → Prop) (hN : cNk A N)  (ψ : Int32) (f : Nat → va_E) (o0 : Nat) (t_o0 : ty τ L o0 7) : Met l yX8_isVacant (Cond.code yX8_isVacant cX8_isVacant 1 (some .boolean) :: tC) ({ frames := 0, cells := 0, slots := 0, locals := 0 }) (va_Pc [.ref o0] (cB D ks τ L A N (ψ, f))) (va_Qi (fun r9 x9 => (x9.1 = ψ) ∧ (r9, view x9.2) = FC_X8_isVacant (view f) o0) (cB D ks τ L A N) A) 0 0 A := by
  refine cMet (own := RX8) (by decide) rfl (Nat.le_of_ble_eq_true rfl) ?_
  intro p e s m below meth c ls C9 hml hr hlk V I hNs hl
  have hx := C9.1
  have hb := C9.2.1
  have hown := C9.2.2.1
  have hts := C9.2.2.2.1
  have hS : va_S A s.heap s.heap [] := va_S.rf
  have hG := FC_X8_isVacant.eq_1 (view f) o0
  have hl : lv_has ls 1 [(0, .ref o0)] := hl
  refine lv_aload_n hx hb dX8_isVacant_0 rfl (lv_at hl 0 rfl) ?_
  obtain ⟨v1_0, v1_1, v1_2, v1_3, v1_4, v1_5, v1_6, v1_7, v1_8, v1_9, v1_10, v1_11, v1_12, hf1, t1_7, t1_8, t1_11⟩ := op7 I t_o0
  refine cG C9 V t_o0.1 hf1 rfl tC_lay7 1 (by decide) tCf_X8_19 (Or.inl rfl) rfl dX8_isVacant_1 ?_
  replace hG := gLt_e hG (view_gI hf1 rfl)
  refine lv_if_eq (tgt := 23) hx hb dX8_isVacant_4 (by decide) (fun c2 => ?_) (fun c2 => ?_)
  · replace hG := gIf_p hG c2
    refine lv_iconst (v := 1) hx hb dX8_isVacant_23 (by decide) ?_
    refine lv_goto (tgt := 28) hx hb dX8_isVacant_24 (by decide) ?_
    exact cRetZ C9 hr hlk hN hNs V I hS (by clear hG V hS hl C9 hts hown hx hb hml hr hlk; first | rfl | decide | (subst_vars; rfl)) (⟨rfl, hG.symm⟩) dX8_isVacant_28
  · replace hG := gIf_n hG c2
    refine lv_aload_n hx hb dX8_isVacant_7 rfl (lv_at hl 0 rfl) ?_
    refine cG C9 V t_o0.1 hf1 rfl tC_lay7 1 (by decide) tCf_X8_19 (Or.inl rfl) rfl dX8_isVacant_8 ?_
    refine lv_iconst (v := 4) hx hb dX8_isVacant_11 (by decide) ?_
    refine lv_icmp_eq (tgt := 23) hx hb dX8_isVacant_12 (by decide) (fun c3 => ?_) (fun c3 => ?_)
    · replace hG := gIf_p hG c3
      refine lv_iconst (v := 1) hx hb dX8_isVacant_23 (by decide) ?_
      refine lv_goto (tgt := 28) hx hb dX8_isVacant_24 (by decide) ?_
      exact cRetZ C9 hr hlk hN hNs V I hS (by clear hG V hS hl C9 hts hown hx hb hml hr hlk; first | rfl | decide | (subst_vars; rfl)) (⟨rfl, hG.symm⟩) dX8_isVacant_28
    · replace hG := gIf_n hG c3
      refine lv_aload_n hx hb dX8_isVacant_15 rfl (lv_at hl 0 rfl) ?_
      refine cG C9 V t_o0.1 hf1 rfl tC_lay7 1 (by decide) tCf_X8_19 (Or.inl rfl) rfl dX8_isVacant_16 ?_
      refine lv_iconst (v := 5) hx hb dX8_isVacant_19 (by decide) ?_
      refine lv_icmp_ne (tgt := 27) hx hb dX8_isVacant_20 (by decide) (fun c4 => ?_) (fun c4 => ?_)
      · replace hG := gIf_n hG c4
        refine lv_iconst (v := 0) hx hb dX8_isVacant_27 (by decide) ?_
        exact cRetZ C9 hr hlk hN hNs V I hS (by clear hG V hS hl C9 hts hown hx hb hml hr hlk; first | rfl | decide | (subst_vars; rfl)) (⟨rfl, hG.symm⟩) dX8_isVacant_28
      · replace hG := gIf_p hG c4
        refine lv_iconst (v := 1) hx hb dX8_isVacant_23 (by decide) ?_
        refine lv_goto (tgt := 28) hx hb dX8_isVacant_24 (by decide) ?_
        exact cRetZ C9 hr hlk hN hNs V I hS (by clear hG V hS hl C9 hts hown hx hb hml hr hlk; first | rfl | decide | (subst_vars; rfl)) (⟨rfl, hG.symm⟩) dX8_isVacant_28

def FC_X5_append (X : xS) (o0 : Nat) (i1 : Int32) : xS := gLt (xI X o0 4 : Int32) (fun v1_4 => gLt (xI X o0 5 : Int32) (fun v1_5 => gLt ((v1_4 + v1_5) : Int32) (fun x2 => gLt ((xR X o0 3).getD 0 : Nat) (fun v1_3 => gLt (xC X v1_3 : Nat) (fun c1 => if (x2 : Int32) < (nI c1) then (if (x2 : Int32) < 0 then (X) else (if (nI c1) ≤ (x2 : Int32) then (X) else (gLt (xwA X v1_3 x2 (i1) : xS) (fun Xf7 => gLt ((v1_5 + 1) : Int32) (fun x11 => gLt (xwI Xf7 o0 5 x11 : xS) (fun Xf12 => Xf12)))))) else (gLt ((x2 - (nI c1)) : Int32) (fun x15 => if (x15 : Int32) < 0 then (X) else (if (nI c1) ≤ (x15 : Int32) then (X) else (gLt (xwA X v1_3 x15 (i1) : xS) (fun Xf18 => gLt ((v1_5 + 1) : Int32) (fun x22 => gLt (xwI Xf18 o0 5 x22 : xS) (fun Xf23 => Xf23))))))))))))
set_option maxHeartbeats 200000 in
set_option maxRecDepth 100000 in
theorem c_X5_append (l : Launch) (D : va_G) (ks : kS) (τ : Nat → Nat) (L : List Nat) (A : Nat → Prop) (N : State → Prop) (hN : cNk A N)  (ψ : Int32) (f : Nat → va_E) (o0 : Nat) (i1 : Int32) (t_o0 : ty τ L o0 4) : Met l yX5_append (Cond.code yX5_append cX5_append 3 none :: tC) ({ frames := 0, cells := 0, slots := 0, locals := 0 }) (va_Pc [.ref o0, .int i1] (cB D ks τ L A N (ψ, f))) (va_Qv (fun x9 => (x9.1 = ψ) ∧ view x9.2 = FC_X5_append (view f) o0 i1) (cB D ks τ L A N) A) 0 0 A := by
  refine cMet (own := RX5) (by decide) rfl (Nat.le_of_ble_eq_true rfl) ?_
  intro p e s m below meth c ls C9 hml hr hlk V I hNs hl
  have hx := C9.1
  have hb := C9.2.1
  have hown := C9.2.2.1
  have hts := C9.2.2.2.1
  have hS : va_S A s.heap s.heap [] := va_S.rf
  have hG := FC_X5_append.eq_1 (view f) o0 i1
  have hl : lv_has ls 3 [(0, .ref o0), (1, .int i1)] := hl
  refine lv_aload_n hx hb dX5_append_0 rfl (lv_at hl 0 rfl) ?_
  obtain ⟨v1_0, v1_1, v1_2, v1_3, v1_4, v1_5, c1, hf1, t1_2, t1_3, hc1, h01, h11⟩ := op4 I t_o0
  refine cG C9 V t_o0.1 hf1 rfl tC_lay4 4 (by decide) tCf_X5_67 (Or.inl rfl) rfl dX5_append_1 ?_
  replace hG := gLt_e hG (view_gI hf1 rfl)
  refine lv_aload_n hx hb dX5_append_4 rfl (lv_at hl 0 rfl) ?_
  refine cG C9 V t_o0.1 hf1 rfl tC_lay4 5 (by decide) tCf_X5_48 (Or.inl rfl) rfl dX5_append_5 ?_
  replace hG := gLt_e hG (view_gI hf1 rfl)
  refine lv_iadd hx hb dX5_append_8 ?_
  refine lv_topi (fun x2 ex2 => ?_)
  replace hG := gLt_e hG ex2
  refine lv_istore_n (lv' := [(2, .int x2), (0, .ref o0), (1, .int i1)]) hx hb dX5_append_9 rfl hl (by decide) rfl (fun ls hl => ?_)
  refine lv_iload_n hx hb dX5_append_10 rfl (lv_at hl 0 rfl) ?_
  refine lv_aload_n hx hb dX5_append_11 rfl (lv_at hl 1 rfl) ?_
  refine cG C9 V t_o0.1 hf1 rfl tC_lay4 3 (by decide) tCf_X5_9 (Or.inl rfl) rfl dX5_append_12 ?_
  replace hG := gLt_e hG (view_gR hf1 rfl)
  obtain ⟨g3, hf3⟩ := opN I t1_3 hc1
  replace hG := gLt_e hG ((view_l hf3).symm)
  refine cAl (t0 := 1) (v := (nI c1)) C9 V t1_3.1 hf3 rfl (by first | rfl | decide) dX5_append_15 ?_
  refine lv_icmp_lt (tgt := 27) hx hb dX5_append_16 (by decide) (fun c4 => ?_) (fun c4 => ?_)
  · replace hG := gIf_p hG c4
    refine lv_iload_n hx hb dX5_append_27 rfl (lv_at hl 0 rfl) ?_
    refine lv_if_lt (tgt := 57) hx hb dX5_append_28 (by decide) (fun c5 => ?_) (fun c5 => ?_)
    · replace hG := gIf_p hG c5
      exact cRetV C9 hr hlk hN hNs V I hS (⟨rfl, hG.symm⟩) dX5_append_57
    · replace hG := gIf_n hG c5
      refine lv_iload_n hx hb dX5_append_31 rfl (lv_at hl 0 rfl) ?_
      refine lv_aload_n hx hb dX5_append_32 rfl (lv_at hl 1 rfl) ?_
      refine cG C9 V t_o0.1 hf1 rfl tC_lay4 3 (by decide) tCf_X5_9 (Or.inl rfl) rfl dX5_append_33 ?_
      refine cAl (t0 := 1) (v := (nI c1)) C9 V t1_3.1 hf3 rfl (by first | rfl | decide) dX5_append_36 ?_
      refine lv_icmp_ge (tgt := 57) hx hb dX5_append_37 (by decide) (fun c6 => ?_) (fun c6 => ?_)
      · replace hG := gIf_p hG c6
        exact cRetV C9 hr hlk hN hNs V I hS (⟨rfl, hG.symm⟩) dX5_append_57
      · replace hG := gIf_n hG c6
        refine lv_aload_n hx hb dX5_append_40 rfl (lv_at hl 1 rfl) ?_
        refine cG C9 V t_o0.1 hf1 rfl tC_lay4 3 (by decide) tCf_X5_9 (Or.inl rfl) rfl dX5_append_41 ?_
        refine lv_iload_n hx hb dX5_append_44 rfl (lv_at hl 0 rfl) ?_
        refine lv_iload_n hx hb dX5_append_45 rfl (lv_at hl 2 rfl) ?_
        refine cSi C9 V hS t1_3.1 hf3 (cq_in hc1 (ci_le c5) (ci_lt c6)) dX5_append_46 (fun f7 H locs ef7 V hS => ?_)
        replace hG := gLt_e hG (view_A hf3 ef7)
        obtain ⟨g8, eg8⟩ : ∃ z, z = upd g3 (Int32.toNatClampNeg x2) (i1) := ⟨_, rfl⟩
        rw [← eg8] at ef7
        have hf9 := up_s ef7
        have I := cI_up I t1_3.2 ef7 (mkN hc1)
        have hf10 := up_n ef7 t1_3.2 t_o0.2 (by first | decide | omega) hf1
        refine lv_aload_n hx hb dX5_append_47 rfl (lv_at hl 1 rfl) ?_
        refine lv_dup hx hb dX5_append_48 rfl ?_
        refine cG C9 V t_o0.1 hf10 rfl tC_lay4 5 (by decide) tCf_X5_48 (Or.inl rfl) rfl dX5_append_49 ?_
        refine lv_iconst (v := 1) hx hb dX5_append_52 (by decide) ?_
        refine lv_iadd hx hb dX5_append_53 ?_
        refine lv_topi (fun x11 ex11 => ?_)
        replace hG := gLt_e hG ex11
        refine cP (v := .int x11) (ty := .int) C9 V hS t_o0.1 hf10 rfl tC_lay4 tyX5 tyX5_ok nmX5 5 (by decide) tCf_X5_48 rfl rfl (by decide +kernel) rfl rfl (Nat.le_of_ble_eq_true rfl) dX5_append_54 (fun f12 H locs ef12 V hS => ?_)
        replace hG := gLt_e hG (view_I hf10 rfl ef12)
        have hf13 : f12 o0 = .inr (4, [.int v1_0, .int v1_1, .ref v1_2, .ref v1_3, .int v1_4, .int x11]) := up_s ef12
        have I := cI_up I t_o0.2 ef12 (mk4 t1_2 t1_3 hc1 h01 h11)
        have hf14 := up_n ef12 t_o0.2 t1_3.2 (by first | decide | omega) hf9
        exact cRetV C9 hr hlk hN hNs V I hS (⟨rfl, hG.symm⟩) dX5_append_57
  · replace hG := gIf_n hG c4
    refine lv_iload_n hx hb dX5_append_19 rfl (lv_at hl 0 rfl) ?_
    refine lv_aload_n hx hb dX5_append_20 rfl (lv_at hl 1 rfl) ?_
    refine cG C9 V t_o0.1 hf1 rfl tC_lay4 3 (by decide) tCf_X5_9 (Or.inl rfl) rfl dX5_append_21 ?_
    refine cAl (t0 := 1) (v := (nI c1)) C9 V t1_3.1 hf3 rfl (by first | rfl | decide) dX5_append_24 ?_
    refine lv_isub hx hb dX5_append_25 ?_
    refine lv_topi (fun x15 ex15 => ?_)
    replace hG := gLt_e hG ex15
    refine lv_istore_n (lv' := [(2, .int x15), (0, .ref o0), (1, .int i1)]) hx hb dX5_append_26 rfl hl (by decide) rfl (fun ls hl => ?_)
    refine lv_iload_n hx hb dX5_append_27 rfl (lv_at hl 0 rfl) ?_
    refine lv_if_lt (tgt := 57) hx hb dX5_append_28 (by decide) (fun c16 => ?_) (fun c16 => ?_)
    · replace hG := gIf_p hG c16
      exact cRetV C9 hr hlk hN hNs V I hS (⟨rfl, hG.symm⟩) dX5_append_57
    · replace hG := gIf_n hG c16
      refine lv_iload_n hx hb dX5_append_31 rfl (lv_at hl 0 rfl) ?_
      refine lv_aload_n hx hb dX5_append_32 rfl (lv_at hl 1 rfl) ?_
      refine cG C9 V t_o0.1 hf1 rfl tC_lay4 3 (by decide) tCf_X5_9 (Or.inl rfl) rfl dX5_append_33 ?_
      refine cAl (t0 := 1) (v := (nI c1)) C9 V t1_3.1 hf3 rfl (by first | rfl | decide) dX5_append_36 ?_
      refine lv_icmp_ge (tgt := 57) hx hb dX5_append_37 (by decide) (fun c17 => ?_) (fun c17 => ?_)
      · replace hG := gIf_p hG c17
        exact cRetV C9 hr hlk hN hNs V I hS (⟨rfl, hG.symm⟩) dX5_append_57
      · replace hG := gIf_n hG c17
        refine lv_aload_n hx hb dX5_append_40 rfl (lv_at hl 1 rfl) ?_
        refine cG C9 V t_o0.1 hf1 rfl tC_lay4 3 (by decide) tCf_X5_9 (Or.inl rfl) rfl dX5_append_41 ?_
        refine lv_iload_n hx hb dX5_append_44 rfl (lv_at hl 0 rfl) ?_
        refine lv_iload_n hx hb dX5_append_45 rfl (lv_at hl 2 rfl) ?_
        refine cSi C9 V hS t1_3.1 hf3 (cq_in hc1 (ci_le c16) (ci_lt c17)) dX5_append_46 (fun f18 H locs ef18 V hS => ?_)
        replace hG := gLt_e hG (view_A hf3 ef18)
        obtain ⟨g19, eg19⟩ : ∃ z, z = upd g3 (Int32.toNatClampNeg x15) (i1) := ⟨_, rfl⟩
        rw [← eg19] at ef18
        have hf20 := up_s ef18
        have I := cI_up I t1_3.2 ef18 (mkN hc1)
        have hf21 := up_n ef18 t1_3.2 t_o0.2 (by first | decide | omega) hf1
        refine lv_aload_n hx hb dX5_append_47 rfl (lv_at hl 1 rfl) ?_
        refine lv_dup hx hb dX5_append_48 rfl ?_
        refine cG C9 V t_o0.1 hf21 rfl tC_lay4 5 (by decide) tCf_X5_48 (Or.inl rfl) rfl dX5_append_49 ?_
        refine lv_iconst (v := 1) hx hb dX5_append_52 (by decide) ?_
        refine lv_iadd hx hb dX5_append_53 ?_
        refine lv_topi (fun x22 ex22 => ?_)
        replace hG := gLt_e hG ex22
        refine cP (v := .int x22) (ty := .int) C9 V hS t_o0.1 hf21 rfl tC_lay4 tyX5 tyX5_ok nmX5 5 (by decide) tCf_X5_48 rfl rfl (by decide +kernel) rfl rfl (Nat.le_of_ble_eq_true rfl) dX5_append_54 (fun f23 H locs ef23 V hS => ?_)
        replace hG := gLt_e hG (view_I hf21 rfl ef23)
        have hf24 : f23 o0 = .inr (4, [.int v1_0, .int v1_1, .ref v1_2, .ref v1_3, .int v1_4, .int x22]) := up_s ef23
        have I := cI_up I t_o0.2 ef23 (mk4 t1_2 t1_3 hc1 h01 h11)
        have hf25 := up_n ef23 t_o0.2 t1_3.2 (by first | decide | omega) hf20
        exact cRetV C9 hr hlk hN hNs V I hS (⟨rfl, hG.symm⟩) dX5_append_57
def FC_X5_isAccepted (X : xS) (o0 : Nat) (i1 : Int32) : Int32 × xS := gLt (xI X o0 5 : Int32) (fun v1_5 => if (v1_5 : Int32) = 0 then (gLt ((xR X o0 2).getD 0 : Nat) (fun v1_2 => gC (FC_X6_first X v1_2) (fun r11 Xf9 => gO (r11) (gLt (xI Xf9 o0 5 : Int32) (fun v13_5 => gLt ((xR Xf9 o0 3).getD 0 : Nat) (fun v13_3 => gLt (xC Xf9 v13_3 : Nat) (fun c13 => if (v13_5 : Int32) = (nI c13) then (((0 : Int32), Xf9)) else (gLt (FC_X5_append Xf9 o0 i1 : xS) (fun Xf16 => ((1 : Int32), Xf16))))))) (fun y12 => gLt (FC_X8_goOnWith Xf9 y12 i1 : xS) (fun Xf20 => ((1 : Int32), Xf20)))))) else (gLt ((xR X o0 3).getD 0 : Nat) (fun v1_3 => gLt (xC X v1_3 : Nat) (fun c1 => if (v1_5 : Int32) = (nI c1) then (((0 : Int32), X)) else (gLt (FC_X5_append X o0 i1 : xS) (fun Xf5 => ((1 : Int32), Xf5)))))))
set_option maxHeartbeats 200000 in
set_option maxRecDepth 100000 in
theorem c_X5_isAccepted (l : Launch) (D : va_G) (ks : kS) (τ : Nat → Nat) (L : List Nat) (A : Nat → Prop) (N : State → Prop) (hN : cNk A N)  (ψ : Int32) (f : Nat → va_E) (o0 : Nat) (i1 : Int32) (t_o0 : ty τ L o0 4) : Met l yX5_isAccepted (Cond.code yX5_isAccepted cX5_isAccepted 3 (some .boolean) :: tC) ({ frames := 3, cells := 0, slots := 0, locals := 64 }) (va_Pc [.ref o0, .int i1] (cB D ks τ L A N (ψ, f))) (va_Qi (fun r9 x9 => (x9.1 = ψ) ∧ (r9, view x9.2) = FC_X5_isAccepted (view f) o0 i1) (cB D ks τ L A N) A) 0 0 A := by
  refine cMet (own := RX5) (by decide) rfl (Nat.le_of_ble_eq_true rfl) ?_
  intro p e s m below meth c ls C9 hml hr hlk V I hNs hl
  have hx := C9.1
  have hb := C9.2.1
  have hown := C9.2.2.1
  have hts := C9.2.2.2.1
  have hS : va_S A s.heap s.heap [] := va_S.rf
  have hG := FC_X5_isAccepted.eq_1 (view f) o0 i1
  have hl : lv_has ls 3 [(0, .ref o0), (1, .int i1)] := hl
  refine lv_aload_n hx hb dX5_isAccepted_0 rfl (lv_at hl 0 rfl) ?_
  obtain ⟨v1_0, v1_1, v1_2, v1_3, v1_4, v1_5, c1, hf1, t1_2, t1_3, hc1, h01, h11⟩ := op4 I t_o0
  refine cG C9 V t_o0.1 hf1 rfl tC_lay4 5 (by decide) tCf_X5_48 (Or.inl rfl) rfl dX5_isAccepted_1 ?_
  replace hG := gLt_e hG (view_gI hf1 rfl)
  refine lv_if_ne (tgt := 17) hx hb dX5_isAccepted_4 (by decide) (fun c2 => ?_) (fun c2 => ?_)
  · replace hG := gIf_n hG c2
    refine lv_null hx hb dX5_isAccepted_17 ?_
    refine lv_astore_nN (lv' := [(2, .null), (0, .ref o0), (1, .int i1)]) hx hb dX5_isAccepted_18 rfl hl (by decide) rfl (fun ls hl => ?_)
    refine lv_aload_nN hx hb dX5_isAccepted_19 rfl (lv_at hl 0 rfl) ?_
    refine lv_ifnullN (tgt := 30) hx hb dX5_isAccepted_20 (by decide) ?_
    refine lv_aload_n hx hb dX5_isAccepted_30 rfl (lv_at hl 1 rfl) ?_
    refine cG C9 V t_o0.1 hf1 rfl tC_lay4 5 (by decide) tCf_X5_48 (Or.inl rfl) rfl dX5_isAccepted_31 ?_
    refine lv_aload_n hx hb dX5_isAccepted_34 rfl (lv_at hl 1 rfl) ?_
    refine cG C9 V t_o0.1 hf1 rfl tC_lay4 3 (by decide) tCf_X5_9 (Or.inl rfl) rfl dX5_isAccepted_35 ?_
    replace hG := gLt_e hG (view_gR hf1 rfl)
    obtain ⟨g3, hf3⟩ := opN I t1_3 hc1
    replace hG := gLt_e hG ((view_l hf3).symm)
    refine cAl (t0 := 1) (v := (nI c1)) C9 V t1_3.1 hf3 rfl (by first | rfl | decide) dX5_isAccepted_38 ?_
    refine lv_icmp_ne (tgt := 44) hx hb dX5_isAccepted_39 (by decide) (fun c4 => ?_) (fun c4 => ?_)
    · replace hG := gIf_n hG c4
      refine lv_aload_n hx hb dX5_isAccepted_44 rfl (lv_at hl 1 rfl) ?_
      refine lv_iload_n hx hb dX5_isAccepted_45 rfl (lv_at hl 2 rfl) ?_
      refine cGoV (cRunV (As := [.int i1]) (rest := []) C9 hml hN hNs V I hS t_o0.1 hf1 rfl (c_X5_append l D ks τ L A N hN  ψ f o0 i1 t_o0 ) gC_X5_64 okC_X5_append ⟨rfl, rfl, Nat.le_of_ble_eq_true rfl, Nat.le_of_ble_eq_true rfl⟩ hl.1 rfl (Nat.le_of_ble_eq_true rfl) dX5_isAccepted_46 ⟨Nat.zero_le _, Nat.zero_le _⟩) hS (fun p6 f5 H locs hqf5 V I hS => ?_)
      obtain ⟨hqf5, ghqf5⟩ := hqf5
      replace hG := gLt_e hG (ghqf5)
      have I : cI ks τ L ψ f5 := by rw [show p6 = ψ from hqf5] at I; exact I
      refine lv_iconst (v := 1) hx hb dX5_isAccepted_49 (by decide) ?_
      exact cRetZ C9 hr hlk hN hNs V I hS (by clear hG V hS hl C9 hts hown hx hb hml hr hlk; first | rfl | decide | (subst_vars; rfl)) (⟨rfl, hG.symm⟩) dX5_isAccepted_50
    · replace hG := gIf_p hG c4
      refine lv_iconst (v := 0) hx hb dX5_isAccepted_42 (by decide) ?_
      exact cRetZ C9 hr hlk hN hNs V I hS (by clear hG V hS hl C9 hts hown hx hb hml hr hlk; first | rfl | decide | (subst_vars; rfl)) (⟨rfl, hG.symm⟩) dX5_isAccepted_43
  · replace hG := gIf_p hG c2
    refine lv_aload_n hx hb dX5_isAccepted_7 rfl (lv_at hl 0 rfl) ?_
    refine cG C9 V t_o0.1 hf1 rfl tC_lay4 2 (by decide) tCf_X5_54 (Or.inr tCs_X5_row) rfl dX5_isAccepted_8 ?_
    replace hG := gLt_e hG (view_gR hf1 rfl)
    obtain ⟨v8_0, v8_1, hf8, hn8, t8_1⟩ := op5 I t1_2
    refine cGoQ (cRunV (As := []) (rest := []) C9 hml hN hNs V I hS t1_2.1 hf8 rfl (c_X6_first l D ks τ L A N hN  ψ f v1_2 t1_2 ) gC_X5_58 okC_X6_first ⟨rfl, rfl, Nat.le_of_ble_eq_true rfl, Nat.le_of_ble_eq_true rfl⟩ hl.1 rfl (Nat.le_of_ble_eq_true rfl) dX5_isAccepted_11 ⟨Nat.zero_le _, Nat.zero_le _⟩) hS (fun r11 p10 f9 H locs hqf9 V I hS => ?_)
    obtain ⟨hqf9, ghqf9⟩ := hqf9
    replace hG := gC_e hG ghqf9
    have I : cI ks τ L ψ f9 := by rw [show p10 = ψ from hqf9.1] at I; exact I
    replace hG := gO_e hG (rfl)
    rcases r11 with _ | y12
    · replace hG := gO_n hG
      refine W.eq (g2 := F0 m 14 ls [.null]) rfl ?_
      refine lv_goto (tgt := 18) hx hb dX5_isAccepted_14 (by decide) ?_
      refine lv_astore_nN (lv' := [(2, .null), (0, .ref o0), (1, .int i1)]) hx hb dX5_isAccepted_18 rfl hl (by decide) rfl (fun ls hl => ?_)
      refine lv_aload_nN hx hb dX5_isAccepted_19 rfl (lv_at hl 0 rfl) ?_
      refine lv_ifnullN (tgt := 30) hx hb dX5_isAccepted_20 (by decide) ?_
      refine lv_aload_n hx hb dX5_isAccepted_30 rfl (lv_at hl 1 rfl) ?_
      obtain ⟨v13_0, v13_1, v13_2, v13_3, v13_4, v13_5, c13, hf13, t13_2, t13_3, hc13, h013, h113⟩ := op4 I t_o0
      refine cG C9 V t_o0.1 hf13 rfl tC_lay4 5 (by decide) tCf_X5_48 (Or.inl rfl) rfl dX5_isAccepted_31 ?_
      replace hG := gLt_e hG (view_gI hf13 rfl)
      refine lv_aload_n hx hb dX5_isAccepted_34 rfl (lv_at hl 1 rfl) ?_
      refine cG C9 V t_o0.1 hf13 rfl tC_lay4 3 (by decide) tCf_X5_9 (Or.inl rfl) rfl dX5_isAccepted_35 ?_
      replace hG := gLt_e hG (view_gR hf13 rfl)
      obtain ⟨g14, hf14⟩ := opN I t13_3 hc13
      replace hG := gLt_e hG ((view_l hf14).symm)
      refine cAl (t0 := 1) (v := (nI c13)) C9 V t13_3.1 hf14 rfl (by first | rfl | decide) dX5_isAccepted_38 ?_
      refine lv_icmp_ne (tgt := 44) hx hb dX5_isAccepted_39 (by decide) (fun c15 => ?_) (fun c15 => ?_)
      · replace hG := gIf_n hG c15
        refine lv_aload_n hx hb dX5_isAccepted_44 rfl (lv_at hl 1 rfl) ?_
        refine lv_iload_n hx hb dX5_isAccepted_45 rfl (lv_at hl 2 rfl) ?_
        refine cGoV (cRunV (As := [.int i1]) (rest := []) C9 hml hN hNs V I hS t_o0.1 hf13 rfl (c_X5_append l D ks τ L A N hN  ψ f9 o0 i1 t_o0 ) gC_X5_64 okC_X5_append ⟨rfl, rfl, Nat.le_of_ble_eq_true rfl, Nat.le_of_ble_eq_true rfl⟩ hl.1 rfl (Nat.le_of_ble_eq_true rfl) dX5_isAccepted_46 ⟨Nat.zero_le _, Nat.zero_le _⟩) hS (fun p17 f16 H locs hqf16 V I hS => ?_)
        obtain ⟨hqf16, ghqf16⟩ := hqf16
        replace hG := gLt_e hG (ghqf16)
        have I : cI ks τ L ψ f16 := by rw [show p17 = ψ from hqf16] at I; exact I
        refine lv_iconst (v := 1) hx hb dX5_isAccepted_49 (by decide) ?_
        exact cRetZ C9 hr hlk hN hNs V I hS (by clear hG V hS hl C9 hts hown hx hb hml hr hlk; first | rfl | decide | (subst_vars; rfl)) (⟨rfl, hG.symm⟩) dX5_isAccepted_50
      · replace hG := gIf_p hG c15
        refine lv_iconst (v := 0) hx hb dX5_isAccepted_42 (by decide) ?_
        exact cRetZ C9 hr hlk hN hNs V I hS (by clear hG V hS hl C9 hts hown hx hb hml hr hlk; first | rfl | decide | (subst_vars; rfl)) (⟨rfl, hG.symm⟩) dX5_isAccepted_43
    · replace hG := gO_s hG
      have hy12 := hqf9.2 y12 rfl
      refine W.eq (g2 := F0 m 14 ls [.ref y12]) rfl ?_
      refine lv_goto (tgt := 18) hx hb dX5_isAccepted_14 (by decide) ?_
      refine lv_astore_n (lv' := [(2, .ref y12), (0, .ref o0), (1, .int i1)]) hx hb dX5_isAccepted_18 rfl hl (by decide) rfl (fun ls hl => ?_)
      refine lv_aload_n hx hb dX5_isAccepted_19 rfl (lv_at hl 0 rfl) ?_
      refine lv_ifnull hx hb dX5_isAccepted_20 ?_
      refine lv_aload_n hx hb dX5_isAccepted_23 rfl (lv_at hl 0 rfl) ?_
      refine lv_iload_n hx hb dX5_isAccepted_24 rfl (lv_at hl 2 rfl) ?_
      obtain ⟨v19_0, v19_1, v19_2, v19_3, v19_4, v19_5, v19_6, v19_7, v19_8, v19_9, v19_10, v19_11, v19_12, hf19, t19_7, t19_8, t19_11⟩ := op7 I hy12
      refine cGoV (cRunV (As := [.int i1]) (rest := []) C9 hml hN hNs V I hS hy12.1 hf19 rfl (c_X8_goOnWith l D ks τ L A N hN  ψ f9 y12 i1 hy12 ) gC_X5_44 okC_X8_goOnWith ⟨rfl, rfl, Nat.le_of_ble_eq_true rfl, Nat.le_of_ble_eq_true rfl⟩ hl.1 rfl (Nat.le_of_ble_eq_true rfl) dX5_isAccepted_25 ⟨Nat.zero_le _, Nat.zero_le _⟩) hS (fun p21 f20 H locs hqf20 V I hS => ?_)
      obtain ⟨hqf20, ghqf20⟩ := hqf20
      replace hG := gLt_e hG (ghqf20)
      have I : cI ks τ L ψ f20 := by rw [show p21 = ψ from hqf20] at I; exact I
      refine lv_iconst (v := 1) hx hb dX5_isAccepted_28 (by decide) ?_
      exact cRetZ C9 hr hlk hN hNs V I hS (by clear hG V hS hl C9 hts hown hx hb hml hr hlk; first | rfl | decide | (subst_vars; rfl)) (⟨rfl, hG.symm⟩) dX5_isAccepted_29
def FC_X5_takenOut (X : xS) (o0 : Nat) : Int32 × xS := gLt (xI X o0 4 : Int32) (fun v1_4 => gLt ((xR X o0 3).getD 0 : Nat) (fun v1_3 => gLt (xC X v1_3 : Nat) (fun c1 => if (nI c1) ≤ (v1_4 : Int32) then (gLt (0 : Int32) (fun x4 => if (nI c1) ≤ ((v1_4 + 1) : Int32) then (gLt (xwI X o0 4 0 : xS) (fun Xf6 => gLt (xI Xf6 o0 5 : Int32) (fun v1_5 => gLt ((v1_5 - 1) : Int32) (fun x10 => gLt (xwI Xf6 o0 5 x10 : xS) (fun Xf11 => gLt ((xR Xf11 o0 2).getD 0 : Nat) (fun v1_2 => gC (FC_X6_first Xf11 v1_2) (fun r17 Xf15 => gO (r17) (((x4 : Int32), Xf15)) (fun y18 => gLt (xI Xf15 y18 2 : Int32) (fun v19_2 => gLt (FC_X5_append Xf15 o0 v19_2 : xS) (fun Xf21 => gLt (FC_X8_goOn Xf21 y18 : xS) (fun Xf25 => ((x4 : Int32), Xf25)))))))))))) else (gLt ((v1_4 + 1) : Int32) (fun x28 => gLt (xwI X o0 4 x28 : xS) (fun Xf29 => gLt (xI Xf29 o0 5 : Int32) (fun v1_5 => gLt ((v1_5 - 1) : Int32) (fun x33 => gLt (xwI Xf29 o0 5 x33 : xS) (fun Xf34 => gLt ((xR Xf34 o0 2).getD 0 : Nat) (fun v1_2 => gC (FC_X6_first Xf34 v1_2) (fun r40 Xf38 => gO (r40) (((x4 : Int32), Xf38)) (fun y41 => gLt (xI Xf38 y41 2 : Int32) (fun v42_2 => gLt (FC_X5_append Xf38 o0 v42_2 : xS) (fun Xf44 => gLt (FC_X8_goOn Xf44 y41 : xS) (fun Xf48 => ((x4 : Int32), Xf48))))))))))))))) else (gLt (xA X v1_3 v1_4 : Int32) (fun x51 => if (nI c1) ≤ ((v1_4 + 1) : Int32) then (gLt (xwI X o0 4 0 : xS) (fun Xf53 => gLt (xI Xf53 o0 5 : Int32) (fun v1_5 => gLt ((v1_5 - 1) : Int32) (fun x57 => gLt (xwI Xf53 o0 5 x57 : xS) (fun Xf58 => gLt ((xR Xf58 o0 2).getD 0 : Nat) (fun v1_2 => gC (FC_X6_first Xf58 v1_2) (fun r64 Xf62 => gO (r64) (((x51 : Int32), Xf62)) (fun y65 => gLt (xI Xf62 y65 2 : Int32) (fun v66_2 => gLt (FC_X5_append Xf62 o0 v66_2 : xS) (fun Xf68 => gLt (FC_X8_goOn Xf68 y65 : xS) (fun Xf72 => ((x51 : Int32), Xf72)))))))))))) else (gLt ((v1_4 + 1) : Int32) (fun x75 => gLt (xwI X o0 4 x75 : xS) (fun Xf76 => gLt (xI Xf76 o0 5 : Int32) (fun v1_5 => gLt ((v1_5 - 1) : Int32) (fun x80 => gLt (xwI Xf76 o0 5 x80 : xS) (fun Xf81 => gLt ((xR Xf81 o0 2).getD 0 : Nat) (fun v1_2 => gC (FC_X6_first Xf81 v1_2) (fun r87 Xf85 => gO (r87) (((x51 : Int32), Xf85)) (fun y88 => gLt (xI Xf85 y88 2 : Int32) (fun v89_2 => gLt (FC_X5_append Xf85 o0 v89_2 : xS) (fun Xf91 => gLt (FC_X8_goOn Xf91 y88 : xS) (fun Xf95 => ((x51 : Int32), Xf95))))))))))))))))))
set_option maxHeartbeats 200000 in
set_option maxRecDepth 100000 in
theorem c_X5_takenOut (l : Launch) (D : va_G) (ks : kS) (τ : Nat → Nat) (L : List Nat) (A : Nat → Prop) (N : State → Prop) (hN : cNk A N)  (ψ : Int32) (f : Nat → va_E) (o0 : Nat) (t_o0 : ty τ L o0 4) : Met l yX5_takenOut (Cond.code yX5_takenOut cX5_takenOut 3 (some .int) :: tC) ({ frames := 2, cells := 0, slots := 0, locals := 43 }) (va_Pc [.ref o0] (cB D ks τ L A N (ψ, f))) (va_Qi (fun r9 x9 => (x9.1 = ψ) ∧ (r9, view x9.2) = FC_X5_takenOut (view f) o0) (cB D ks τ L A N) A) 0 0 A := by
  refine cMet (own := RX5) (by decide) rfl (Nat.le_of_ble_eq_true rfl) ?_
  intro p e s m below meth c ls C9 hml hr hlk V I hNs hl
  have hx := C9.1
  have hb := C9.2.1
  have hown := C9.2.2.1
  have hts := C9.2.2.2.1
  have hS : va_S A s.heap s.heap [] := va_S.rf
  have hG := FC_X5_takenOut.eq_1 (view f) o0
  have hl : lv_has ls 3 [(0, .ref o0)] := hl
  refine lv_aload_n hx hb dX5_takenOut_0 rfl (lv_at hl 0 rfl) ?_
  obtain ⟨v1_0, v1_1, v1_2, v1_3, v1_4, v1_5, c1, hf1, t1_2, t1_3, hc1, h01, h11⟩ := op4 I t_o0
  refine cG C9 V t_o0.1 hf1 rfl tC_lay4 4 (by decide) tCf_X5_67 (Or.inl rfl) rfl dX5_takenOut_1 ?_
  replace hG := gLt_e hG (view_gI hf1 rfl)
  refine lv_aload_n hx hb dX5_takenOut_4 rfl (lv_at hl 0 rfl) ?_
  refine cG C9 V t_o0.1 hf1 rfl tC_lay4 3 (by decide) tCf_X5_9 (Or.inl rfl) rfl dX5_takenOut_5 ?_
  replace hG := gLt_e hG (view_gR hf1 rfl)
  obtain ⟨g2, hf2⟩ := opN I t1_3 hc1
  replace hG := gLt_e hG ((view_l hf2).symm)
  refine cAl (t0 := 1) (v := (nI c1)) C9 V t1_3.1 hf2 rfl (by first | rfl | decide) dX5_takenOut_8 ?_
  refine lv_icmp_ge (tgt := 24) hx hb dX5_takenOut_9 (by decide) (fun c3 => ?_) (fun c3 => ?_)
  · replace hG := gIf_p hG c3
    refine lv_iconst (v := 0) hx hb dX5_takenOut_24 (by decide) ?_
    refine lv_topi (fun x4 ex4 => ?_)
    replace hG := gLt_e hG ex4
    refine lv_istore_n (lv' := [(1, .int x4), (0, .ref o0)]) hx hb dX5_takenOut_25 rfl hl (by decide) rfl (fun ls hl => ?_)
    refine lv_aload_n hx hb dX5_takenOut_26 rfl (lv_at hl 1 rfl) ?_
    refine lv_aload_n hx hb dX5_takenOut_27 rfl (lv_at hl 1 rfl) ?_
    refine cG C9 V t_o0.1 hf1 rfl tC_lay4 4 (by decide) tCf_X5_67 (Or.inl rfl) rfl dX5_takenOut_28 ?_
    refine lv_iconst (v := 1) hx hb dX5_takenOut_31 (by decide) ?_
    refine lv_iadd hx hb dX5_takenOut_32 ?_
    refine lv_aload_n hx hb dX5_takenOut_33 rfl (lv_at hl 1 rfl) ?_
    refine cG C9 V t_o0.1 hf1 rfl tC_lay4 3 (by decide) tCf_X5_9 (Or.inl rfl) rfl dX5_takenOut_34 ?_
    refine cAl (t0 := 1) (v := (nI c1)) C9 V t1_3.1 hf2 rfl (by first | rfl | decide) dX5_takenOut_37 ?_
    refine lv_icmp_ge (tgt := 50) hx hb dX5_takenOut_38 (by decide) (fun c5 => ?_) (fun c5 => ?_)
    · replace hG := gIf_p hG c5
      refine lv_iconst (v := 0) hx hb dX5_takenOut_50 (by decide) ?_
      refine cP (v := .int 0) (ty := .int) C9 V hS t_o0.1 hf1 rfl tC_lay4 tyX5 tyX5_ok nmX5 4 (by decide) tCf_X5_67 rfl rfl (by decide +kernel) rfl rfl (Nat.le_of_ble_eq_true rfl) dX5_takenOut_51 (fun f6 H locs ef6 V hS => ?_)
      replace hG := gLt_e hG (view_I hf1 rfl ef6)
      have hf7 : f6 o0 = .inr (4, [.int v1_0, .int v1_1, .ref v1_2, .ref v1_3, .int 0, .int v1_5]) := up_s ef6
      have hh8 := (show _ ∧ _ from by first | exact cq_h nope9 h01 h11 hc1 c5 | exact cq_0 hc1)
      have h08 := hh8.1
      have h18 := hh8.2
      have hc8 := hc1
      have I := cI_up I t_o0.2 ef6 (mk4 t1_2 t1_3 hc8 h08 h18)
      have hf9 := up_n ef6 t_o0.2 t1_3.2 (by first | decide | omega) hf2
      refine lv_aload_n hx hb dX5_takenOut_54 rfl (lv_at hl 1 rfl) ?_
      refine lv_dup hx hb dX5_takenOut_55 rfl ?_
      refine cG C9 V t_o0.1 hf7 rfl tC_lay4 5 (by decide) tCf_X5_48 (Or.inl rfl) rfl dX5_takenOut_56 ?_
      replace hG := gLt_e hG (view_gI hf7 rfl)
      refine lv_iconst (v := 1) hx hb dX5_takenOut_59 (by decide) ?_
      refine lv_isub hx hb dX5_takenOut_60 ?_
      refine lv_topi (fun x10 ex10 => ?_)
      replace hG := gLt_e hG ex10
      refine cP (v := .int x10) (ty := .int) C9 V hS t_o0.1 hf7 rfl tC_lay4 tyX5 tyX5_ok nmX5 5 (by decide) tCf_X5_48 rfl rfl (by decide +kernel) rfl rfl (Nat.le_of_ble_eq_true rfl) dX5_takenOut_61 (fun f11 H locs ef11 V hS => ?_)
      replace hG := gLt_e hG (view_I hf7 rfl ef11)
      have hf12 : f11 o0 = .inr (4, [.int v1_0, .int v1_1, .ref v1_2, .ref v1_3, .int 0, .int x10]) := up_s ef11
      have I := cI_up I t_o0.2 ef11 (mk4 t1_2 t1_3 hc8 h08 h18)
      have hf13 := up_n ef11 t_o0.2 t1_3.2 (by first | decide | omega) hf9
      refine lv_aload_n hx hb dX5_takenOut_64 rfl (lv_at hl 1 rfl) ?_
      refine cG C9 V t_o0.1 hf12 rfl tC_lay4 2 (by decide) tCf_X5_54 (Or.inr tCs_X5_row) rfl dX5_takenOut_65 ?_
      replace hG := gLt_e hG (view_gR hf12 rfl)
      obtain ⟨v14_0, v14_1, hf14, hn14, t14_1⟩ := op5 I t1_2
      refine cGoQ (cRunV (As := []) (rest := []) C9 hml hN hNs V I hS t1_2.1 hf14 rfl (c_X6_first l D ks τ L A N hN  ψ f11 v1_2 t1_2 ) gC_X5_58 okC_X6_first ⟨rfl, rfl, Nat.le_of_ble_eq_true rfl, Nat.le_of_ble_eq_true rfl⟩ hl.1 rfl (Nat.le_of_ble_eq_true rfl) dX5_takenOut_68 ⟨Nat.zero_le _, Nat.zero_le _⟩) hS (fun r17 p16 f15 H locs hqf15 V I hS => ?_)
      obtain ⟨hqf15, ghqf15⟩ := hqf15
      replace hG := gC_e hG ghqf15
      have I : cI ks τ L ψ f15 := by rw [show p16 = ψ from hqf15.1] at I; exact I
      replace hG := gO_e hG (rfl)
      rcases r17 with _ | y18
      · replace hG := gO_n hG
        refine W.eq (g2 := F0 m 71 ls [.null]) rfl ?_
        refine lv_astore_nN (lv' := [(2, .null), (1, .int x4), (0, .ref o0)]) hx hb dX5_takenOut_71 rfl hl (by decide) rfl (fun ls hl => ?_)
        refine lv_aload_nN hx hb dX5_takenOut_72 rfl (lv_at hl 0 rfl) ?_
        refine lv_ifnullN (tgt := 88) hx hb dX5_takenOut_73 (by decide) ?_
        refine lv_iload_n hx hb dX5_takenOut_88 rfl (lv_at hl 1 rfl) ?_
        exact cRetI C9 hr hlk hN hNs V I hS (⟨rfl, hG.symm⟩) dX5_takenOut_89
      · replace hG := gO_s hG
        have hy18 := hqf15.2 y18 rfl
        refine W.eq (g2 := F0 m 71 ls [.ref y18]) rfl ?_
        refine lv_astore_n (lv' := [(2, .ref y18), (1, .int x4), (0, .ref o0)]) hx hb dX5_takenOut_71 rfl hl (by decide) rfl (fun ls hl => ?_)
        refine lv_aload_n hx hb dX5_takenOut_72 rfl (lv_at hl 0 rfl) ?_
        refine lv_ifnull hx hb dX5_takenOut_73 ?_
        refine lv_aload_n hx hb dX5_takenOut_76 rfl (lv_at hl 2 rfl) ?_
        refine lv_aload_n hx hb dX5_takenOut_77 rfl (lv_at hl 0 rfl) ?_
        obtain ⟨v19_0, v19_1, v19_2, v19_3, v19_4, v19_5, v19_6, v19_7, v19_8, v19_9, v19_10, v19_11, v19_12, hf19, t19_7, t19_8, t19_11⟩ := op7 I hy18
        refine cG C9 V hy18.1 hf19 rfl tC_lay7 2 (by decide) tCf_X5_26 (Or.inl rfl) rfl dX5_takenOut_78 ?_
        replace hG := gLt_e hG (view_gI hf19 rfl)
        obtain ⟨v20_0, v20_1, v20_2, v20_3, v20_4, v20_5, c20, hf20, t20_2, t20_3, hc20, h020, h120⟩ := op4 I t_o0
        refine cGoV (cRunV (As := [.int v19_2]) (rest := []) C9 hml hN hNs V I hS t_o0.1 hf20 rfl (c_X5_append l D ks τ L A N hN  ψ f15 o0 v19_2 t_o0 ) gC_X5_64 okC_X5_append ⟨rfl, rfl, Nat.le_of_ble_eq_true rfl, Nat.le_of_ble_eq_true rfl⟩ hl.1 rfl (Nat.le_of_ble_eq_true rfl) dX5_takenOut_81 ⟨Nat.zero_le _, Nat.zero_le _⟩) hS (fun p22 f21 H locs hqf21 V I hS => ?_)
        obtain ⟨hqf21, ghqf21⟩ := hqf21
        replace hG := gLt_e hG (ghqf21)
        have I : cI ks τ L ψ f21 := by rw [show p22 = ψ from hqf21] at I; exact I
        refine lv_aload_n hx hb dX5_takenOut_84 rfl (lv_at hl 0 rfl) ?_
        obtain ⟨v24_0, v24_1, v24_2, v24_3, v24_4, v24_5, v24_6, v24_7, v24_8, v24_9, v24_10, v24_11, v24_12, hf24, t24_7, t24_8, t24_11⟩ := op7 I hy18
        refine cGoV (cRunV (As := []) (rest := []) C9 hml hN hNs V I hS hy18.1 hf24 rfl (c_X8_goOn l D ks τ L A N hN  ψ f21 y18 hy18 ) gC_X5_36 okC_X8_goOn ⟨rfl, rfl, Nat.le_of_ble_eq_true rfl, Nat.le_of_ble_eq_true rfl⟩ hl.1 rfl (Nat.le_of_ble_eq_true rfl) dX5_takenOut_85 ⟨Nat.zero_le _, Nat.zero_le _⟩) hS (fun p26 f25 H locs hqf25 V I hS => ?_)
        obtain ⟨hqf25, ghqf25⟩ := hqf25
        replace hG := gLt_e hG (ghqf25)
        have I : cI ks τ L ψ f25 := by rw [show p26 = ψ from hqf25] at I; exact I
        refine lv_iload_n hx hb dX5_takenOut_88 rfl (lv_at hl 1 rfl) ?_
        exact cRetI C9 hr hlk hN hNs V I hS (⟨rfl, hG.symm⟩) dX5_takenOut_89
    · replace hG := gIf_n hG c5
      refine lv_aload_n hx hb dX5_takenOut_41 rfl (lv_at hl 1 rfl) ?_
      refine cG C9 V t_o0.1 hf1 rfl tC_lay4 4 (by decide) tCf_X5_67 (Or.inl rfl) rfl dX5_takenOut_42 ?_
      refine lv_iconst (v := 1) hx hb dX5_takenOut_45 (by decide) ?_
      refine lv_iadd hx hb dX5_takenOut_46 ?_
      refine lv_goto (tgt := 51) hx hb dX5_takenOut_47 (by decide) ?_
      refine lv_topi (fun x28 ex28 => ?_)
      replace hG := gLt_e hG ex28
      refine cP (v := .int x28) (ty := .int) C9 V hS t_o0.1 hf1 rfl tC_lay4 tyX5 tyX5_ok nmX5 4 (by decide) tCf_X5_67 rfl rfl (by decide +kernel) rfl rfl (Nat.le_of_ble_eq_true rfl) dX5_takenOut_51 (fun f29 H locs ef29 V hS => ?_)
      replace hG := gLt_e hG (view_I hf1 rfl ef29)
      have hf30 : f29 o0 = .inr (4, [.int v1_0, .int v1_1, .ref v1_2, .ref v1_3, .int x28, .int v1_5]) := up_s ef29
      have hh31 := (show _ ∧ _ from by first | exact cq_h ex28 h01 h11 hc1 c5 | exact cq_0 hc1)
      have h031 := hh31.1
      have h131 := hh31.2
      have hc31 := hc1
      have I := cI_up I t_o0.2 ef29 (mk4 t1_2 t1_3 hc31 h031 h131)
      have hf32 := up_n ef29 t_o0.2 t1_3.2 (by first | decide | omega) hf2
      refine lv_aload_n hx hb dX5_takenOut_54 rfl (lv_at hl 1 rfl) ?_
      refine lv_dup hx hb dX5_takenOut_55 rfl ?_
      refine cG C9 V t_o0.1 hf30 rfl tC_lay4 5 (by decide) tCf_X5_48 (Or.inl rfl) rfl dX5_takenOut_56 ?_
      replace hG := gLt_e hG (view_gI hf30 rfl)
      refine lv_iconst (v := 1) hx hb dX5_takenOut_59 (by decide) ?_
      refine lv_isub hx hb dX5_takenOut_60 ?_
      refine lv_topi (fun x33 ex33 => ?_)
      replace hG := gLt_e hG ex33
      refine cP (v := .int x33) (ty := .int) C9 V hS t_o0.1 hf30 rfl tC_lay4 tyX5 tyX5_ok nmX5 5 (by decide) tCf_X5_48 rfl rfl (by decide +kernel) rfl rfl (Nat.le_of_ble_eq_true rfl) dX5_takenOut_61 (fun f34 H locs ef34 V hS => ?_)
      replace hG := gLt_e hG (view_I hf30 rfl ef34)
      have hf35 : f34 o0 = .inr (4, [.int v1_0, .int v1_1, .ref v1_2, .ref v1_3, .int x28, .int x33]) := up_s ef34
      have I := cI_up I t_o0.2 ef34 (mk4 t1_2 t1_3 hc31 h031 h131)
      have hf36 := up_n ef34 t_o0.2 t1_3.2 (by first | decide | omega) hf32
      refine lv_aload_n hx hb dX5_takenOut_64 rfl (lv_at hl 1 rfl) ?_
      refine cG C9 V t_o0.1 hf35 rfl tC_lay4 2 (by decide) tCf_X5_54 (Or.inr tCs_X5_row) rfl dX5_takenOut_65 ?_
      replace hG := gLt_e hG (view_gR hf35 rfl)
      obtain ⟨v37_0, v37_1, hf37, hn37, t37_1⟩ := op5 I t1_2
      refine cGoQ (cRunV (As := []) (rest := []) C9 hml hN hNs V I hS t1_2.1 hf37 rfl (c_X6_first l D ks τ L A N hN  ψ f34 v1_2 t1_2 ) gC_X5_58 okC_X6_first ⟨rfl, rfl, Nat.le_of_ble_eq_true rfl, Nat.le_of_ble_eq_true rfl⟩ hl.1 rfl (Nat.le_of_ble_eq_true rfl) dX5_takenOut_68 ⟨Nat.zero_le _, Nat.zero_le _⟩) hS (fun r40 p39 f38 H locs hqf38 V I hS => ?_)
      obtain ⟨hqf38, ghqf38⟩ := hqf38
      replace hG := gC_e hG ghqf38
      have I : cI ks τ L ψ f38 := by rw [show p39 = ψ from hqf38.1] at I; exact I
      replace hG := gO_e hG (rfl)
      rcases r40 with _ | y41
      · replace hG := gO_n hG
        refine W.eq (g2 := F0 m 71 ls [.null]) rfl ?_
        refine lv_astore_nN (lv' := [(2, .null), (1, .int x4), (0, .ref o0)]) hx hb dX5_takenOut_71 rfl hl (by decide) rfl (fun ls hl => ?_)
        refine lv_aload_nN hx hb dX5_takenOut_72 rfl (lv_at hl 0 rfl) ?_
        refine lv_ifnullN (tgt := 88) hx hb dX5_takenOut_73 (by decide) ?_
        refine lv_iload_n hx hb dX5_takenOut_88 rfl (lv_at hl 1 rfl) ?_
        exact cRetI C9 hr hlk hN hNs V I hS (⟨rfl, hG.symm⟩) dX5_takenOut_89
      · replace hG := gO_s hG
        have hy41 := hqf38.2 y41 rfl
        refine W.eq (g2 := F0 m 71 ls [.ref y41]) rfl ?_
        refine lv_astore_n (lv' := [(2, .ref y41), (1, .int x4), (0, .ref o0)]) hx hb dX5_takenOut_71 rfl hl (by decide) rfl (fun ls hl => ?_)
        refine lv_aload_n hx hb dX5_takenOut_72 rfl (lv_at hl 0 rfl) ?_
        refine lv_ifnull hx hb dX5_takenOut_73 ?_
        refine lv_aload_n hx hb dX5_takenOut_76 rfl (lv_at hl 2 rfl) ?_
        refine lv_aload_n hx hb dX5_takenOut_77 rfl (lv_at hl 0 rfl) ?_
        obtain ⟨v42_0, v42_1, v42_2, v42_3, v42_4, v42_5, v42_6, v42_7, v42_8, v42_9, v42_10, v42_11, v42_12, hf42, t42_7, t42_8, t42_11⟩ := op7 I hy41
        refine cG C9 V hy41.1 hf42 rfl tC_lay7 2 (by decide) tCf_X5_26 (Or.inl rfl) rfl dX5_takenOut_78 ?_
        replace hG := gLt_e hG (view_gI hf42 rfl)
        obtain ⟨v43_0, v43_1, v43_2, v43_3, v43_4, v43_5, c43, hf43, t43_2, t43_3, hc43, h043, h143⟩ := op4 I t_o0
        refine cGoV (cRunV (As := [.int v42_2]) (rest := []) C9 hml hN hNs V I hS t_o0.1 hf43 rfl (c_X5_append l D ks τ L A N hN  ψ f38 o0 v42_2 t_o0 ) gC_X5_64 okC_X5_append ⟨rfl, rfl, Nat.le_of_ble_eq_true rfl, Nat.le_of_ble_eq_true rfl⟩ hl.1 rfl (Nat.le_of_ble_eq_true rfl) dX5_takenOut_81 ⟨Nat.zero_le _, Nat.zero_le _⟩) hS (fun p45 f44 H locs hqf44 V I hS => ?_)
        obtain ⟨hqf44, ghqf44⟩ := hqf44
        replace hG := gLt_e hG (ghqf44)
        have I : cI ks τ L ψ f44 := by rw [show p45 = ψ from hqf44] at I; exact I
        refine lv_aload_n hx hb dX5_takenOut_84 rfl (lv_at hl 0 rfl) ?_
        obtain ⟨v47_0, v47_1, v47_2, v47_3, v47_4, v47_5, v47_6, v47_7, v47_8, v47_9, v47_10, v47_11, v47_12, hf47, t47_7, t47_8, t47_11⟩ := op7 I hy41
        refine cGoV (cRunV (As := []) (rest := []) C9 hml hN hNs V I hS hy41.1 hf47 rfl (c_X8_goOn l D ks τ L A N hN  ψ f44 y41 hy41 ) gC_X5_36 okC_X8_goOn ⟨rfl, rfl, Nat.le_of_ble_eq_true rfl, Nat.le_of_ble_eq_true rfl⟩ hl.1 rfl (Nat.le_of_ble_eq_true rfl) dX5_takenOut_85 ⟨Nat.zero_le _, Nat.zero_le _⟩) hS (fun p49 f48 H locs hqf48 V I hS => ?_)
        obtain ⟨hqf48, ghqf48⟩ := hqf48
        replace hG := gLt_e hG (ghqf48)
        have I : cI ks τ L ψ f48 := by rw [show p49 = ψ from hqf48] at I; exact I
        refine lv_iload_n hx hb dX5_takenOut_88 rfl (lv_at hl 1 rfl) ?_
        exact cRetI C9 hr hlk hN hNs V I hS (⟨rfl, hG.symm⟩) dX5_takenOut_89
  · replace hG := gIf_n hG c3
    refine lv_aload_n hx hb dX5_takenOut_12 rfl (lv_at hl 0 rfl) ?_
    refine cG C9 V t_o0.1 hf1 rfl tC_lay4 3 (by decide) tCf_X5_9 (Or.inl rfl) rfl dX5_takenOut_13 ?_
    refine lv_aload_n hx hb dX5_takenOut_16 rfl (lv_at hl 0 rfl) ?_
    refine cG C9 V t_o0.1 hf1 rfl tC_lay4 4 (by decide) tCf_X5_67 (Or.inl rfl) rfl dX5_takenOut_17 ?_
    refine cLi C9 V t1_3.1 hf2 (cq_in hc1 h01 h11) dX5_takenOut_20 ?_
    refine lv_topi (fun x51 ex51 => ?_)
    replace hG := gLt_e hG (ex51.trans (view_gA hf2))
    refine lv_goto (tgt := 25) hx hb dX5_takenOut_21 (by decide) ?_
    refine lv_istore_n (lv' := [(1, .int x51), (0, .ref o0)]) hx hb dX5_takenOut_25 rfl hl (by decide) rfl (fun ls hl => ?_)
    refine lv_aload_n hx hb dX5_takenOut_26 rfl (lv_at hl 1 rfl) ?_
    refine lv_aload_n hx hb dX5_takenOut_27 rfl (lv_at hl 1 rfl) ?_
    refine cG C9 V t_o0.1 hf1 rfl tC_lay4 4 (by decide) tCf_X5_67 (Or.inl rfl) rfl dX5_takenOut_28 ?_
    refine lv_iconst (v := 1) hx hb dX5_takenOut_31 (by decide) ?_
    refine lv_iadd hx hb dX5_takenOut_32 ?_
    refine lv_aload_n hx hb dX5_takenOut_33 rfl (lv_at hl 1 rfl) ?_
    refine cG C9 V t_o0.1 hf1 rfl tC_lay4 3 (by decide) tCf_X5_9 (Or.inl rfl) rfl dX5_takenOut_34 ?_
    refine cAl (t0 := 1) (v := (nI c1)) C9 V t1_3.1 hf2 rfl (by first | rfl | decide) dX5_takenOut_37 ?_
    refine lv_icmp_ge (tgt := 50) hx hb dX5_takenOut_38 (by decide) (fun c52 => ?_) (fun c52 => ?_)
    · replace hG := gIf_p hG c52
      refine lv_iconst (v := 0) hx hb dX5_takenOut_50 (by decide) ?_
      refine cP (v := .int 0) (ty := .int) C9 V hS t_o0.1 hf1 rfl tC_lay4 tyX5 tyX5_ok nmX5 4 (by decide) tCf_X5_67 rfl rfl (by decide +kernel) rfl rfl (Nat.le_of_ble_eq_true rfl) dX5_takenOut_51 (fun f53 H locs ef53 V hS => ?_)
      replace hG := gLt_e hG (view_I hf1 rfl ef53)
      have hf54 : f53 o0 = .inr (4, [.int v1_0, .int v1_1, .ref v1_2, .ref v1_3, .int 0, .int v1_5]) := up_s ef53
      have hh55 := (show _ ∧ _ from by first | exact cq_h nope9 h01 h11 hc1 c52 | exact cq_0 hc1)
      have h055 := hh55.1
      have h155 := hh55.2
      have hc55 := hc1
      have I := cI_up I t_o0.2 ef53 (mk4 t1_2 t1_3 hc55 h055 h155)
      have hf56 := up_n ef53 t_o0.2 t1_3.2 (by first | decide | omega) hf2
      refine lv_aload_n hx hb dX5_takenOut_54 rfl (lv_at hl 1 rfl) ?_
      refine lv_dup hx hb dX5_takenOut_55 rfl ?_
      refine cG C9 V t_o0.1 hf54 rfl tC_lay4 5 (by decide) tCf_X5_48 (Or.inl rfl) rfl dX5_takenOut_56 ?_
      replace hG := gLt_e hG (view_gI hf54 rfl)
      refine lv_iconst (v := 1) hx hb dX5_takenOut_59 (by decide) ?_
      refine lv_isub hx hb dX5_takenOut_60 ?_
      refine lv_topi (fun x57 ex57 => ?_)
      replace hG := gLt_e hG ex57
      refine cP (v := .int x57) (ty := .int) C9 V hS t_o0.1 hf54 rfl tC_lay4 tyX5 tyX5_ok nmX5 5 (by decide) tCf_X5_48 rfl rfl (by decide +kernel) rfl rfl (Nat.le_of_ble_eq_true rfl) dX5_takenOut_61 (fun f58 H locs ef58 V hS => ?_)
      replace hG := gLt_e hG (view_I hf54 rfl ef58)
      have hf59 : f58 o0 = .inr (4, [.int v1_0, .int v1_1, .ref v1_2, .ref v1_3, .int 0, .int x57]) := up_s ef58
      have I := cI_up I t_o0.2 ef58 (mk4 t1_2 t1_3 hc55 h055 h155)
      have hf60 := up_n ef58 t_o0.2 t1_3.2 (by first | decide | omega) hf56
      refine lv_aload_n hx hb dX5_takenOut_64 rfl (lv_at hl 1 rfl) ?_
      refine cG C9 V t_o0.1 hf59 rfl tC_lay4 2 (by decide) tCf_X5_54 (Or.inr tCs_X5_row) rfl dX5_takenOut_65 ?_
      replace hG := gLt_e hG (view_gR hf59 rfl)
      obtain ⟨v61_0, v61_1, hf61, hn61, t61_1⟩ := op5 I t1_2
      refine cGoQ (cRunV (As := []) (rest := []) C9 hml hN hNs V I hS t1_2.1 hf61 rfl (c_X6_first l D ks τ L A N hN  ψ f58 v1_2 t1_2 ) gC_X5_58 okC_X6_first ⟨rfl, rfl, Nat.le_of_ble_eq_true rfl, Nat.le_of_ble_eq_true rfl⟩ hl.1 rfl (Nat.le_of_ble_eq_true rfl) dX5_takenOut_68 ⟨Nat.zero_le _, Nat.zero_le _⟩) hS (fun r64 p63 f62 H locs hqf62 V I hS => ?_)
      obtain ⟨hqf62, ghqf62⟩ := hqf62
      replace hG := gC_e hG ghqf62
      have I : cI ks τ L ψ f62 := by rw [show p63 = ψ from hqf62.1] at I; exact I
      replace hG := gO_e hG (rfl)
      rcases r64 with _ | y65
      · replace hG := gO_n hG
        refine W.eq (g2 := F0 m 71 ls [.null]) rfl ?_
        refine lv_astore_nN (lv' := [(2, .null), (1, .int x51), (0, .ref o0)]) hx hb dX5_takenOut_71 rfl hl (by decide) rfl (fun ls hl => ?_)
        refine lv_aload_nN hx hb dX5_takenOut_72 rfl (lv_at hl 0 rfl) ?_
        refine lv_ifnullN (tgt := 88) hx hb dX5_takenOut_73 (by decide) ?_
        refine lv_iload_n hx hb dX5_takenOut_88 rfl (lv_at hl 1 rfl) ?_
        exact cRetI C9 hr hlk hN hNs V I hS (⟨rfl, hG.symm⟩) dX5_takenOut_89
      · replace hG := gO_s hG
        have hy65 := hqf62.2 y65 rfl
        refine W.eq (g2 := F0 m 71 ls [.ref y65]) rfl ?_
        refine lv_astore_n (lv' := [(2, .ref y65), (1, .int x51), (0, .ref o0)]) hx hb dX5_takenOut_71 rfl hl (by decide) rfl (fun ls hl => ?_)
        refine lv_aload_n hx hb dX5_takenOut_72 rfl (lv_at hl 0 rfl) ?_
        refine lv_ifnull hx hb dX5_takenOut_73 ?_
        refine lv_aload_n hx hb dX5_takenOut_76 rfl (lv_at hl 2 rfl) ?_
        refine lv_aload_n hx hb dX5_takenOut_77 rfl (lv_at hl 0 rfl) ?_
        obtain ⟨v66_0, v66_1, v66_2, v66_3, v66_4, v66_5, v66_6, v66_7, v66_8, v66_9, v66_10, v66_11, v66_12, hf66, t66_7, t66_8, t66_11⟩ := op7 I hy65
        refine cG C9 V hy65.1 hf66 rfl tC_lay7 2 (by decide) tCf_X5_26 (Or.inl rfl) rfl dX5_takenOut_78 ?_
        replace hG := gLt_e hG (view_gI hf66 rfl)
        obtain ⟨v67_0, v67_1, v67_2, v67_3, v67_4, v67_5, c67, hf67, t67_2, t67_3, hc67, h067, h167⟩ := op4 I t_o0
        refine cGoV (cRunV (As := [.int v66_2]) (rest := []) C9 hml hN hNs V I hS t_o0.1 hf67 rfl (c_X5_append l D ks τ L A N hN  ψ f62 o0 v66_2 t_o0 ) gC_X5_64 okC_X5_append ⟨rfl, rfl, Nat.le_of_ble_eq_true rfl, Nat.le_of_ble_eq_true rfl⟩ hl.1 rfl (Nat.le_of_ble_eq_true rfl) dX5_takenOut_81 ⟨Nat.zero_le _, Nat.zero_le _⟩) hS (fun p69 f68 H locs hqf68 V I hS => ?_)
        obtain ⟨hqf68, ghqf68⟩ := hqf68
        replace hG := gLt_e hG (ghqf68)
        have I : cI ks τ L ψ f68 := by rw [show p69 = ψ from hqf68] at I; exact I
        refine lv_aload_n hx hb dX5_takenOut_84 rfl (lv_at hl 0 rfl) ?_
        obtain ⟨v71_0, v71_1, v71_2, v71_3, v71_4, v71_5, v71_6, v71_7, v71_8, v71_9, v71_10, v71_11, v71_12, hf71, t71_7, t71_8, t71_11⟩ := op7 I hy65
        refine cGoV (cRunV (As := []) (rest := []) C9 hml hN hNs V I hS hy65.1 hf71 rfl (c_X8_goOn l D ks τ L A N hN  ψ f68 y65 hy65 ) gC_X5_36 okC_X8_goOn ⟨rfl, rfl, Nat.le_of_ble_eq_true rfl, Nat.le_of_ble_eq_true rfl⟩ hl.1 rfl (Nat.le_of_ble_eq_true rfl) dX5_takenOut_85 ⟨Nat.zero_le _, Nat.zero_le _⟩) hS (fun p73 f72 H locs hqf72 V I hS => ?_)
        obtain ⟨hqf72, ghqf72⟩ := hqf72
        replace hG := gLt_e hG (ghqf72)
        have I : cI ks τ L ψ f72 := by rw [show p73 = ψ from hqf72] at I; exact I
        refine lv_iload_n hx hb dX5_takenOut_88 rfl (lv_at hl 1 rfl) ?_
        exact cRetI C9 hr hlk hN hNs V I hS (⟨rfl, hG.symm⟩) dX5_takenOut_89
    · replace hG := gIf_n hG c52
      refine lv_aload_n hx hb dX5_takenOut_41 rfl (lv_at hl 1 rfl) ?_
      refine cG C9 V t_o0.1 hf1 rfl tC_lay4 4 (by decide) tCf_X5_67 (Or.inl rfl) rfl dX5_takenOut_42 ?_
      refine lv_iconst (v := 1) hx hb dX5_takenOut_45 (by decide) ?_
      refine lv_iadd hx hb dX5_takenOut_46 ?_
      refine lv_goto (tgt := 51) hx hb dX5_takenOut_47 (by decide) ?_
      refine lv_topi (fun x75 ex75 => ?_)
      replace hG := gLt_e hG ex75
      refine cP (v := .int x75) (ty := .int) C9 V hS t_o0.1 hf1 rfl tC_lay4 tyX5 tyX5_ok nmX5 4 (by decide) tCf_X5_67 rfl rfl (by decide +kernel) rfl rfl (Nat.le_of_ble_eq_true rfl) dX5_takenOut_51 (fun f76 H locs ef76 V hS => ?_)
      replace hG := gLt_e hG (view_I hf1 rfl ef76)
      have hf77 : f76 o0 = .inr (4, [.int v1_0, .int v1_1, .ref v1_2, .ref v1_3, .int x75, .int v1_5]) := up_s ef76
      have hh78 := (show _ ∧ _ from by first | exact cq_h ex75 h01 h11 hc1 c52 | exact cq_0 hc1)
      have h078 := hh78.1
      have h178 := hh78.2
      have hc78 := hc1
      have I := cI_up I t_o0.2 ef76 (mk4 t1_2 t1_3 hc78 h078 h178)
      have hf79 := up_n ef76 t_o0.2 t1_3.2 (by first | decide | omega) hf2
      refine lv_aload_n hx hb dX5_takenOut_54 rfl (lv_at hl 1 rfl) ?_
      refine lv_dup hx hb dX5_takenOut_55 rfl ?_
      refine cG C9 V t_o0.1 hf77 rfl tC_lay4 5 (by decide) tCf_X5_48 (Or.inl rfl) rfl dX5_takenOut_56 ?_
      replace hG := gLt_e hG (view_gI hf77 rfl)
      refine lv_iconst (v := 1) hx hb dX5_takenOut_59 (by decide) ?_
      refine lv_isub hx hb dX5_takenOut_60 ?_
      refine lv_topi (fun x80 ex80 => ?_)
      replace hG := gLt_e hG ex80
      refine cP (v := .int x80) (ty := .int) C9 V hS t_o0.1 hf77 rfl tC_lay4 tyX5 tyX5_ok nmX5 5 (by decide) tCf_X5_48 rfl rfl (by decide +kernel) rfl rfl (Nat.le_of_ble_eq_true rfl) dX5_takenOut_61 (fun f81 H locs ef81 V hS => ?_)
      replace hG := gLt_e hG (view_I hf77 rfl ef81)
      have hf82 : f81 o0 = .inr (4, [.int v1_0, .int v1_1, .ref v1_2, .ref v1_3, .int x75, .int x80]) := up_s ef81
      have I := cI_up I t_o0.2 ef81 (mk4 t1_2 t1_3 hc78 h078 h178)
      have hf83 := up_n ef81 t_o0.2 t1_3.2 (by first | decide | omega) hf79
      refine lv_aload_n hx hb dX5_takenOut_64 rfl (lv_at hl 1 rfl) ?_
      refine cG C9 V t_o0.1 hf82 rfl tC_lay4 2 (by decide) tCf_X5_54 (Or.inr tCs_X5_row) rfl dX5_takenOut_65 ?_
      replace hG := gLt_e hG (view_gR hf82 rfl)
      obtain ⟨v84_0, v84_1, hf84, hn84, t84_1⟩ := op5 I t1_2
      refine cGoQ (cRunV (As := []) (rest := []) C9 hml hN hNs V I hS t1_2.1 hf84 rfl (c_X6_first l D ks τ L A N hN  ψ f81 v1_2 t1_2 ) gC_X5_58 okC_X6_first ⟨rfl, rfl, Nat.le_of_ble_eq_true rfl, Nat.le_of_ble_eq_true rfl⟩ hl.1 rfl (Nat.le_of_ble_eq_true rfl) dX5_takenOut_68 ⟨Nat.zero_le _, Nat.zero_le _⟩) hS (fun r87 p86 f85 H locs hqf85 V I hS => ?_)
      obtain ⟨hqf85, ghqf85⟩ := hqf85
      replace hG := gC_e hG ghqf85
      have I : cI ks τ L ψ f85 := by rw [show p86 = ψ from hqf85.1] at I; exact I
      replace hG := gO_e hG (rfl)
      rcases r87 with _ | y88
      · replace hG := gO_n hG
        refine W.eq (g2 := F0 m 71 ls [.null]) rfl ?_
        refine lv_astore_nN (lv' := [(2, .null), (1, .int x51), (0, .ref o0)]) hx hb dX5_takenOut_71 rfl hl (by decide) rfl (fun ls hl => ?_)
        refine lv_aload_nN hx hb dX5_takenOut_72 rfl (lv_at hl 0 rfl) ?_
        refine lv_ifnullN (tgt := 88) hx hb dX5_takenOut_73 (by decide) ?_
        refine lv_iload_n hx hb dX5_takenOut_88 rfl (lv_at hl 1 rfl) ?_
        exact cRetI C9 hr hlk hN hNs V I hS (⟨rfl, hG.symm⟩) dX5_takenOut_89
      · replace hG := gO_s hG
        have hy88 := hqf85.2 y88 rfl
        refine W.eq (g2 := F0 m 71 ls [.ref y88]) rfl ?_
        refine lv_astore_n (lv' := [(2, .ref y88), (1, .int x51), (0, .ref o0)]) hx hb dX5_takenOut_71 rfl hl (by decide) rfl (fun ls hl => ?_)
        refine lv_aload_n hx hb dX5_takenOut_72 rfl (lv_at hl 0 rfl) ?_
        refine lv_ifnull hx hb dX5_takenOut_73 ?_
        refine lv_aload_n hx hb dX5_takenOut_76 rfl (lv_at hl 2 rfl) ?_
        refine lv_aload_n hx hb dX5_takenOut_77 rfl (lv_at hl 0 rfl) ?_
        obtain ⟨v89_0, v89_1, v89_2, v89_3, v89_4, v89_5, v89_6, v89_7, v89_8, v89_9, v89_10, v89_11, v89_12, hf89, t89_7, t89_8, t89_11⟩ := op7 I hy88
        refine cG C9 V hy88.1 hf89 rfl tC_lay7 2 (by decide) tCf_X5_26 (Or.inl rfl) rfl dX5_takenOut_78 ?_
        replace hG := gLt_e hG (view_gI hf89 rfl)
        obtain ⟨v90_0, v90_1, v90_2, v90_3, v90_4, v90_5, c90, hf90, t90_2, t90_3, hc90, h090, h190⟩ := op4 I t_o0
        refine cGoV (cRunV (As := [.int v89_2]) (rest := []) C9 hml hN hNs V I hS t_o0.1 hf90 rfl (c_X5_append l D ks τ L A N hN  ψ f85 o0 v89_2 t_o0 ) gC_X5_64 okC_X5_append ⟨rfl, rfl, Nat.le_of_ble_eq_true rfl, Nat.le_of_ble_eq_true rfl⟩ hl.1 rfl (Nat.le_of_ble_eq_true rfl) dX5_takenOut_81 ⟨Nat.zero_le _, Nat.zero_le _⟩) hS (fun p92 f91 H locs hqf91 V I hS => ?_)
        obtain ⟨hqf91, ghqf91⟩ := hqf91
        replace hG := gLt_e hG (ghqf91)
        have I : cI ks τ L ψ f91 := by rw [show p92 = ψ from hqf91] at I; exact I
        refine lv_aload_n hx hb dX5_takenOut_84 rfl (lv_at hl 0 rfl) ?_
        obtain ⟨v94_0, v94_1, v94_2, v94_3, v94_4, v94_5, v94_6, v94_7, v94_8, v94_9, v94_10, v94_11, v94_12, hf94, t94_7, t94_8, t94_11⟩ := op7 I hy88
        refine cGoV (cRunV (As := []) (rest := []) C9 hml hN hNs V I hS hy88.1 hf94 rfl (c_X8_goOn l D ks τ L A N hN  ψ f91 y88 hy88 ) gC_X5_36 okC_X8_goOn ⟨rfl, rfl, Nat.le_of_ble_eq_true rfl, Nat.le_of_ble_eq_true rfl⟩ hl.1 rfl (Nat.le_of_ble_eq_true rfl) dX5_takenOut_85 ⟨Nat.zero_le _, Nat.zero_le _⟩) hS (fun p96 f95 H locs hqf95 V I hS => ?_)
        obtain ⟨hqf95, ghqf95⟩ := hqf95
        replace hG := gLt_e hG (ghqf95)
        have I : cI ks τ L ψ f95 := by rw [show p96 = ψ from hqf95] at I; exact I
        refine lv_iload_n hx hb dX5_takenOut_88 rfl (lv_at hl 1 rfl) ?_
        exact cRetI C9 hr hlk hN hNs V I hS (⟨rfl, hG.symm⟩) dX5_takenOut_89
def FC_X7_handOut_L2 (o0 : Nat) : Nat → Int32 → xS → xS
  | 0, w2_1, XGf2 => XGf2
  | N9_2 + 1, w2_1, XGf2 => if 8 ≤ (w2_1 : Int32) then (XGf2) else (gLt ((xR XGf2 o0 2).getD 0 : Nat) (fun v3_2 => gC (FC_X6_first XGf2 v3_2) (fun r7 Xf5 => gO (r7) (Xf5) (fun y8 => gLt (xI Xf5 o0 3 : Int32) (fun v9_3 => gC (FC_X8_operand Xf5 y8 1) (fun r13 Xf11 => if r13 ≤ (v9_3 : Int32) then (gLt (xI Xf11 o0 3 : Int32) (fun v15_3 => gC (FC_X8_operand Xf11 y8 1) (fun r19 Xf17 => gLt ((v15_3 - r19) : Int32) (fun x21 => gLt (xwI Xf17 o0 3 x21 : xS) (fun Xf22 => gLt (FC_X8_goOn Xf22 y8 : xS) (fun Xf25 => gLt (w2_1 + (1) : Int32) (fun x28 => FC_X7_handOut_L2 o0 N9_2 x28 Xf25))))))) else (Xf11)))))))
def FC_X7_handOut (X : xS) (o0 : Nat) : xS := gLt (0 : Int32) (fun x1 => FC_X7_handOut_L2 o0 ((8 - x1).toInt.toNat + 1) x1 X)
set_option maxHeartbeats 200000 in
set_option maxRecDepth 100000 in
theorem c_X7_handOut (l : Launch) (D : va_G) (ks : kS) (τ : Nat → Nat) (L : List Nat) (A : Nat → Prop) (N : State → Prop) (hN : cNk A N)  (ψ : Int32) (f : Nat → va_E) (o0 : Nat) (t_o0 : ty τ L o0 6) : Met l yX7_handOut (Cond.code yX7_handOut cX7_handOut 3 none :: tC) ({ frames := 2, cells := 0, slots := 0, locals := 43 }) (va_Pc [.ref o0] (cB D ks τ L A N (ψ, f))) (va_Qv (fun x9 => (x9.1 = ψ) ∧ view x9.2 = FC_X7_handOut (view f) o0) (cB D ks τ L A N) A) 0 0 A := by
  refine cMet (own := RX7) (by decide) rfl (Nat.le_of_ble_eq_true rfl) ?_
  intro p e s m below meth c ls C9 hml hr hlk V I hNs hl
  have hx := C9.1
  have hb := C9.2.1
  have hown := C9.2.2.1
  have hts := C9.2.2.2.1
  have hS : va_S A s.heap s.heap [] := va_S.rf
  have hG := FC_X7_handOut.eq_1 (view f) o0
  have hl : lv_has ls 3 [(0, .ref o0)] := hl
  refine lv_iconst (v := 0) hx hb dX7_handOut_0 (by decide) ?_
  refine lv_topi (fun x1 ex1 => ?_)
  replace hG := gLt_e hG ex1
  refine lv_istore_n (lv' := [(1, .int x1), (0, .ref o0)]) hx hb dX7_handOut_1 rfl hl (by decide) rfl (fun ls hl => ?_)
  have loop2 : ∀ (N9_2 : Nat) (w2_1 : Int32)  (Gf2 : Nat → va_E) (H : Heap) (locs : List Loc) (ls : Array Slot), cI ks τ L ψ Gf2 → (0 ≤ w2_1 ∧ w2_1 ≤ 8) → ((8 - w2_1).toInt.toNat) < N9_2 → (FC_X7_handOut (view f) o0 = FC_X7_handOut_L2 o0 N9_2 w2_1 (view Gf2)) → cV D L Gf2 A H → va_S A s.heap H locs → lv_has ls 3 [(0, .ref o0), (1, .int w2_1)] → W p l e ({ frames := 2, cells := 0, slots := 0, locals := 43 } : Room) s m ([.ref o0] : List Value).toArray below meth c H locs 0 0 (MQ below (va_Qv (fun x9 => (x9.1 = ψ) ∧ view x9.2 = FC_X7_handOut (view f) o0) (cB D ks τ L A N) A) ([.ref o0] : List Value).toArray s 0 0 A) (F0 m 2 ls []) := by
    intro N9_2
    induction N9_2 with
    | zero => intro w2_1  Gf2 H locs ls I hi2 hm2; exact absurd hm2 (Nat.not_lt_zero _)
    | succ N9_2 ih2 =>
      intro w2_1  Gf2 H locs ls I hi2 hm2 hG V hS hl
      rw [FC_X7_handOut_L2] at hG
      refine lv_iload_n hx hb dX7_handOut_2 rfl (lv_at hl 1 rfl) ?_
      refine lv_bipush (v := 8) hx hb dX7_handOut_3 (by decide) ?_
      refine lv_icmp_ge (tgt := 57) hx hb dX7_handOut_5 (by decide) (fun c2 => ?_) (fun c2 => ?_)
      · replace hG := gIf_p hG c2
        exact cRetV C9 hr hlk hN hNs V I hS (⟨rfl, hG.symm⟩) dX7_handOut_57
      · replace hG := gIf_n hG c2
        refine lv_aload_n hx hb dX7_handOut_8 rfl (lv_at hl 0 rfl) ?_
        obtain ⟨v3_0, v3_1, v3_2, v3_3, hf3, t3_2⟩ := op6 I t_o0
        refine cG C9 V t_o0.1 hf3 rfl tC_lay6 2 (by decide) tCf_X7_27 (Or.inr tCs_X7_row) rfl dX7_handOut_9 ?_
        replace hG := gLt_e hG (view_gR hf3 rfl)
        obtain ⟨v4_0, v4_1, hf4, hn4, t4_1⟩ := op5 I t3_2
        refine cGoQ (cRunV (As := []) (rest := []) C9 hml hN hNs V I hS t3_2.1 hf4 rfl (c_X6_first l D ks τ L A N hN  ψ Gf2 v3_2 t3_2 ) gC_X7_57 okC_X6_first ⟨rfl, rfl, Nat.le_of_ble_eq_true rfl, Nat.le_of_ble_eq_true rfl⟩ hl.1 rfl (Nat.le_of_ble_eq_true rfl) dX7_handOut_12 ⟨Nat.zero_le _, Nat.zero_le _⟩) hS (fun r7 p6 f5 H locs hqf5 V I hS => ?_)
        obtain ⟨hqf5, ghqf5⟩ := hqf5
        replace hG := gC_e hG ghqf5
        have I : cI ks τ L ψ f5 := by rw [show p6 = ψ from hqf5.1] at I; exact I
        replace hG := gO_e hG (rfl)
        rcases r7 with _ | y8
        · replace hG := gO_n hG
          refine W.eq (g2 := F0 m 15 ls [.null]) rfl ?_
          refine lv_astore_nN (lv' := [(2, .null), (0, .ref o0), (1, .int w2_1)]) hx hb dX7_handOut_15 rfl hl (by decide) rfl (fun ls hl => ?_)
          refine lv_aload_nN hx hb dX7_handOut_16 rfl (lv_at hl 0 rfl) ?_
          refine lv_ifnullN (tgt := 32) hx hb dX7_handOut_17 (by decide) ?_
          exact cRetV C9 hr hlk hN hNs V I hS (⟨rfl, hG.symm⟩) dX7_handOut_32
        · replace hG := gO_s hG
          have hy8 := hqf5.2 y8 rfl
          refine W.eq (g2 := F0 m 15 ls [.ref y8]) rfl ?_
          refine lv_astore_n (lv' := [(2, .ref y8), (0, .ref o0), (1, .int w2_1)]) hx hb dX7_handOut_15 rfl hl (by decide) rfl (fun ls hl => ?_)
          refine lv_aload_n hx hb dX7_handOut_16 rfl (lv_at hl 0 rfl) ?_
          refine lv_ifnull hx hb dX7_handOut_17 ?_
          refine lv_aload_n hx hb dX7_handOut_20 rfl (lv_at hl 1 rfl) ?_
          obtain ⟨v9_0, v9_1, v9_2, v9_3, hf9, t9_2⟩ := op6 I t_o0
          refine cG C9 V t_o0.1 hf9 rfl tC_lay6 3 (by decide) tCf_X7_9 (Or.inl rfl) rfl dX7_handOut_21 ?_
          replace hG := gLt_e hG (view_gI hf9 rfl)
          refine lv_aload_n hx hb dX7_handOut_24 rfl (lv_at hl 0 rfl) ?_
          refine lv_iconst (v := 1) hx hb dX7_handOut_25 (by decide) ?_
          obtain ⟨v10_0, v10_1, v10_2, v10_3, v10_4, v10_5, v10_6, v10_7, v10_8, v10_9, v10_10, v10_11, v10_12, hf10, t10_7, t10_8, t10_11⟩ := op7 I hy8
          refine cGoI (cRunV (As := [.int 1]) (rest := [.int v9_3]) C9 hml hN hNs V I hS hy8.1 hf10 rfl (c_X8_operand l D ks τ L A N hN  ψ f5 y8 1 hy8 ) gC_X7_36 okC_X8_operand ⟨rfl, rfl, Nat.le_of_ble_eq_true rfl, Nat.le_of_ble_eq_true rfl⟩ hl.1 rfl (Nat.le_of_ble_eq_true rfl) dX7_handOut_26 ⟨Nat.zero_le _, Nat.zero_le _⟩) hS (fun r13 p12 f11 H locs hqf11 V I hS => ?_)
          obtain ⟨hqf11, ghqf11⟩ := hqf11
          replace hG := gC_e hG ghqf11
          have I : cI ks τ L ψ f11 := by rw [show p12 = ψ from hqf11] at I; exact I
          refine lv_icmp_ge (tgt := 33) hx hb dX7_handOut_29 (by decide) (fun c14 => ?_) (fun c14 => ?_)
          · replace hG := gIf_p hG c14
            refine lv_aload_n hx hb dX7_handOut_33 rfl (lv_at hl 1 rfl) ?_
            refine lv_dup hx hb dX7_handOut_34 rfl ?_
            obtain ⟨v15_0, v15_1, v15_2, v15_3, hf15, t15_2⟩ := op6 I t_o0
            refine cG C9 V t_o0.1 hf15 rfl tC_lay6 3 (by decide) tCf_X7_9 (Or.inl rfl) rfl dX7_handOut_35 ?_
            replace hG := gLt_e hG (view_gI hf15 rfl)
            refine lv_aload_n hx hb dX7_handOut_38 rfl (lv_at hl 0 rfl) ?_
            refine lv_iconst (v := 1) hx hb dX7_handOut_39 (by decide) ?_
            obtain ⟨v16_0, v16_1, v16_2, v16_3, v16_4, v16_5, v16_6, v16_7, v16_8, v16_9, v16_10, v16_11, v16_12, hf16, t16_7, t16_8, t16_11⟩ := op7 I hy8
            refine cGoI (cRunV (As := [.int 1]) (rest := [.int v15_3, .ref o0]) C9 hml hN hNs V I hS hy8.1 hf16 rfl (c_X8_operand l D ks τ L A N hN  ψ f11 y8 1 hy8 ) gC_X7_36 okC_X8_operand ⟨rfl, rfl, Nat.le_of_ble_eq_true rfl, Nat.le_of_ble_eq_true rfl⟩ hl.1 rfl (Nat.le_of_ble_eq_true rfl) dX7_handOut_40 ⟨Nat.zero_le _, Nat.zero_le _⟩) hS (fun r19 p18 f17 H locs hqf17 V I hS => ?_)
            obtain ⟨hqf17, ghqf17⟩ := hqf17
            replace hG := gC_e hG ghqf17
            have I : cI ks τ L ψ f17 := by rw [show p18 = ψ from hqf17] at I; exact I
            refine lv_isub hx hb dX7_handOut_43 ?_
            obtain ⟨v20_0, v20_1, v20_2, v20_3, hf20, t20_2⟩ := op6 I t_o0
            refine lv_topi (fun x21 ex21 => ?_)
            replace hG := gLt_e hG ex21
            refine cP (v := .int x21) (ty := .int) C9 V hS t_o0.1 hf20 rfl tC_lay6 tyX7 tyX7_ok nmX7 3 (by decide) tCf_X7_9 rfl rfl (by decide +kernel) rfl rfl (Nat.le_of_ble_eq_true rfl) dX7_handOut_44 (fun f22 H locs ef22 V hS => ?_)
            replace hG := gLt_e hG (view_I hf20 rfl ef22)
            have hf23 : f22 o0 = .inr (6, [.int v20_0, .int v20_1, .ref v20_2, .int x21]) := up_s ef22
            have I := cI_up I t_o0.2 ef22 (mk6 t20_2)
            refine lv_aload_n hx hb dX7_handOut_47 rfl (lv_at hl 0 rfl) ?_
            obtain ⟨v24_0, v24_1, v24_2, v24_3, v24_4, v24_5, v24_6, v24_7, v24_8, v24_9, v24_10, v24_11, v24_12, hf24, t24_7, t24_8, t24_11⟩ := op7 I hy8
            refine cGoV (cRunV (As := []) (rest := []) C9 hml hN hNs V I hS hy8.1 hf24 rfl (c_X8_goOn l D ks τ L A N hN  ψ f22 y8 hy8 ) gC_X7_42 okC_X8_goOn ⟨rfl, rfl, Nat.le_of_ble_eq_true rfl, Nat.le_of_ble_eq_true rfl⟩ hl.1 rfl (Nat.le_of_ble_eq_true rfl) dX7_handOut_48 ⟨Nat.zero_le _, Nat.zero_le _⟩) hS (fun p26 f25 H locs hqf25 V I hS => ?_)
            obtain ⟨hqf25, ghqf25⟩ := hqf25
            replace hG := gLt_e hG (ghqf25)
            have I : cI ks τ L ψ f25 := by rw [show p26 = ψ from hqf25] at I; exact I
            obtain ⟨x28, ex28⟩ : ∃ y : Int32, y = w2_1 + (1) := ⟨_, rfl⟩
            replace hG := gLt_e hG ex28
            refine lv_iinc (v := x28) (lv' := [(1, .int x28), (2, .ref y8), (0, .ref o0)]) hx hb dX7_handOut_51 hl (k := 2) rfl (by rw [ex28]; rfl) (by decide) rfl (fun ls hl => ?_)
            refine lv_goto (tgt := 2) hx hb dX7_handOut_54 (by decide) ?_
            exact ih2 x28  f25 _ _ _ I (ca_up ex28 hi2.1 (ci_lt c2)) (cmsd hm2 (ca_dec ex28 hi2.1 (ci_lt c2)).1 (ca_dec ex28 hi2.1 (ci_lt c2)).2) hG V hS (lv_sub hl [2, 0] rfl)
          · replace hG := gIf_n hG c14
            exact cRetV C9 hr hlk hN hNs V I hS (⟨rfl, hG.symm⟩) dX7_handOut_32
  exact loop2 ((8 - x1).toInt.toNat + 1) x1  f _ _ _ I (by clear hG V hS hl C9 hts hown hx hb hml hr hlk; subst_vars; decide) (Nat.lt_succ_self _) hG V hS (lv_sub hl [1, 0] rfl)
def FC_X2_value (X : xS) (o0 : Nat) : Int64 × xS := gLt (xI X o0 3 : Int32) (fun v1_3 => if (v1_3 : Int32) = 0 then (((1099511627776 : Int64), X)) else (gLt (xI X o0 4 : Int32) (fun v1_4 => (((Int32.toInt64 v1_4) : Int64), X))))
set_option maxHeartbeats 200000 in
set_option maxRecDepth 100000 in
theorem c_X2_value (l : Launch) (D : va_G) (ks : kS) (τ : Nat → Nat) (L : List Nat) (A : Nat → Prop) (N : State → Prop) (hN : cNk A N)  (ψ : Int32) (f : Nat → va_E) (o0 : Nat) (t_o0 : ty τ L o0 1) : Met l yX2_value (Cond.code yX2_value cX2_value 1 (some .long) :: tC) ({ frames := 0, cells := 0, slots := 0, locals := 0 }) (va_Pc [.ref o0] (cB D ks τ L A N (ψ, f))) (va_Ql (fun r9 x9 => (x9.1 = ψ) ∧ (r9, view x9.2) = FC_X2_value (view f) o0) (cB D ks τ L A N) A) 0 0 A := by
  refine cMet (own := RX2) (by decide) rfl (Nat.le_of_ble_eq_true rfl) ?_
  intro p e s m below meth c ls C9 hml hr hlk V I hNs hl
  have hx := C9.1
  have hb := C9.2.1
  have hown := C9.2.2.1
  have hts := C9.2.2.2.1
  have hS : va_S A s.heap s.heap [] := va_S.rf
  have hG := FC_X2_value.eq_1 (view f) o0
  have hl : lv_has ls 1 [(0, .ref o0)] := hl
  refine lv_aload_n hx hb dX2_value_0 rfl (lv_at hl 0 rfl) ?_
  obtain ⟨v1_0, v1_1, v1_2, v1_3, v1_4, hf1, t1_2⟩ := op1 I t_o0
  refine cG C9 V t_o0.1 hf1 rfl tC_lay1 3 (by decide) tCf_X2_9 (Or.inl rfl) rfl dX2_value_1 ?_
  replace hG := gLt_e hG (view_gI hf1 rfl)
  refine lv_if_eq (tgt := 15) hx hb dX2_value_4 (by decide) (fun c2 => ?_) (fun c2 => ?_)
  · replace hG := gIf_p hG c2
    refine lv_ldc2 hx hb hown (hts _ tCc_X2_66) dX2_value_15 ?_
    exact cRetL C9 hr hlk hN hNs V I hS (⟨rfl, hG.symm⟩) dX2_value_18
  · replace hG := gIf_n hG c2
    refine lv_aload_n hx hb dX2_value_7 rfl (lv_at hl 0 rfl) ?_
    refine cG C9 V t_o0.1 hf1 rfl tC_lay1 4 (by decide) tCf_X2_15 (Or.inl rfl) rfl dX2_value_8 ?_
    replace hG := gLt_e hG (view_gI hf1 rfl)
    refine lv_i2l hx hb dX2_value_11 rfl ?_
    refine lv_goto (tgt := 18) hx hb dX2_value_12 (by decide) ?_
    exact cRetL C9 hr hlk hN hNs V I hS (⟨rfl, hG.symm⟩) dX2_value_18

theorem mk9 {ks : kS} {τ : Nat → Nat} {L : List Nat} {ψ : Int32} {tp sy st : Nat} {ck sp : Int64} {la : Int32} (h1 : ty τ L tp 8) (h2 : ty τ L sy 15) (h3 : ty τ L st 14) : cOk ks τ L ψ (.inr (9, [.ref tp, .ref sy, .ref st, .long ck, .long sp, .int la])) 9 := by
  show ∃ _, _
  exact ⟨tp, sy, st, ck, sp, la, rfl, h1, h2, h3⟩

def FC_X12_takeTurn (X : xS) (o0 : Nat) (o1 : Option Nat) : xS := gO o1 (X) (fun yO => gLt (xJ X o0 4 : Int64) (fun v1_4 => gLt ((v1_4 + 1) : Int64) (fun x2 => gLt (xwJ X o0 4 x2 : xS) (fun Xf3 => gLt (xI Xf3 yO 0 : Int32) (fun v5_0 => gLt (xwI Xf3 o0 5 v5_0 : xS) (fun Xf6 => gO (xR Xf6 yO 7) (gC (FC_X8_word Xf6 yO) (fun u14 Xf11 => gLt (wK.getD u14 0 : Int32) (fun x15 => if (x15 : Int32) = (-1) then (gLt (FC_X12_doAlone Xf11 o0 yO u14 : xS) (fun Xf63 => Xf63)) else (gC (FC_X8_operand Xf11 yO 0) (fun r20 Xf18 => gC (FC_X12_syncAt Xf18 o0 r20) (fun r24 Xf22 => gO (r24) (gLt (FC_X8_fail Xf22 yO 2 : xS) (fun Xf27 => Xf27)) (fun y25 => gLt (xI Xf22 y25 1 : Int32) (fun x30 => gLt (wK.getD u14 0 : Int32) (fun x31 => if (x30 : Int32) = x31 then (if xC Xf22 y25 = 0 then (gLt (FC_X1_perform Xf22 y25 yO u14 : xS) (fun Xf35 => Xf35)) else (if xC Xf22 y25 = 1 then (gLt (FC_X2_perform Xf22 y25 yO u14 : xS) (fun Xf39 => Xf39)) else (if xC Xf22 y25 = 2 then (gLt (FC_X3_perform Xf22 y25 yO u14 : xS) (fun Xf43 => Xf43)) else (if xC Xf22 y25 = 3 then (gLt (FC_X4_perform Xf22 y25 yO u14 : xS) (fun Xf47 => Xf47)) else (if xC Xf22 y25 = 4 then (gLt (FC_X5_perform Xf22 y25 yO u14 : xS) (fun Xf51 => Xf51)) else (gLt (FC_X7_perform Xf22 y25 yO u14 : xS) (fun Xf55 => Xf55))))))) else (gLt (FC_X8_fail Xf22 yO 2 : xS) (fun Xf59 => Xf59))))))))))) (fun y9 => if xC Xf6 y9 = 3 then (gLt (FC_X4_tryAgain Xf6 y9 yO : xS) (fun Xf69 => Xf69)) else (gC (FC_X8_word Xf6 yO) (fun u76 Xf73 => gLt (wK.getD u76 0 : Int32) (fun x77 => if (x77 : Int32) = (-1) then (gLt (FC_X12_doAlone Xf73 o0 yO u76 : xS) (fun Xf125 => Xf125)) else (gC (FC_X8_operand Xf73 yO 0) (fun r82 Xf80 => gC (FC_X12_syncAt Xf80 o0 r82) (fun r86 Xf84 => gO (r86) (gLt (FC_X8_fail Xf84 yO 2 : xS) (fun Xf89 => Xf89)) (fun y87 => gLt (xI Xf84 y87 1 : Int32) (fun x92 => gLt (wK.getD u76 0 : Int32) (fun x93 => if (x92 : Int32) = x93 then (if xC Xf84 y87 = 0 then (gLt (FC_X1_perform Xf84 y87 yO u76 : xS) (fun Xf97 => Xf97)) else (if xC Xf84 y87 = 1 then (gLt (FC_X2_perform Xf84 y87 yO u76 : xS) (fun Xf101 => Xf101)) else (if xC Xf84 y87 = 2 then (gLt (FC_X3_perform Xf84 y87 yO u76 : xS) (fun Xf105 => Xf105)) else (if xC Xf84 y87 = 3 then (gLt (FC_X4_perform Xf84 y87 yO u76 : xS) (fun Xf109 => Xf109)) else (if xC Xf84 y87 = 4 then (gLt (FC_X5_perform Xf84 y87 yO u76 : xS) (fun Xf113 => Xf113)) else (gLt (FC_X7_perform Xf84 y87 yO u76 : xS) (fun Xf117 => Xf117))))))) else (gLt (FC_X8_fail Xf84 yO 2 : xS) (fun Xf121 => Xf121))))))))))))))))))
set_option maxHeartbeats 200000 in
set_option maxRecDepth 100000 in
theorem c_X12_takeTurn (l : Launch) (D : va_G) (ks : kS) (τ : Nat → Nat) (L : List Nat) (A : Nat → Prop) (N : State → Prop) (hN : cNk A N) (κ : kC) (hN0 : ∀ U, N U → N0 κ A U) (ψ : Int32) (f : Nat → va_E) (o0 : Nat) (o1 : Option Nat) (t_o0 : ty τ L o0 9) (t_o1 : tyO τ L o1 7) : Met l yX12_takeTurn (Cond.code yX12_takeTurn cX12_takeTurn 4 none :: tC) ({ frames := 5, cells := 0, slots := 0, locals := 110 }) (va_Pc [.ref o0, va_rf o1] (cB D ks τ L A N (ψ, f))) (va_Qv (fun x9 => (x9.1 = ψ) ∧ view x9.2 = FC_X12_takeTurn (view f) o0 o1) (cB D ks τ L A N) A) 0 0 A := by
  refine cMet (own := RX12) (by decide) rfl (by cases o1 <;> exact Nat.le_of_ble_eq_true rfl) ?_
  intro p e s m below meth c ls C9 hml hr hlk V I hNs hl
  have hx := C9.1
  have hb := C9.2.1
  have hown := C9.2.2.1
  have hts := C9.2.2.2.1
  have h0 := hN0 s hNs
  have hS : va_S A s.heap s.heap [] := va_S.rf
  have hG := FC_X12_takeTurn.eq_1 (view f) o0 o1
  rcases o1 with _ | yO
  · replace hG := gO_n hG
    have hl : lv_has ls 4 [(0, .ref o0), (1, .null)] := hl
    refine lv_aload_nN hx hb dX12_takeTurn_0 rfl (lv_at hl 1 rfl) ?_
    refine lv_ifnonnullN hx hb dX12_takeTurn_1 ?_
    exact cRetV C9 hr hlk hN hNs V I hS (⟨rfl, hG.symm⟩) dX12_takeTurn_4
  · replace hG := gO_s hG
    have t_yO := t_o1 yO rfl
    have hl : lv_has ls 4 [(0, .ref o0), (1, .ref yO)] := hl
    refine lv_aload_n hx hb dX12_takeTurn_0 rfl (lv_at hl 1 rfl) ?_
    refine lv_ifnonnull (tgt := 5) hx hb dX12_takeTurn_1 (by decide) ?_
    refine lv_aload_n hx hb dX12_takeTurn_5 rfl (lv_at hl 0 rfl) ?_
    refine lv_dup hx hb dX12_takeTurn_6 rfl ?_
    obtain ⟨v1_0, v1_1, v1_2, v1_3, v1_4, v1_5, hf1, t1_0, t1_1, t1_2⟩ := op9 I t_o0
    refine cG C9 V t_o0.1 hf1 rfl tC_lay9 4 (by decide) tCf_X12_209 (Or.inl rfl) rfl dX12_takeTurn_7 ?_
    replace hG := gLt_e hG (view_gJ hf1 rfl)
    refine lv_lconst (v := 1) hx hb dX12_takeTurn_10 (by decide) ?_
    refine lv_ladd hx hb dX12_takeTurn_11 ?_
    refine lv_topl (fun x2 ex2 => ?_)
    replace hG := gLt_e hG ex2
    refine cP (v := .long x2) (ty := .long) C9 V hS t_o0.1 hf1 rfl tC_lay9 tyX12 tyX12_ok nmX12 4 (by decide) tCf_X12_209 rfl rfl (by decide +kernel) rfl rfl (Nat.le_of_ble_eq_true rfl) dX12_takeTurn_12 (fun f3 H locs ef3 V hS => ?_)
    replace hG := gLt_e hG (view_J hf1 rfl ef3)
    have hf4 : f3 o0 = .inr (9, [.ref v1_0, .ref v1_1, .ref v1_2, .long v1_3, .long x2, .int v1_5]) := up_s ef3
    have I := cI_up I t_o0.2 ef3 (mk9 t1_0 t1_1 t1_2)
    refine lv_aload_n hx hb dX12_takeTurn_15 rfl (lv_at hl 0 rfl) ?_
    refine lv_aload_n hx hb dX12_takeTurn_16 rfl (lv_at hl 1 rfl) ?_
    obtain ⟨v5_0, v5_1, v5_2, v5_3, v5_4, v5_5, v5_6, v5_7, v5_8, v5_9, v5_10, v5_11, v5_12, hf5, t5_7, t5_8, t5_11⟩ := op7 I t_yO
    refine cG C9 V t_yO.1 hf5 rfl tC_lay7 0 (by decide) tCf_X12_238 (Or.inl rfl) rfl dX12_takeTurn_17 ?_
    replace hG := gLt_e hG (view_gI hf5 rfl)
    refine cP (v := .int v5_0) (ty := .int) C9 V hS t_o0.1 hf4 rfl tC_lay9 tyX12 tyX12_ok nmX12 5 (by decide) tCf_X12_28 rfl rfl (by decide +kernel) rfl rfl (Nat.le_of_ble_eq_true rfl) dX12_takeTurn_20 (fun f6 H locs ef6 V hS => ?_)
    replace hG := gLt_e hG (view_I hf4 rfl ef6)
    have hf7 : f6 o0 = .inr (9, [.ref v1_0, .ref v1_1, .ref v1_2, .long v1_3, .long x2, .int v5_0]) := up_s ef6
    have I := cI_up I t_o0.2 ef6 (mk9 t1_0 t1_1 t1_2)
    have hf8 := up_n ef6 t_o0.2 t_yO.2 (by first | decide | omega) hf5
    refine lv_aload_n hx hb dX12_takeTurn_23 rfl (lv_at hl 1 rfl) ?_
    refine cG C9 V t_yO.1 hf8 rfl tC_lay7 7 (by decide) tCf_X12_143 (Or.inl rfl) rfl dX12_takeTurn_24 ?_
    replace hG := gO_e hG (view_gO hf8 rfl)
    rcases v5_7 with _ | y9
    · replace hG := gO_n hG
      refine W.eq (g2 := F0 m 27 ls [.null]) rfl ?_
      refine lv_astore_nN (lv' := [(3, .null), (0, .ref o0), (1, .ref yO)]) hx hb dX12_takeTurn_27 rfl hl (by decide) rfl (fun ls hl => ?_)
      refine lv_aload_nN hx hb dX12_takeTurn_28 rfl (lv_at hl 0 rfl) ?_
      refine lv_instN hx hb dX12_takeTurn_29 ?_
      refine lv_if_eq (tgt := 46) hx hb dX12_takeTurn_32 (by decide) (fun c10 => ?_) (fun c10 => ?_)
      · refine lv_aload_n hx hb dX12_takeTurn_46 rfl (lv_at hl 2 rfl) ?_
        refine cGoQ (cRunV (As := []) (rest := []) C9 hml hN hNs V I hS t_yO.1 hf8 rfl (c_X8_word l D ks τ L A N hN κ hN0 ψ f6 yO t_yO ) gC_X12_242 okC_X8_word ⟨rfl, rfl, Nat.le_of_ble_eq_true rfl, Nat.le_of_ble_eq_true rfl⟩ hl.1 rfl (Nat.le_of_ble_eq_true rfl) dX12_takeTurn_47 ⟨Nat.zero_le _, Nat.zero_le _⟩) hS (fun r13 p12 f11 H locs hqf11 V I hS => ?_)
        obtain ⟨hqf11, u14, eu14, hu14, ghqf11⟩ := hqf11
        subst eu14
        replace hG := gC_e hG ghqf11
        have I : cI ks τ L ψ f11 := by rw [show p12 = ψ from hqf11] at I; exact I
        refine W.eq (g2 := F0 m 50 ls [.ref (κ.1 u14)]) rfl ?_
        refine lv_astore_n (lv' := [(2, .ref (κ.1 u14)), (3, .null), (0, .ref o0), (1, .ref yO)]) hx hb dX12_takeTurn_50 rfl hl (by decide) rfl (fun ls hl => ?_)
        refine lv_aload_n hx hb dX12_takeTurn_51 rfl (lv_at hl 0 rfl) ?_
        refine cGk hu14 C9 h0 hS tCf_X12_246 dX12_takeTurn_52 (fun x15 ex15 => ?_)
        replace hG := gLt_e hG (ex15)
        refine lv_iconst (v := (-1)) hx hb dX12_takeTurn_55 (by decide) ?_
        refine lv_icmp_ne (tgt := 66) hx hb dX12_takeTurn_56 (by decide) (fun c16 => ?_) (fun c16 => ?_)
        · replace hG := gIf_n hG c16
          refine lv_aload_n hx hb dX12_takeTurn_66 rfl (lv_at hl 2 rfl) ?_
          refine lv_aload_n hx hb dX12_takeTurn_67 rfl (lv_at hl 3 rfl) ?_
          refine lv_iconst (v := 0) hx hb dX12_takeTurn_68 (by decide) ?_
          obtain ⟨v17_0, v17_1, v17_2, v17_3, v17_4, v17_5, v17_6, v17_7, v17_8, v17_9, v17_10, v17_11, v17_12, hf17, t17_7, t17_8, t17_11⟩ := op7 I t_yO
          refine cGoI (cRunV (As := [.int 0]) (rest := [.ref o0]) C9 hml hN hNs V I hS t_yO.1 hf17 rfl (c_X8_operand l D ks τ L A N hN  ψ f11 yO 0 t_yO ) gC_X12_253 okC_X8_operand ⟨rfl, rfl, Nat.le_of_ble_eq_true rfl, Nat.le_of_ble_eq_true rfl⟩ hl.1 rfl (Nat.le_of_ble_eq_true rfl) dX12_takeTurn_69 ⟨Nat.zero_le _, Nat.zero_le _⟩) hS (fun r20 p19 f18 H locs hqf18 V I hS => ?_)
          obtain ⟨hqf18, ghqf18⟩ := hqf18
          replace hG := gC_e hG ghqf18
          have I : cI ks τ L ψ f18 := by rw [show p19 = ψ from hqf18] at I; exact I
          obtain ⟨v21_0, v21_1, v21_2, v21_3, v21_4, v21_5, hf21, t21_0, t21_1, t21_2⟩ := op9 I t_o0
          refine cGoQ (cRunV (As := [.int r20]) (rest := []) C9 hml hN hNs V I hS t_o0.1 hf21 rfl (c_X12_syncAt l D ks τ L A N hN  ψ f18 o0 r20 t_o0 ) gC_X12_176 okC_X12_syncAt ⟨rfl, rfl, Nat.le_of_ble_eq_true rfl, Nat.le_of_ble_eq_true rfl⟩ hl.1 rfl (Nat.le_of_ble_eq_true rfl) dX12_takeTurn_72 ⟨Nat.zero_le _, Nat.zero_le _⟩) hS (fun r24 p23 f22 H locs hqf22 V I hS => ?_)
          obtain ⟨hqf22, ghqf22⟩ := hqf22
          replace hG := gC_e hG ghqf22
          have I : cI ks τ L ψ f22 := by rw [show p23 = ψ from hqf22.1] at I; exact I
          replace hG := gO_e hG (rfl)
          rcases r24 with _ | y25
          · replace hG := gO_n hG
            refine W.eq (g2 := F0 m 75 ls [.null]) rfl ?_
            refine lv_astore_nN (lv' := [(3, .null), (2, .ref (κ.1 u14)), (0, .ref o0), (1, .ref yO)]) hx hb dX12_takeTurn_75 rfl hl (by decide) rfl (fun ls hl => ?_)
            refine lv_aload_nN hx hb dX12_takeTurn_76 rfl (lv_at hl 0 rfl) ?_
            refine lv_ifnullN (tgt := 91) hx hb dX12_takeTurn_77 (by decide) ?_
            refine lv_aload_n hx hb dX12_takeTurn_91 rfl (lv_at hl 3 rfl) ?_
            refine lv_iconst (v := 2) hx hb dX12_takeTurn_92 (by decide) ?_
            obtain ⟨v26_0, v26_1, v26_2, v26_3, v26_4, v26_5, v26_6, v26_7, v26_8, v26_9, v26_10, v26_11, v26_12, hf26, t26_7, t26_8, t26_11⟩ := op7 I t_yO
            refine cGoV (cRunV (As := [.int 2]) (rest := []) C9 hml hN hNs V I hS t_yO.1 hf26 rfl (c_X8_fail l D ks τ L A N hN  ψ f22 yO 2 t_yO ) gC_X12_256 okC_X8_fail ⟨rfl, rfl, Nat.le_of_ble_eq_true rfl, Nat.le_of_ble_eq_true rfl⟩ hl.1 rfl (Nat.le_of_ble_eq_true rfl) dX12_takeTurn_93 ⟨Nat.zero_le _, Nat.zero_le _⟩) hS (fun p28 f27 H locs hqf27 V I hS => ?_)
            obtain ⟨hqf27, ghqf27⟩ := hqf27
            replace hG := gLt_e hG (ghqf27)
            have I : cI ks τ L ψ f27 := by rw [show p28 = ψ from hqf27] at I; exact I
            refine lv_goto (tgt := 105) hx hb dX12_takeTurn_96 (by decide) ?_
            exact cRetV C9 hr hlk hN hNs V I hS (⟨rfl, hG.symm⟩) dX12_takeTurn_105
          · replace hG := gO_s hG
            have hy25 := hqf22.2 y25 rfl
            refine W.eq (g2 := F0 m 75 ls [.ref y25]) rfl ?_
            refine lv_astore_n (lv' := [(3, .ref y25), (2, .ref (κ.1 u14)), (0, .ref o0), (1, .ref yO)]) hx hb dX12_takeTurn_75 rfl hl (by decide) rfl (fun ls hl => ?_)
            refine lv_aload_n hx hb dX12_takeTurn_76 rfl (lv_at hl 0 rfl) ?_
            refine lv_ifnull hx hb dX12_takeTurn_77 ?_
            refine lv_aload_n hx hb dX12_takeTurn_80 rfl (lv_at hl 0 rfl) ?_
            refine cGS1 C9 V I hy25 tCf_X12_203 dX12_takeTurn_81 (fun x30 ex30 => ?_)
            replace hG := gLt_e hG (ex30)
            refine lv_aload_n hx hb dX12_takeTurn_84 rfl (lv_at hl 1 rfl) ?_
            refine cGk hu14 C9 h0 hS tCf_X12_246 dX12_takeTurn_85 (fun x31 ex31 => ?_)
            replace hG := gLt_e hG (ex31)
            refine lv_icmp_eq (tgt := 99) hx hb dX12_takeTurn_88 (by decide) (fun c32 => ?_) (fun c32 => ?_)
            · replace hG := gIf_p hG c32
              refine lv_aload_n hx hb dX12_takeTurn_99 rfl (lv_at hl 0 rfl) ?_
              refine lv_aload_n hx hb dX12_takeTurn_100 rfl (lv_at hl 3 rfl) ?_
              refine lv_aload_n hx hb dX12_takeTurn_101 rfl (lv_at hl 1 rfl) ?_
              obtain ⟨hL33, hk33⟩ := id hy25
              rcases hk33 with hk33 | hk33 | hk33 | hk33 | hk33 | hk33
              · have tk33 : ty τ L y25 0 := ⟨hL33, hk33⟩
                obtain ⟨v34_0, v34_1, v34_2, v34_3, v34_4, hf34, t34_2⟩ := op0 I tk33
                replace hG := gIf_p hG (view_c hf34)
                refine cGoV (cRunU (As := [.ref yO, .ref (κ.1 u14)]) (rest := []) C9 hml hN hNs V I hS (cRc C9 V tk33.1 hf34 rfl) (c_X1_perform l D ks τ L A N hN κ hN0 ψ f22 y25 yO u14 tk33 t_yO hu14 ) (va_cwA 2 hts gA_X12_259_X1 rfl rfl rfl (h0.2.2.2.2.2.2.2.2.1 _ (by simp [nwL])) okU_X12_259 ⟨Nat.le_of_ble_eq_true rfl, Nat.le_of_ble_eq_true rfl⟩) hl.1 rfl (Nat.le_of_ble_eq_true rfl) dX12_takeTurn_102 ⟨Nat.zero_le _, Nat.zero_le _⟩) hS (fun p36 f35 H locs hqf35 V I hS => ?_)
                obtain ⟨hqf35, ghqf35⟩ := hqf35
                replace hG := gLt_e hG (ghqf35)
                have I : cI ks τ L ψ f35 := by rw [show p36 = ψ from hqf35] at I; exact I
                exact cRetV C9 hr hlk hN hNs V I hS (⟨rfl, hG.symm⟩) dX12_takeTurn_105
              · have tk33 : ty τ L y25 1 := ⟨hL33, hk33⟩
                obtain ⟨v38_0, v38_1, v38_2, v38_3, v38_4, hf38, t38_2⟩ := op1 I tk33
                replace hG := gIf_n hG (view_cn hf38 (by decide : 1 ≠ 0))
                replace hG := gIf_p hG (view_c hf38)
                refine cGoV (cRunU (As := [.ref yO, .ref (κ.1 u14)]) (rest := []) C9 hml hN hNs V I hS (cRc C9 V tk33.1 hf38 rfl) (c_X2_perform l D ks τ L A N hN κ hN0 ψ f22 y25 yO u14 tk33 t_yO hu14 ) (va_cwA 2 hts gA_X12_259_X2 rfl rfl rfl (h0.2.2.2.2.2.2.2.2.1 _ (by simp [nwL])) okU_X12_259 ⟨Nat.le_of_ble_eq_true rfl, Nat.le_of_ble_eq_true rfl⟩) hl.1 rfl (Nat.le_of_ble_eq_true rfl) dX12_takeTurn_102 ⟨Nat.zero_le _, Nat.zero_le _⟩) hS (fun p40 f39 H locs hqf39 V I hS => ?_)
                obtain ⟨hqf39, ghqf39⟩ := hqf39
                replace hG := gLt_e hG (ghqf39)
                have I : cI ks τ L ψ f39 := by rw [show p40 = ψ from hqf39] at I; exact I
                exact cRetV C9 hr hlk hN hNs V I hS (⟨rfl, hG.symm⟩) dX12_takeTurn_105
              · have tk33 : ty τ L y25 2 := ⟨hL33, hk33⟩
                obtain ⟨v42_0, v42_1, v42_2, v42_3, hf42, t42_2⟩ := op2 I tk33
                replace hG := gIf_n hG (view_cn hf42 (by decide : 2 ≠ 0))
                replace hG := gIf_n hG (view_cn hf42 (by decide : 2 ≠ 1))
                replace hG := gIf_p hG (view_c hf42)
                refine cGoV (cRunU (As := [.ref yO, .ref (κ.1 u14)]) (rest := []) C9 hml hN hNs V I hS (cRc C9 V tk33.1 hf42 rfl) (c_X3_perform l D ks τ L A N hN κ hN0 ψ f22 y25 yO u14 tk33 t_yO hu14 ) (va_cwA 2 hts gA_X12_259_X3 rfl rfl rfl (h0.2.2.2.2.2.2.2.2.1 _ (by simp [nwL])) okU_X12_259 ⟨Nat.le_of_ble_eq_true rfl, Nat.le_of_ble_eq_true rfl⟩) hl.1 rfl (Nat.le_of_ble_eq_true rfl) dX12_takeTurn_102 ⟨Nat.zero_le _, Nat.zero_le _⟩) hS (fun p44 f43 H locs hqf43 V I hS => ?_)
                obtain ⟨hqf43, ghqf43⟩ := hqf43
                replace hG := gLt_e hG (ghqf43)
                have I : cI ks τ L ψ f43 := by rw [show p44 = ψ from hqf43] at I; exact I
                exact cRetV C9 hr hlk hN hNs V I hS (⟨rfl, hG.symm⟩) dX12_takeTurn_105
              · have tk33 : ty τ L y25 3 := ⟨hL33, hk33⟩
                obtain ⟨v46_0, v46_1, v46_2, v46_3, v46_4, v46_5, v46_6, hf46, t46_2, t46_6⟩ := op3 I tk33
                replace hG := gIf_n hG (view_cn hf46 (by decide : 3 ≠ 0))
                replace hG := gIf_n hG (view_cn hf46 (by decide : 3 ≠ 1))
                replace hG := gIf_n hG (view_cn hf46 (by decide : 3 ≠ 2))
                replace hG := gIf_p hG (view_c hf46)
                refine cGoV (cRunU (As := [.ref yO, .ref (κ.1 u14)]) (rest := []) C9 hml hN hNs V I hS (cRc C9 V tk33.1 hf46 rfl) (c_X4_perform l D ks τ L A N hN κ hN0 ψ f22 y25 yO u14 tk33 t_yO hu14 ) (va_cwA 2 hts gA_X12_259_X4 rfl rfl rfl (h0.2.2.2.2.2.2.2.2.1 _ (by simp [nwL])) okU_X12_259 ⟨Nat.le_of_ble_eq_true rfl, Nat.le_of_ble_eq_true rfl⟩) hl.1 rfl (Nat.le_of_ble_eq_true rfl) dX12_takeTurn_102 ⟨Nat.zero_le _, Nat.zero_le _⟩) hS (fun p48 f47 H locs hqf47 V I hS => ?_)
                obtain ⟨hqf47, ghqf47⟩ := hqf47
                replace hG := gLt_e hG (ghqf47)
                have I : cI ks τ L ψ f47 := by rw [show p48 = ψ from hqf47] at I; exact I
                exact cRetV C9 hr hlk hN hNs V I hS (⟨rfl, hG.symm⟩) dX12_takeTurn_105
              · have tk33 : ty τ L y25 4 := ⟨hL33, hk33⟩
                obtain ⟨v50_0, v50_1, v50_2, v50_3, v50_4, v50_5, c50, hf50, t50_2, t50_3, hc50, h050, h150⟩ := op4 I tk33
                replace hG := gIf_n hG (view_cn hf50 (by decide : 4 ≠ 0))
                replace hG := gIf_n hG (view_cn hf50 (by decide : 4 ≠ 1))
                replace hG := gIf_n hG (view_cn hf50 (by decide : 4 ≠ 2))
                replace hG := gIf_n hG (view_cn hf50 (by decide : 4 ≠ 3))
                replace hG := gIf_p hG (view_c hf50)
                refine cGoV (cRunU (As := [.ref yO, .ref (κ.1 u14)]) (rest := []) C9 hml hN hNs V I hS (cRc C9 V tk33.1 hf50 rfl) (c_X5_perform l D ks τ L A N hN κ hN0 ψ f22 y25 yO u14 tk33 t_yO hu14 ) (va_cwA 2 hts gA_X12_259_X5 rfl rfl rfl (h0.2.2.2.2.2.2.2.2.1 _ (by simp [nwL])) okU_X12_259 ⟨Nat.le_of_ble_eq_true rfl, Nat.le_of_ble_eq_true rfl⟩) hl.1 rfl (Nat.le_of_ble_eq_true rfl) dX12_takeTurn_102 ⟨Nat.zero_le _, Nat.zero_le _⟩) hS (fun p52 f51 H locs hqf51 V I hS => ?_)
                obtain ⟨hqf51, ghqf51⟩ := hqf51
                replace hG := gLt_e hG (ghqf51)
                have I : cI ks τ L ψ f51 := by rw [show p52 = ψ from hqf51] at I; exact I
                exact cRetV C9 hr hlk hN hNs V I hS (⟨rfl, hG.symm⟩) dX12_takeTurn_105
              · have tk33 : ty τ L y25 6 := ⟨hL33, hk33⟩
                obtain ⟨v54_0, v54_1, v54_2, v54_3, hf54, t54_2⟩ := op6 I tk33
                replace hG := gIf_n hG (view_cn hf54 (by decide : 6 ≠ 0))
                replace hG := gIf_n hG (view_cn hf54 (by decide : 6 ≠ 1))
                replace hG := gIf_n hG (view_cn hf54 (by decide : 6 ≠ 2))
                replace hG := gIf_n hG (view_cn hf54 (by decide : 6 ≠ 3))
                replace hG := gIf_n hG (view_cn hf54 (by decide : 6 ≠ 4))
                refine cGoV (cRunU (As := [.ref yO, .ref (κ.1 u14)]) (rest := []) C9 hml hN hNs V I hS (cRc C9 V tk33.1 hf54 rfl) (c_X7_perform l D ks τ L A N hN κ hN0 ψ f22 y25 yO u14 tk33 t_yO hu14 ) (va_cwA 2 hts gA_X12_259_X7 rfl rfl rfl (h0.2.2.2.2.2.2.2.2.1 _ (by simp [nwL])) okU_X12_259 ⟨Nat.le_of_ble_eq_true rfl, Nat.le_of_ble_eq_true rfl⟩) hl.1 rfl (Nat.le_of_ble_eq_true rfl) dX12_takeTurn_102 ⟨Nat.zero_le _, Nat.zero_le _⟩) hS (fun p56 f55 H locs hqf55 V I hS => ?_)
                obtain ⟨hqf55, ghqf55⟩ := hqf55
                replace hG := gLt_e hG (ghqf55)
                have I : cI ks τ L ψ f55 := by rw [show p56 = ψ from hqf55] at I; exact I
                exact cRetV C9 hr hlk hN hNs V I hS (⟨rfl, hG.symm⟩) dX12_takeTurn_105
            · replace hG := gIf_n hG c32
              refine lv_aload_n hx hb dX12_takeTurn_91 rfl (lv_at hl 3 rfl) ?_
              refine lv_iconst (v := 2) hx hb dX12_takeTurn_92 (by decide) ?_
              obtain ⟨v58_0, v58_1, v58_2, v58_3, v58_4, v58_5, v58_6, v58_7, v58_8, v58_9, v58_10, v58_11, v58_12, hf58, t58_7, t58_8, t58_11⟩ := op7 I t_yO
              refine cGoV (cRunV (As := [.int 2]) (rest := []) C9 hml hN hNs V I hS t_yO.1 hf58 rfl (c_X8_fail l D ks τ L A N hN  ψ f22 yO 2 t_yO ) gC_X12_256 okC_X8_fail ⟨rfl, rfl, Nat.le_of_ble_eq_true rfl, Nat.le_of_ble_eq_true rfl⟩ hl.1 rfl (Nat.le_of_ble_eq_true rfl) dX12_takeTurn_93 ⟨Nat.zero_le _, Nat.zero_le _⟩) hS (fun p60 f59 H locs hqf59 V I hS => ?_)
              obtain ⟨hqf59, ghqf59⟩ := hqf59
              replace hG := gLt_e hG (ghqf59)
              have I : cI ks τ L ψ f59 := by rw [show p60 = ψ from hqf59] at I; exact I
              refine lv_goto (tgt := 105) hx hb dX12_takeTurn_96 (by decide) ?_
              exact cRetV C9 hr hlk hN hNs V I hS (⟨rfl, hG.symm⟩) dX12_takeTurn_105
        · replace hG := gIf_p hG c16
          refine lv_aload_n hx hb dX12_takeTurn_59 rfl (lv_at hl 2 rfl) ?_
          refine lv_aload_n hx hb dX12_takeTurn_60 rfl (lv_at hl 3 rfl) ?_
          refine lv_aload_n hx hb dX12_takeTurn_61 rfl (lv_at hl 0 rfl) ?_
          obtain ⟨v62_0, v62_1, v62_2, v62_3, v62_4, v62_5, hf62, t62_0, t62_1, t62_2⟩ := op9 I t_o0
          refine cGoV (cRunV (As := [.ref yO, .ref (κ.1 u14)]) (rest := []) C9 hml hN hNs V I hS t_o0.1 hf62 rfl (c_X12_doAlone l D ks τ L A N hN κ hN0 ψ f11 o0 yO u14 t_o0 t_yO hu14 ) gC_X12_249 okC_X12_doAlone ⟨rfl, rfl, Nat.le_of_ble_eq_true rfl, Nat.le_of_ble_eq_true rfl⟩ hl.1 rfl (Nat.le_of_ble_eq_true rfl) dX12_takeTurn_62 ⟨Nat.zero_le _, Nat.zero_le _⟩) hS (fun p64 f63 H locs hqf63 V I hS => ?_)
          obtain ⟨hqf63, ghqf63⟩ := hqf63
          replace hG := gLt_e hG (ghqf63)
          have I : cI ks τ L ψ f63 := by rw [show p64 = ψ from hqf63] at I; exact I
          exact cRetV C9 hr hlk hN hNs V I hS (⟨rfl, hG.symm⟩) dX12_takeTurn_65
      · exact absurd c10 (by decide)
    · replace hG := gO_s hG
      have hy9 := t5_7 y9 rfl
      refine W.eq (g2 := F0 m 27 ls [.ref y9]) rfl ?_
      refine lv_astore_n (lv' := [(3, .ref y9), (0, .ref o0), (1, .ref yO)]) hx hb dX12_takeTurn_27 rfl hl (by decide) rfl (fun ls hl => ?_)
      refine lv_aload_n hx hb dX12_takeTurn_28 rfl (lv_at hl 0 rfl) ?_
      refine cIns C9 h0 V I hy9 tCl_X12_147 dX12_takeTurn_29 (fun h66 vh66 => ?_) (fun vh66 => ?_)
      · replace hG := gIf_p hG vh66
        refine lv_if_eq (tgt := 46) hx hb dX12_takeTurn_32 (by decide) (fun c67 => ?_) (fun c67 => ?_)
        · exact absurd c67 (by decide)
        · refine lv_aload_n hx hb dX12_takeTurn_35 rfl (lv_at hl 0 rfl) ?_
          obtain ⟨v68_0, v68_1, v68_2, v68_3, v68_4, v68_5, v68_6, hf68, t68_2, t68_6⟩ := op3 I h66
          refine cCst C9 h0 V h66.1 hf68 tCl_X12_147 dX12_takeTurn_36 ?_
          refine lv_astore_n (lv' := [(2, .ref y9), (3, .ref y9), (0, .ref o0), (1, .ref yO)]) hx hb dX12_takeTurn_39 rfl hl (by decide) rfl (fun ls hl => ?_)
          refine lv_aload_n hx hb dX12_takeTurn_40 rfl (lv_at hl 0 rfl) ?_
          refine lv_aload_n hx hb dX12_takeTurn_41 rfl (lv_at hl 3 rfl) ?_
          refine cGoV (cRunV (As := [.ref yO]) (rest := []) C9 hml hN hNs V I hS h66.1 hf68 rfl (c_X4_tryAgain l D ks τ L A N hN  ψ f6 y9 yO h66 t_yO ) gC_X12_239 okC_X4_tryAgain ⟨rfl, rfl, Nat.le_of_ble_eq_true rfl, Nat.le_of_ble_eq_true rfl⟩ hl.1 rfl (Nat.le_of_ble_eq_true rfl) dX12_takeTurn_42 ⟨Nat.zero_le _, Nat.zero_le _⟩) hS (fun p70 f69 H locs hqf69 V I hS => ?_)
          obtain ⟨hqf69, ghqf69⟩ := hqf69
          replace hG := gLt_e hG (ghqf69)
          have I : cI ks τ L ψ f69 := by rw [show p70 = ψ from hqf69] at I; exact I
          exact cRetV C9 hr hlk hN hNs V I hS (⟨rfl, hG.symm⟩) dX12_takeTurn_45
      · replace hG := gIf_n hG vh66
        refine lv_if_eq (tgt := 46) hx hb dX12_takeTurn_32 (by decide) (fun c72 => ?_) (fun c72 => ?_)
        · refine lv_aload_n hx hb dX12_takeTurn_46 rfl (lv_at hl 2 rfl) ?_
          refine cGoQ (cRunV (As := []) (rest := []) C9 hml hN hNs V I hS t_yO.1 hf8 rfl (c_X8_word l D ks τ L A N hN κ hN0 ψ f6 yO t_yO ) gC_X12_242 okC_X8_word ⟨rfl, rfl, Nat.le_of_ble_eq_true rfl, Nat.le_of_ble_eq_true rfl⟩ hl.1 rfl (Nat.le_of_ble_eq_true rfl) dX12_takeTurn_47 ⟨Nat.zero_le _, Nat.zero_le _⟩) hS (fun r75 p74 f73 H locs hqf73 V I hS => ?_)
          obtain ⟨hqf73, u76, eu76, hu76, ghqf73⟩ := hqf73
          subst eu76
          replace hG := gC_e hG ghqf73
          have I : cI ks τ L ψ f73 := by rw [show p74 = ψ from hqf73] at I; exact I
          refine W.eq (g2 := F0 m 50 ls [.ref (κ.1 u76)]) rfl ?_
          refine lv_astore_n (lv' := [(2, .ref (κ.1 u76)), (3, .ref y9), (0, .ref o0), (1, .ref yO)]) hx hb dX12_takeTurn_50 rfl hl (by decide) rfl (fun ls hl => ?_)
          refine lv_aload_n hx hb dX12_takeTurn_51 rfl (lv_at hl 0 rfl) ?_
          refine cGk hu76 C9 h0 hS tCf_X12_246 dX12_takeTurn_52 (fun x77 ex77 => ?_)
          replace hG := gLt_e hG (ex77)
          refine lv_iconst (v := (-1)) hx hb dX12_takeTurn_55 (by decide) ?_
          refine lv_icmp_ne (tgt := 66) hx hb dX12_takeTurn_56 (by decide) (fun c78 => ?_) (fun c78 => ?_)
          · replace hG := gIf_n hG c78
            refine lv_aload_n hx hb dX12_takeTurn_66 rfl (lv_at hl 2 rfl) ?_
            refine lv_aload_n hx hb dX12_takeTurn_67 rfl (lv_at hl 3 rfl) ?_
            refine lv_iconst (v := 0) hx hb dX12_takeTurn_68 (by decide) ?_
            obtain ⟨v79_0, v79_1, v79_2, v79_3, v79_4, v79_5, v79_6, v79_7, v79_8, v79_9, v79_10, v79_11, v79_12, hf79, t79_7, t79_8, t79_11⟩ := op7 I t_yO
            refine cGoI (cRunV (As := [.int 0]) (rest := [.ref o0]) C9 hml hN hNs V I hS t_yO.1 hf79 rfl (c_X8_operand l D ks τ L A N hN  ψ f73 yO 0 t_yO ) gC_X12_253 okC_X8_operand ⟨rfl, rfl, Nat.le_of_ble_eq_true rfl, Nat.le_of_ble_eq_true rfl⟩ hl.1 rfl (Nat.le_of_ble_eq_true rfl) dX12_takeTurn_69 ⟨Nat.zero_le _, Nat.zero_le _⟩) hS (fun r82 p81 f80 H locs hqf80 V I hS => ?_)
            obtain ⟨hqf80, ghqf80⟩ := hqf80
            replace hG := gC_e hG ghqf80
            have I : cI ks τ L ψ f80 := by rw [show p81 = ψ from hqf80] at I; exact I
            obtain ⟨v83_0, v83_1, v83_2, v83_3, v83_4, v83_5, hf83, t83_0, t83_1, t83_2⟩ := op9 I t_o0
            refine cGoQ (cRunV (As := [.int r82]) (rest := []) C9 hml hN hNs V I hS t_o0.1 hf83 rfl (c_X12_syncAt l D ks τ L A N hN  ψ f80 o0 r82 t_o0 ) gC_X12_176 okC_X12_syncAt ⟨rfl, rfl, Nat.le_of_ble_eq_true rfl, Nat.le_of_ble_eq_true rfl⟩ hl.1 rfl (Nat.le_of_ble_eq_true rfl) dX12_takeTurn_72 ⟨Nat.zero_le _, Nat.zero_le _⟩) hS (fun r86 p85 f84 H locs hqf84 V I hS => ?_)
            obtain ⟨hqf84, ghqf84⟩ := hqf84
            replace hG := gC_e hG ghqf84
            have I : cI ks τ L ψ f84 := by rw [show p85 = ψ from hqf84.1] at I; exact I
            replace hG := gO_e hG (rfl)
            rcases r86 with _ | y87
            · replace hG := gO_n hG
              refine W.eq (g2 := F0 m 75 ls [.null]) rfl ?_
              refine lv_astore_nN (lv' := [(3, .null), (2, .ref (κ.1 u76)), (0, .ref o0), (1, .ref yO)]) hx hb dX12_takeTurn_75 rfl hl (by decide) rfl (fun ls hl => ?_)
              refine lv_aload_nN hx hb dX12_takeTurn_76 rfl (lv_at hl 0 rfl) ?_
              refine lv_ifnullN (tgt := 91) hx hb dX12_takeTurn_77 (by decide) ?_
              refine lv_aload_n hx hb dX12_takeTurn_91 rfl (lv_at hl 3 rfl) ?_
              refine lv_iconst (v := 2) hx hb dX12_takeTurn_92 (by decide) ?_
              obtain ⟨v88_0, v88_1, v88_2, v88_3, v88_4, v88_5, v88_6, v88_7, v88_8, v88_9, v88_10, v88_11, v88_12, hf88, t88_7, t88_8, t88_11⟩ := op7 I t_yO
              refine cGoV (cRunV (As := [.int 2]) (rest := []) C9 hml hN hNs V I hS t_yO.1 hf88 rfl (c_X8_fail l D ks τ L A N hN  ψ f84 yO 2 t_yO ) gC_X12_256 okC_X8_fail ⟨rfl, rfl, Nat.le_of_ble_eq_true rfl, Nat.le_of_ble_eq_true rfl⟩ hl.1 rfl (Nat.le_of_ble_eq_true rfl) dX12_takeTurn_93 ⟨Nat.zero_le _, Nat.zero_le _⟩) hS (fun p90 f89 H locs hqf89 V I hS => ?_)
              obtain ⟨hqf89, ghqf89⟩ := hqf89
              replace hG := gLt_e hG (ghqf89)
              have I : cI ks τ L ψ f89 := by rw [show p90 = ψ from hqf89] at I; exact I
              refine lv_goto (tgt := 105) hx hb dX12_takeTurn_96 (by decide) ?_
              exact cRetV C9 hr hlk hN hNs V I hS (⟨rfl, hG.symm⟩) dX12_takeTurn_105
            · replace hG := gO_s hG
              have hy87 := hqf84.2 y87 rfl
              refine W.eq (g2 := F0 m 75 ls [.ref y87]) rfl ?_
              refine lv_astore_n (lv' := [(3, .ref y87), (2, .ref (κ.1 u76)), (0, .ref o0), (1, .ref yO)]) hx hb dX12_takeTurn_75 rfl hl (by decide) rfl (fun ls hl => ?_)
              refine lv_aload_n hx hb dX12_takeTurn_76 rfl (lv_at hl 0 rfl) ?_
              refine lv_ifnull hx hb dX12_takeTurn_77 ?_
              refine lv_aload_n hx hb dX12_takeTurn_80 rfl (lv_at hl 0 rfl) ?_
              refine cGS1 C9 V I hy87 tCf_X12_203 dX12_takeTurn_81 (fun x92 ex92 => ?_)
              replace hG := gLt_e hG (ex92)
              refine lv_aload_n hx hb dX12_takeTurn_84 rfl (lv_at hl 1 rfl) ?_
              refine cGk hu76 C9 h0 hS tCf_X12_246 dX12_takeTurn_85 (fun x93 ex93 => ?_)
              replace hG := gLt_e hG (ex93)
              refine lv_icmp_eq (tgt := 99) hx hb dX12_takeTurn_88 (by decide) (fun c94 => ?_) (fun c94 => ?_)
              · replace hG := gIf_p hG c94
                refine lv_aload_n hx hb dX12_takeTurn_99 rfl (lv_at hl 0 rfl) ?_
                refine lv_aload_n hx hb dX12_takeTurn_100 rfl (lv_at hl 3 rfl) ?_
                refine lv_aload_n hx hb dX12_takeTurn_101 rfl (lv_at hl 1 rfl) ?_
                obtain ⟨hL95, hk95⟩ := id hy87
                rcases hk95 with hk95 | hk95 | hk95 | hk95 | hk95 | hk95
                · have tk95 : ty τ L y87 0 := ⟨hL95, hk95⟩
                  obtain ⟨v96_0, v96_1, v96_2, v96_3, v96_4, hf96, t96_2⟩ := op0 I tk95
                  replace hG := gIf_p hG (view_c hf96)
                  refine cGoV (cRunU (As := [.ref yO, .ref (κ.1 u76)]) (rest := []) C9 hml hN hNs V I hS (cRc C9 V tk95.1 hf96 rfl) (c_X1_perform l D ks τ L A N hN κ hN0 ψ f84 y87 yO u76 tk95 t_yO hu76 ) (va_cwA 2 hts gA_X12_259_X1 rfl rfl rfl (h0.2.2.2.2.2.2.2.2.1 _ (by simp [nwL])) okU_X12_259 ⟨Nat.le_of_ble_eq_true rfl, Nat.le_of_ble_eq_true rfl⟩) hl.1 rfl (Nat.le_of_ble_eq_true rfl) dX12_takeTurn_102 ⟨Nat.zero_le _, Nat.zero_le _⟩) hS (fun p98 f97 H locs hqf97 V I hS => ?_)
                  obtain ⟨hqf97, ghqf97⟩ := hqf97
                  replace hG := gLt_e hG (ghqf97)
                  have I : cI ks τ L ψ f97 := by rw [show p98 = ψ from hqf97] at I; exact I
                  exact cRetV C9 hr hlk hN hNs V I hS (⟨rfl, hG.symm⟩) dX12_takeTurn_105
                · have tk95 : ty τ L y87 1 := ⟨hL95, hk95⟩
                  obtain ⟨v100_0, v100_1, v100_2, v100_3, v100_4, hf100, t100_2⟩ := op1 I tk95
                  replace hG := gIf_n hG (view_cn hf100 (by decide : 1 ≠ 0))
                  replace hG := gIf_p hG (view_c hf100)
                  refine cGoV (cRunU (As := [.ref yO, .ref (κ.1 u76)]) (rest := []) C9 hml hN hNs V I hS (cRc C9 V tk95.1 hf100 rfl) (c_X2_perform l D ks τ L A N hN κ hN0 ψ f84 y87 yO u76 tk95 t_yO hu76 ) (va_cwA 2 hts gA_X12_259_X2 rfl rfl rfl (h0.2.2.2.2.2.2.2.2.1 _ (by simp [nwL])) okU_X12_259 ⟨Nat.le_of_ble_eq_true rfl, Nat.le_of_ble_eq_true rfl⟩) hl.1 rfl (Nat.le_of_ble_eq_true rfl) dX12_takeTurn_102 ⟨Nat.zero_le _, Nat.zero_le _⟩) hS (fun p102 f101 H locs hqf101 V I hS => ?_)
                  obtain ⟨hqf101, ghqf101⟩ := hqf101
                  replace hG := gLt_e hG (ghqf101)
                  have I : cI ks τ L ψ f101 := by rw [show p102 = ψ from hqf101] at I; exact I
                  exact cRetV C9 hr hlk hN hNs V I hS (⟨rfl, hG.symm⟩) dX12_takeTurn_105
                · have tk95 : ty τ L y87 2 := ⟨hL95, hk95⟩
                  obtain ⟨v104_0, v104_1, v104_2, v104_3, hf104, t104_2⟩ := op2 I tk95
                  replace hG := gIf_n hG (view_cn hf104 (by decide : 2 ≠ 0))
                  replace hG := gIf_n hG (view_cn hf104 (by decide : 2 ≠ 1))
                  replace hG := gIf_p hG (view_c hf104)
                  refine cGoV (cRunU (As := [.ref yO, .ref (κ.1 u76)]) (rest := []) C9 hml hN hNs V I hS (cRc C9 V tk95.1 hf104 rfl) (c_X3_perform l D ks τ L A N hN κ hN0 ψ f84 y87 yO u76 tk95 t_yO hu76 ) (va_cwA 2 hts gA_X12_259_X3 rfl rfl rfl (h0.2.2.2.2.2.2.2.2.1 _ (by simp [nwL])) okU_X12_259 ⟨Nat.le_of_ble_eq_true rfl, Nat.le_of_ble_eq_true rfl⟩) hl.1 rfl (Nat.le_of_ble_eq_true rfl) dX12_takeTurn_102 ⟨Nat.zero_le _, Nat.zero_le _⟩) hS (fun p106 f105 H locs hqf105 V I hS => ?_)
                  obtain ⟨hqf105, ghqf105⟩ := hqf105
                  replace hG := gLt_e hG (ghqf105)
                  have I : cI ks τ L ψ f105 := by rw [show p106 = ψ from hqf105] at I; exact I
                  exact cRetV C9 hr hlk hN hNs V I hS (⟨rfl, hG.symm⟩) dX12_takeTurn_105
                · have tk95 : ty τ L y87 3 := ⟨hL95, hk95⟩
                  obtain ⟨v108_0, v108_1, v108_2, v108_3, v108_4, v108_5, v108_6, hf108, t108_2, t108_6⟩ := op3 I tk95
                  replace hG := gIf_n hG (view_cn hf108 (by decide : 3 ≠ 0))
                  replace hG := gIf_n hG (view_cn hf108 (by decide : 3 ≠ 1))
                  replace hG := gIf_n hG (view_cn hf108 (by decide : 3 ≠ 2))
                  replace hG := gIf_p hG (view_c hf108)
                  refine cGoV (cRunU (As := [.ref yO, .ref (κ.1 u76)]) (rest := []) C9 hml hN hNs V I hS (cRc C9 V tk95.1 hf108 rfl) (c_X4_perform l D ks τ L A N hN κ hN0 ψ f84 y87 yO u76 tk95 t_yO hu76 ) (va_cwA 2 hts gA_X12_259_X4 rfl rfl rfl (h0.2.2.2.2.2.2.2.2.1 _ (by simp [nwL])) okU_X12_259 ⟨Nat.le_of_ble_eq_true rfl, Nat.le_of_ble_eq_true rfl⟩) hl.1 rfl (Nat.le_of_ble_eq_true rfl) dX12_takeTurn_102 ⟨Nat.zero_le _, Nat.zero_le _⟩) hS (fun p110 f109 H locs hqf109 V I hS => ?_)
                  obtain ⟨hqf109, ghqf109⟩ := hqf109
                  replace hG := gLt_e hG (ghqf109)
                  have I : cI ks τ L ψ f109 := by rw [show p110 = ψ from hqf109] at I; exact I
                  exact cRetV C9 hr hlk hN hNs V I hS (⟨rfl, hG.symm⟩) dX12_takeTurn_105
                · have tk95 : ty τ L y87 4 := ⟨hL95, hk95⟩
                  obtain ⟨v112_0, v112_1, v112_2, v112_3, v112_4, v112_5, c112, hf112, t112_2, t112_3, hc112, h0112, h1112⟩ := op4 I tk95
                  replace hG := gIf_n hG (view_cn hf112 (by decide : 4 ≠ 0))
                  replace hG := gIf_n hG (view_cn hf112 (by decide : 4 ≠ 1))
                  replace hG := gIf_n hG (view_cn hf112 (by decide : 4 ≠ 2))
                  replace hG := gIf_n hG (view_cn hf112 (by decide : 4 ≠ 3))
                  replace hG := gIf_p hG (view_c hf112)
                  refine cGoV (cRunU (As := [.ref yO, .ref (κ.1 u76)]) (rest := []) C9 hml hN hNs V I hS (cRc C9 V tk95.1 hf112 rfl) (c_X5_perform l D ks τ L A N hN κ hN0 ψ f84 y87 yO u76 tk95 t_yO hu76 ) (va_cwA 2 hts gA_X12_259_X5 rfl rfl rfl (h0.2.2.2.2.2.2.2.2.1 _ (by simp [nwL])) okU_X12_259 ⟨Nat.le_of_ble_eq_true rfl, Nat.le_of_ble_eq_true rfl⟩) hl.1 rfl (Nat.le_of_ble_eq_true rfl) dX12_takeTurn_102 ⟨Nat.zero_le _, Nat.zero_le _⟩) hS (fun p114 f113 H locs hqf113 V I hS => ?_)
                  obtain ⟨hqf113, ghqf113⟩ := hqf113
                  replace hG := gLt_e hG (ghqf113)
                  have I : cI ks τ L ψ f113 := by rw [show p114 = ψ from hqf113] at I; exact I
                  exact cRetV C9 hr hlk hN hNs V I hS (⟨rfl, hG.symm⟩) dX12_takeTurn_105
                · have tk95 : ty τ L y87 6 := ⟨hL95, hk95⟩
                  obtain ⟨v116_0, v116_1, v116_2, v116_3, hf116, t116_2⟩ := op6 I tk95
                  replace hG := gIf_n hG (view_cn hf116 (by decide : 6 ≠ 0))
                  replace hG := gIf_n hG (view_cn hf116 (by decide : 6 ≠ 1))
                  replace hG := gIf_n hG (view_cn hf116 (by decide : 6 ≠ 2))
                  replace hG := gIf_n hG (view_cn hf116 (by decide : 6 ≠ 3))
                  replace hG := gIf_n hG (view_cn hf116 (by decide : 6 ≠ 4))
                  refine cGoV (cRunU (As := [.ref yO, .ref (κ.1 u76)]) (rest := []) C9 hml hN hNs V I hS (cRc C9 V tk95.1 hf116 rfl) (c_X7_perform l D ks τ L A N hN κ hN0 ψ f84 y87 yO u76 tk95 t_yO hu76 ) (va_cwA 2 hts gA_X12_259_X7 rfl rfl rfl (h0.2.2.2.2.2.2.2.2.1 _ (by simp [nwL])) okU_X12_259 ⟨Nat.le_of_ble_eq_true rfl, Nat.le_of_ble_eq_true rfl⟩) hl.1 rfl (Nat.le_of_ble_eq_true rfl) dX12_takeTurn_102 ⟨Nat.zero_le _, Nat.zero_le _⟩) hS (fun p118 f117 H locs hqf117 V I hS => ?_)
                  obtain ⟨hqf117, ghqf117⟩ := hqf117
                  replace hG := gLt_e hG (ghqf117)
                  have I : cI ks τ L ψ f117 := by rw [show p118 = ψ from hqf117] at I; exact I
                  exact cRetV C9 hr hlk hN hNs V I hS (⟨rfl, hG.symm⟩) dX12_takeTurn_105
              · replace hG := gIf_n hG c94
                refine lv_aload_n hx hb dX12_takeTurn_91 rfl (lv_at hl 3 rfl) ?_
                refine lv_iconst (v := 2) hx hb dX12_takeTurn_92 (by decide) ?_
                obtain ⟨v120_0, v120_1, v120_2, v120_3, v120_4, v120_5, v120_6, v120_7, v120_8, v120_9, v120_10, v120_11, v120_12, hf120, t120_7, t120_8, t120_11⟩ := op7 I t_yO
                refine cGoV (cRunV (As := [.int 2]) (rest := []) C9 hml hN hNs V I hS t_yO.1 hf120 rfl (c_X8_fail l D ks τ L A N hN  ψ f84 yO 2 t_yO ) gC_X12_256 okC_X8_fail ⟨rfl, rfl, Nat.le_of_ble_eq_true rfl, Nat.le_of_ble_eq_true rfl⟩ hl.1 rfl (Nat.le_of_ble_eq_true rfl) dX12_takeTurn_93 ⟨Nat.zero_le _, Nat.zero_le _⟩) hS (fun p122 f121 H locs hqf121 V I hS => ?_)
                obtain ⟨hqf121, ghqf121⟩ := hqf121
                replace hG := gLt_e hG (ghqf121)
                have I : cI ks τ L ψ f121 := by rw [show p122 = ψ from hqf121] at I; exact I
                refine lv_goto (tgt := 105) hx hb dX12_takeTurn_96 (by decide) ?_
                exact cRetV C9 hr hlk hN hNs V I hS (⟨rfl, hG.symm⟩) dX12_takeTurn_105
          · replace hG := gIf_p hG c78
            refine lv_aload_n hx hb dX12_takeTurn_59 rfl (lv_at hl 2 rfl) ?_
            refine lv_aload_n hx hb dX12_takeTurn_60 rfl (lv_at hl 3 rfl) ?_
            refine lv_aload_n hx hb dX12_takeTurn_61 rfl (lv_at hl 0 rfl) ?_
            obtain ⟨v124_0, v124_1, v124_2, v124_3, v124_4, v124_5, hf124, t124_0, t124_1, t124_2⟩ := op9 I t_o0
            refine cGoV (cRunV (As := [.ref yO, .ref (κ.1 u76)]) (rest := []) C9 hml hN hNs V I hS t_o0.1 hf124 rfl (c_X12_doAlone l D ks τ L A N hN κ hN0 ψ f73 o0 yO u76 t_o0 t_yO hu76 ) gC_X12_249 okC_X12_doAlone ⟨rfl, rfl, Nat.le_of_ble_eq_true rfl, Nat.le_of_ble_eq_true rfl⟩ hl.1 rfl (Nat.le_of_ble_eq_true rfl) dX12_takeTurn_62 ⟨Nat.zero_le _, Nat.zero_le _⟩) hS (fun p126 f125 H locs hqf125 V I hS => ?_)
            obtain ⟨hqf125, ghqf125⟩ := hqf125
            replace hG := gLt_e hG (ghqf125)
            have I : cI ks τ L ψ f125 := by rw [show p126 = ψ from hqf125] at I; exact I
            exact cRetV C9 hr hlk hN hNs V I hS (⟨rfl, hG.symm⟩) dX12_takeTurn_65
        · exact absurd c72 (by decide)
def FC_X12_blockerOf (X : xS) (o0 : Nat) (i1 : Int32) : Int32 × xS := if (i1 : Int32) < 0 then ((((-1) : Int32), X)) else (gLt ((xR X o0 2).getD 0 : Nat) (fun v2_2 => if (i1 : Int32) < 8 then (gLt ((xQ X v2_2 i1).getD 0 : Nat) (fun y5 => gLt (xI X y5 1 : Int32) (fun v6_1 => if (v6_1 : Int32) = 2 then (gO (xR X y5 7) ((((-1) : Int32), X)) (fun y8 => if xC X y8 = 3 then (gO (xR X y5 8) (gLt ((xR X y8 2).getD 0 : Nat) (fun v12_2 => if (none : Option Nat) = (some v12_2) then (gLt (xI X y8 3 : Int32) (fun v12_3 => ((v12_3 : Int32), X))) else ((((-1) : Int32), X)))) (fun y13 => gLt ((xR X y8 2).getD 0 : Nat) (fun v12_2 => if ((some y13) : Option Nat) = (some v12_2) then (gLt (xI X y8 3 : Int32) (fun v12_3 => ((v12_3 : Int32), X))) else ((((-1) : Int32), X))))) else ((((-1) : Int32), X)))) else ((((-1) : Int32), X))))) else ((((-1) : Int32), X))))
set_option maxHeartbeats 200000 in
set_option maxRecDepth 100000 in
theorem c_X12_blockerOf (l : Launch) (D : va_G) (ks : kS) (τ : Nat → Nat) (L : List Nat) (A : Nat → Prop) (N : State → Prop) (hN : cNk A N) (κ : kC) (hN0 : ∀ U, N U → N0 κ A U) (ψ : Int32) (f : Nat → va_E) (o0 : Nat) (i1 : Int32) (t_o0 : ty τ L o0 9) : Met l yX12_blockerOf (Cond.code yX12_blockerOf cX12_blockerOf 5 (some .int) :: tC) ({ frames := 0, cells := 0, slots := 0, locals := 0 }) (va_Pc [.ref o0, .int i1] (cB D ks τ L A N (ψ, f))) (va_Qi (fun r9 x9 => (x9.1 = ψ) ∧ (r9, view x9.2) = FC_X12_blockerOf (view f) o0 i1) (cB D ks τ L A N) A) 0 0 A := by
  refine cMet (own := RX12) (by decide) rfl (Nat.le_of_ble_eq_true rfl) ?_
  intro p e s m below meth c ls C9 hml hr hlk V I hNs hl
  have hx := C9.1
  have hb := C9.2.1
  have hown := C9.2.2.1
  have hts := C9.2.2.2.1
  have h0 := hN0 s hNs
  have hS : va_S A s.heap s.heap [] := va_S.rf
  have hG := FC_X12_blockerOf.eq_1 (view f) o0 i1
  have hl : lv_has ls 5 [(0, .ref o0), (1, .int i1)] := hl
  refine lv_iload_n hx hb dX12_blockerOf_0 rfl (lv_at hl 1 rfl) ?_
  refine lv_if_lt (tgt := 13) hx hb dX12_blockerOf_1 (by decide) (fun c1 => ?_) (fun c1 => ?_)
  · replace hG := gIf_p hG c1
    refine lv_iconst (v := (-1)) hx hb dX12_blockerOf_13 (by decide) ?_
    exact cRetI C9 hr hlk hN hNs V I hS (⟨rfl, hG.symm⟩) dX12_blockerOf_14
  · replace hG := gIf_n hG c1
    refine lv_iload_n hx hb dX12_blockerOf_4 rfl (lv_at hl 1 rfl) ?_
    refine lv_aload_n hx hb dX12_blockerOf_5 rfl (lv_at hl 0 rfl) ?_
    obtain ⟨v2_0, v2_1, v2_2, v2_3, v2_4, v2_5, hf2, t2_0, t2_1, t2_2⟩ := op9 I t_o0
    refine cG C9 V t_o0.1 hf2 rfl tC_lay9 2 (by decide) tCf_X12_24 (Or.inl rfl) rfl dX12_blockerOf_6 ?_
    replace hG := gLt_e hG (view_gR hf2 rfl)
    obtain ⟨g3, hf3, hg3⟩ := op14 I t2_2
    refine cAl (t0 := 2) (v := 8) C9 V t2_2.1 hf3 rfl (by first | rfl | decide) dX12_blockerOf_9 ?_
    refine lv_icmp_lt (tgt := 15) hx hb dX12_blockerOf_10 (by decide) (fun c4 => ?_) (fun c4 => ?_)
    · replace hG := gIf_p hG c4
      refine lv_aload_n hx hb dX12_blockerOf_15 rfl (lv_at hl 0 rfl) ?_
      refine cG C9 V t_o0.1 hf2 rfl tC_lay9 2 (by decide) tCf_X12_24 (Or.inl rfl) rfl dX12_blockerOf_16 ?_
      refine lv_iload_n hx hb dX12_blockerOf_19 rfl (lv_at hl 1 rfl) ?_
      refine cLr (t0 := 2) C9 V t2_2.1 hf3 rfl (cvin (N := 8) rfl (ci_le c1) (c4)) dX12_blockerOf_20 ?_
      obtain ⟨y5, ey5, hy5⟩ := hg3 _ ((ca_lt8 (ci_le c1) c4))
      rw [ey5]
      replace hG := gLt_e hG (view_gQs hf3 ey5)
      refine W.eq (g2 := F0 m 21 ls [.ref y5]) rfl ?_
      refine lv_astore_n (lv' := [(2, .ref y5), (0, .ref o0), (1, .int i1)]) hx hb dX12_blockerOf_21 rfl hl (by decide) rfl (fun ls hl => ?_)
      refine lv_aload_n hx hb dX12_blockerOf_22 rfl (lv_at hl 0 rfl) ?_
      obtain ⟨v6_0, v6_1, v6_2, v6_3, v6_4, v6_5, v6_6, v6_7, v6_8, v6_9, v6_10, v6_11, v6_12, hf6, t6_7, t6_8, t6_11⟩ := op7 I hy5
      refine cG C9 V hy5.1 hf6 rfl tC_lay7 1 (by decide) tCf_X12_112 (Or.inl rfl) rfl dX12_blockerOf_23 ?_
      replace hG := gLt_e hG (view_gI hf6 rfl)
      refine lv_iconst (v := 2) hx hb dX12_blockerOf_26 (by decide) ?_
      refine lv_icmp_ne (tgt := 66) hx hb dX12_blockerOf_27 (by decide) (fun c7 => ?_) (fun c7 => ?_)
      · replace hG := gIf_n hG c7
        refine lv_iconst (v := (-1)) hx hb dX12_blockerOf_66 (by decide) ?_
        exact cRetI C9 hr hlk hN hNs V I hS (⟨rfl, hG.symm⟩) dX12_blockerOf_67
      · replace hG := gIf_p hG c7
        refine lv_aload_n hx hb dX12_blockerOf_30 rfl (lv_at hl 0 rfl) ?_
        refine cG C9 V hy5.1 hf6 rfl tC_lay7 7 (by decide) tCf_X12_143 (Or.inl rfl) rfl dX12_blockerOf_31 ?_
        replace hG := gO_e hG (view_gO hf6 rfl)
        rcases v6_7 with _ | y8
        · replace hG := gO_n hG
          refine W.eq (g2 := F0 m 34 ls [.null]) rfl ?_
          refine lv_astoreN (lv' := [(4, .null), (2, .ref y5), (0, .ref o0), (1, .int i1)]) hx hb dX12_blockerOf_34 hl (by decide) rfl (fun ls hl => ?_)
          refine lv_aloadN hx hb dX12_blockerOf_36 (lv_at hl 0 rfl) ?_
          refine lv_instN hx hb dX12_blockerOf_38 ?_
          refine lv_if_eq (tgt := 66) hx hb dX12_blockerOf_41 (by decide) (fun c9 => ?_) (fun c9 => ?_)
          · refine lv_iconst (v := (-1)) hx hb dX12_blockerOf_66 (by decide) ?_
            exact cRetI C9 hr hlk hN hNs V I hS (⟨rfl, hG.symm⟩) dX12_blockerOf_67
          · exact absurd c9 (by decide)
        · replace hG := gO_s hG
          have hy8 := t6_7 y8 rfl
          refine W.eq (g2 := F0 m 34 ls [.ref y8]) rfl ?_
          refine lv_astore (lv' := [(4, .ref y8), (2, .ref y5), (0, .ref o0), (1, .int i1)]) hx hb dX12_blockerOf_34 hl (by decide) rfl (fun ls hl => ?_)
          refine lv_aload hx hb dX12_blockerOf_36 (lv_at hl 0 rfl) ?_
          refine cIns C9 h0 V I hy8 tCl_X12_147 dX12_blockerOf_38 (fun h10 vh10 => ?_) (fun vh10 => ?_)
          · replace hG := gIf_p hG vh10
            refine lv_if_eq (tgt := 66) hx hb dX12_blockerOf_41 (by decide) (fun c11 => ?_) (fun c11 => ?_)
            · exact absurd c11 (by decide)
            · refine lv_aload hx hb dX12_blockerOf_44 (lv_at hl 0 rfl) ?_
              obtain ⟨v12_0, v12_1, v12_2, v12_3, v12_4, v12_5, v12_6, hf12, t12_2, t12_6⟩ := op3 I h10
              refine cCst C9 h0 V h10.1 hf12 tCl_X12_147 dX12_blockerOf_46 ?_
              refine lv_astore_n (lv' := [(3, .ref y8), (4, .ref y8), (2, .ref y5), (0, .ref o0), (1, .int i1)]) hx hb dX12_blockerOf_49 rfl hl (by decide) rfl (fun ls hl => ?_)
              refine lv_aload_n hx hb dX12_blockerOf_50 rfl (lv_at hl 2 rfl) ?_
              refine cG C9 V hy5.1 hf6 rfl tC_lay7 8 (by decide) tCf_X12_280 (Or.inl rfl) rfl dX12_blockerOf_51 ?_
              replace hG := gO_e hG (view_gO hf6 rfl)
              rcases v6_8 with _ | y13
              · replace hG := gO_n hG
                refine W.eq (g2 := F0 m 54 ls [.null]) rfl ?_
                refine lv_aload_n hx hb dX12_blockerOf_54 rfl (lv_at hl 0 rfl) ?_
                refine cG C9 V h10.1 hf12 rfl tC_lay3 2 (by decide) tCf_X12_281 (Or.inr tCs_X4_row) rfl dX12_blockerOf_55 ?_
                replace hG := gLt_e hG (view_gR hf12 rfl)
                refine lv_acmp_ne (rx := none) (ry := (some v12_2)) (tgt := 66) hx hb dX12_blockerOf_58 (by decide) (fun c14 => ?_) (fun c14 => ?_)
                · replace hG := gIf_n hG c14
                  refine lv_iconst (v := (-1)) hx hb dX12_blockerOf_66 (by decide) ?_
                  exact cRetI C9 hr hlk hN hNs V I hS (⟨rfl, hG.symm⟩) dX12_blockerOf_67
                · replace hG := gIf_p hG c14
                  refine lv_aload_n hx hb dX12_blockerOf_61 rfl (lv_at hl 0 rfl) ?_
                  refine cG C9 V h10.1 hf12 rfl tC_lay3 3 (by decide) tCf_X12_282 (Or.inl rfl) rfl dX12_blockerOf_62 ?_
                  replace hG := gLt_e hG (view_gI hf12 rfl)
                  exact cRetI C9 hr hlk hN hNs V I hS (⟨rfl, hG.symm⟩) dX12_blockerOf_65
              · replace hG := gO_s hG
                have hy13 := t6_8 y13 rfl
                refine W.eq (g2 := F0 m 54 ls [.ref y13]) rfl ?_
                refine lv_aload_n hx hb dX12_blockerOf_54 rfl (lv_at hl 0 rfl) ?_
                refine cG C9 V h10.1 hf12 rfl tC_lay3 2 (by decide) tCf_X12_281 (Or.inr tCs_X4_row) rfl dX12_blockerOf_55 ?_
                replace hG := gLt_e hG (view_gR hf12 rfl)
                refine lv_acmp_ne (rx := (some y13)) (ry := (some v12_2)) (tgt := 66) hx hb dX12_blockerOf_58 (by decide) (fun c15 => ?_) (fun c15 => ?_)
                · replace hG := gIf_n hG c15
                  refine lv_iconst (v := (-1)) hx hb dX12_blockerOf_66 (by decide) ?_
                  exact cRetI C9 hr hlk hN hNs V I hS (⟨rfl, hG.symm⟩) dX12_blockerOf_67
                · replace hG := gIf_p hG c15
                  refine lv_aload_n hx hb dX12_blockerOf_61 rfl (lv_at hl 0 rfl) ?_
                  refine cG C9 V h10.1 hf12 rfl tC_lay3 3 (by decide) tCf_X12_282 (Or.inl rfl) rfl dX12_blockerOf_62 ?_
                  replace hG := gLt_e hG (view_gI hf12 rfl)
                  exact cRetI C9 hr hlk hN hNs V I hS (⟨rfl, hG.symm⟩) dX12_blockerOf_65
          · replace hG := gIf_n hG vh10
            refine lv_if_eq (tgt := 66) hx hb dX12_blockerOf_41 (by decide) (fun c16 => ?_) (fun c16 => ?_)
            · refine lv_iconst (v := (-1)) hx hb dX12_blockerOf_66 (by decide) ?_
              exact cRetI C9 hr hlk hN hNs V I hS (⟨rfl, hG.symm⟩) dX12_blockerOf_67
            · exact absurd c16 (by decide)
    · replace hG := gIf_n hG c4
      refine lv_iconst (v := (-1)) hx hb dX12_blockerOf_13 (by decide) ?_
      exact cRetI C9 hr hlk hN hNs V I hS (⟨rfl, hG.symm⟩) dX12_blockerOf_14
def FC_X12_dead_L16 (o0 : Nat) (w2_1 : Int32) (K2 : Int32 → xS → Int32 × xS) : Nat → Int32 → Int32 → xS → Int32 × xS
  | 0, w16_2, w16_3, XGf16 => ((0 : Int32), XGf16)
  | N9_16 + 1, w16_2, w16_3, XGf16 => if 8 ≤ (w16_3 : Int32) then (if (w16_2 : Int32) = w2_1 then (((w2_1 : Int32), XGf16)) else (gLt (w2_1 + (1) : Int32) (fun x10 => K2 x10 XGf16))) else (if (w16_2 : Int32) = w2_1 then (if (w16_2 : Int32) = w2_1 then (((w2_1 : Int32), XGf16)) else (gLt (w2_1 + (1) : Int32) (fun x13 => K2 x13 XGf16))) else (gC (FC_X12_blockerOf XGf16 o0 w16_2) (fun r17 Xf15 => gLt (w16_3 + (1) : Int32) (fun x18 => FC_X12_dead_L16 o0 w2_1 K2 N9_16 r17 x18 Xf15))))
def FC_X12_dead_L2 (o0 : Nat) : Nat → Int32 → xS → Int32 × xS
  | 0, w2_1, XGf2 => ((0 : Int32), XGf2)
  | N9_2 + 1, w2_1, XGf2 => if 8 ≤ (w2_1 : Int32) then ((((-1) : Int32), XGf2)) else (gC (FC_X12_blockerOf XGf2 o0 w2_1) (fun r6 Xf4 => gLt (1 : Int32) (fun x7 => FC_X12_dead_L16 o0 w2_1 (fun z0 z1 => FC_X12_dead_L2 o0 N9_2 z0 z1) ((8 - x7).toInt.toNat + 1) r6 x7 Xf4)))
def FC_X12_dead (X : xS) (o0 : Nat) : Int32 × xS := gLt (0 : Int32) (fun x1 => FC_X12_dead_L2 o0 ((8 - x1).toInt.toNat + 1) x1 X)
set_option maxHeartbeats 200000 in
set_option maxRecDepth 100000 in
theorem c_X12_dead (l : Launch) (D : va_G) (ks : kS) (τ : Nat → Nat) (L : List Nat) (A : Nat → Prop) (N : State → Prop) (hN : cNk A N) (κ : kC) (hN0 : ∀ U, N U → N0 κ A U) (ψ : Int32) (f : Nat → va_E) (o0 : Nat) (t_o0 : ty τ L o0 9) : Met l yX12_dead (Cond.code yX12_dead cX12_dead 4 (some .int) :: tC) ({ frames := 1, cells := 0, slots := 0, locals := 24 }) (va_Pc [.ref o0] (cB D ks τ L A N (ψ, f))) (va_Qi (fun r9 x9 => (x9.1 = ψ) ∧ (r9, view x9.2) = FC_X12_dead (view f) o0) (cB D ks τ L A N) A) 0 0 A := by
  refine cMet (own := RX12) (by decide) rfl (Nat.le_of_ble_eq_true rfl) ?_
  intro p e s m below meth c ls C9 hml hr hlk V I hNs hl
  have hx := C9.1
  have hb := C9.2.1
  have hown := C9.2.2.1
  have hts := C9.2.2.2.1
  have h0 := hN0 s hNs
  have hS : va_S A s.heap s.heap [] := va_S.rf
  have hG := FC_X12_dead.eq_1 (view f) o0
  have hl : lv_has ls 4 [(0, .ref o0)] := hl
  refine lv_iconst (v := 0) hx hb dX12_dead_0 (by decide) ?_
  refine lv_topi (fun x1 ex1 => ?_)
  replace hG := gLt_e hG ex1
  refine lv_istore_n (lv' := [(1, .int x1), (0, .ref o0)]) hx hb dX12_dead_1 rfl hl (by decide) rfl (fun ls hl => ?_)
  have loop2 : ∀ (N9_2 : Nat) (w2_1 : Int32)  (Gf2 : Nat → va_E) (H : Heap) (locs : List Loc) (ls : Array Slot), cI ks τ L ψ Gf2 → (0 ≤ w2_1 ∧ w2_1 ≤ 8) → ((8 - w2_1).toInt.toNat) < N9_2 → (FC_X12_dead (view f) o0 = FC_X12_dead_L2 o0 N9_2 w2_1 (view Gf2)) → cV D L Gf2 A H → va_S A s.heap H locs → lv_has ls 4 [(0, .ref o0), (1, .int w2_1)] → W p l e ({ frames := 1, cells := 0, slots := 0, locals := 24 } : Room) s m ([.ref o0] : List Value).toArray below meth c H locs 0 0 (MQ below (va_Qi (fun r9 x9 => (x9.1 = ψ) ∧ (r9, view x9.2) = FC_X12_dead (view f) o0) (cB D ks τ L A N) A) ([.ref o0] : List Value).toArray s 0 0 A) (F0 m 2 ls []) := by
    intro N9_2
    induction N9_2 with
    | zero => intro w2_1  Gf2 H locs ls I hi2 hm2; exact absurd hm2 (Nat.not_lt_zero _)
    | succ N9_2 ih2 =>
      intro w2_1  Gf2 H locs ls I hi2 hm2 hG V hS hl
      rw [FC_X12_dead_L2] at hG
      refine lv_iload_n hx hb dX12_dead_2 rfl (lv_at hl 1 rfl) ?_
      refine lv_bipush (v := 8) hx hb dX12_dead_3 (by decide) ?_
      refine lv_icmp_ge (tgt := 52) hx hb dX12_dead_5 (by decide) (fun c2 => ?_) (fun c2 => ?_)
      · replace hG := gIf_p hG c2
        refine lv_iconst (v := (-1)) hx hb dX12_dead_52 (by decide) ?_
        exact cRetI C9 hr hlk hN hNs V I hS (⟨rfl, hG.symm⟩) dX12_dead_53
      · replace hG := gIf_n hG c2
        refine lv_aload_n hx hb dX12_dead_8 rfl (lv_at hl 0 rfl) ?_
        refine lv_iload_n hx hb dX12_dead_9 rfl (lv_at hl 1 rfl) ?_
        obtain ⟨v3_0, v3_1, v3_2, v3_3, v3_4, v3_5, hf3, t3_0, t3_1, t3_2⟩ := op9 I t_o0
        refine cGoI (cRunV (As := [.int w2_1]) (rest := []) C9 hml hN hNs V I hS t_o0.1 hf3 rfl (c_X12_blockerOf l D ks τ L A N hN κ hN0 ψ Gf2 o0 w2_1 t_o0 ) gC_X12_172 okC_X12_blockerOf ⟨rfl, rfl, Nat.le_of_ble_eq_true rfl, Nat.le_of_ble_eq_true rfl⟩ hl.1 rfl (Nat.le_of_ble_eq_true rfl) dX12_dead_10 ⟨Nat.zero_le _, Nat.zero_le _⟩) hS (fun r6 p5 f4 H locs hqf4 V I hS => ?_)
        obtain ⟨hqf4, ghqf4⟩ := hqf4
        replace hG := gC_e hG ghqf4
        have I : cI ks τ L ψ f4 := by rw [show p5 = ψ from hqf4] at I; exact I
        refine lv_istore_n (lv' := [(2, .int r6), (0, .ref o0), (1, .int w2_1)]) hx hb dX12_dead_13 rfl hl (by decide) rfl (fun ls hl => ?_)
        refine lv_iconst (v := 1) hx hb dX12_dead_14 (by decide) ?_
        refine lv_topi (fun x7 ex7 => ?_)
        replace hG := gLt_e hG ex7
        refine lv_istore_n (lv' := [(3, .int x7), (2, .int r6), (0, .ref o0), (1, .int w2_1)]) hx hb dX12_dead_15 rfl hl (by decide) rfl (fun ls hl => ?_)
        have loop16 : ∀ (N9_16 : Nat) (w16_2 : Int32) (w16_3 : Int32)  (Gf16 : Nat → va_E) (H : Heap) (locs : List Loc) (ls : Array Slot), cI ks τ L ψ Gf16 → (0 ≤ w16_3 ∧ w16_3 ≤ 8) → ((8 - w16_3).toInt.toNat) < N9_16 → (FC_X12_dead (view f) o0 = FC_X12_dead_L16 o0 w2_1 (fun z0 z1 => FC_X12_dead_L2 o0 N9_2 z0 z1) N9_16 w16_2 w16_3 (view Gf16)) → cV D L Gf16 A H → va_S A s.heap H locs → lv_has ls 4 [(0, .ref o0), (1, .int w2_1), (2, .int w16_2), (3, .int w16_3)] → W p l e ({ frames := 1, cells := 0, slots := 0, locals := 24 } : Room) s m ([.ref o0] : List Value).toArray below meth c H locs 0 0 (MQ below (va_Qi (fun r9 x9 => (x9.1 = ψ) ∧ (r9, view x9.2) = FC_X12_dead (view f) o0) (cB D ks τ L A N) A) ([.ref o0] : List Value).toArray s 0 0 A) (F0 m 16 ls []) := by
          intro N9_16
          induction N9_16 with
          | zero => intro w16_2 w16_3  Gf16 H locs ls I hi16 hm16; exact absurd hm16 (Nat.not_lt_zero _)
          | succ N9_16 ih16 =>
            intro w16_2 w16_3  Gf16 H locs ls I hi16 hm16 hG V hS hl
            rw [FC_X12_dead_L16] at hG
            refine lv_iload_n hx hb dX12_dead_16 rfl (lv_at hl 3 rfl) ?_
            refine lv_bipush (v := 8) hx hb dX12_dead_17 (by decide) ?_
            refine lv_icmp_ge (tgt := 39) hx hb dX12_dead_19 (by decide) (fun c8 => ?_) (fun c8 => ?_)
            · replace hG := gIf_p hG c8
              refine lv_iload_n hx hb dX12_dead_39 rfl (lv_at hl 2 rfl) ?_
              refine lv_iload_n hx hb dX12_dead_40 rfl (lv_at hl 1 rfl) ?_
              refine lv_icmp_ne (tgt := 46) hx hb dX12_dead_41 (by decide) (fun c9 => ?_) (fun c9 => ?_)
              · replace hG := gIf_n hG c9
                obtain ⟨x10, ex10⟩ : ∃ y : Int32, y = w2_1 + (1) := ⟨_, rfl⟩
                replace hG := gLt_e hG ex10
                refine lv_iinc (v := x10) (lv' := [(1, .int x10), (0, .ref o0), (2, .int w16_2), (3, .int w16_3)]) hx hb dX12_dead_46 hl (k := 1) rfl (by rw [ex10]; rfl) (by decide) rfl (fun ls hl => ?_)
                refine lv_goto (tgt := 2) hx hb dX12_dead_49 (by decide) ?_
                exact ih2 x10  Gf16 _ _ _ I (ca_up ex10 hi2.1 (ci_lt c2)) (cmsd hm2 (ca_dec ex10 hi2.1 (ci_lt c2)).1 (ca_dec ex10 hi2.1 (ci_lt c2)).2) hG V hS (lv_sub hl [1, 0] rfl)
              · replace hG := gIf_p hG c9
                refine lv_iload_n hx hb dX12_dead_44 rfl (lv_at hl 1 rfl) ?_
                exact cRetI C9 hr hlk hN hNs V I hS (⟨rfl, hG.symm⟩) dX12_dead_45
            · replace hG := gIf_n hG c8
              refine lv_iload_n hx hb dX12_dead_22 rfl (lv_at hl 2 rfl) ?_
              refine lv_iload_n hx hb dX12_dead_23 rfl (lv_at hl 1 rfl) ?_
              refine lv_icmp_eq (tgt := 39) hx hb dX12_dead_24 (by decide) (fun c11 => ?_) (fun c11 => ?_)
              · replace hG := gIf_p hG c11
                refine lv_iload_n hx hb dX12_dead_39 rfl (lv_at hl 2 rfl) ?_
                refine lv_iload_n hx hb dX12_dead_40 rfl (lv_at hl 1 rfl) ?_
                refine lv_icmp_ne (tgt := 46) hx hb dX12_dead_41 (by decide) (fun c12 => ?_) (fun c12 => ?_)
                · replace hG := gIf_n hG c12
                  obtain ⟨x13, ex13⟩ : ∃ y : Int32, y = w2_1 + (1) := ⟨_, rfl⟩
                  replace hG := gLt_e hG ex13
                  refine lv_iinc (v := x13) (lv' := [(1, .int x13), (0, .ref o0), (2, .int w16_2), (3, .int w16_3)]) hx hb dX12_dead_46 hl (k := 1) rfl (by rw [ex13]; rfl) (by decide) rfl (fun ls hl => ?_)
                  refine lv_goto (tgt := 2) hx hb dX12_dead_49 (by decide) ?_
                  exact ih2 x13  Gf16 _ _ _ I (ca_up ex13 hi2.1 (ci_lt c2)) (cmsd hm2 (ca_dec ex13 hi2.1 (ci_lt c2)).1 (ca_dec ex13 hi2.1 (ci_lt c2)).2) hG V hS (lv_sub hl [1, 0] rfl)
                · replace hG := gIf_p hG c12
                  refine lv_iload_n hx hb dX12_dead_44 rfl (lv_at hl 1 rfl) ?_
                  exact cRetI C9 hr hlk hN hNs V I hS (⟨rfl, hG.symm⟩) dX12_dead_45
              · replace hG := gIf_n hG c11
                refine lv_aload_n hx hb dX12_dead_27 rfl (lv_at hl 0 rfl) ?_
                refine lv_iload_n hx hb dX12_dead_28 rfl (lv_at hl 2 rfl) ?_
                obtain ⟨v14_0, v14_1, v14_2, v14_3, v14_4, v14_5, hf14, t14_0, t14_1, t14_2⟩ := op9 I t_o0
                refine cGoI (cRunV (As := [.int w16_2]) (rest := []) C9 hml hN hNs V I hS t_o0.1 hf14 rfl (c_X12_blockerOf l D ks τ L A N hN κ hN0 ψ Gf16 o0 w16_2 t_o0 ) gC_X12_172 okC_X12_blockerOf ⟨rfl, rfl, Nat.le_of_ble_eq_true rfl, Nat.le_of_ble_eq_true rfl⟩ hl.1 rfl (Nat.le_of_ble_eq_true rfl) dX12_dead_29 ⟨Nat.zero_le _, Nat.zero_le _⟩) hS (fun r17 p16 f15 H locs hqf15 V I hS => ?_)
                obtain ⟨hqf15, ghqf15⟩ := hqf15
                replace hG := gC_e hG ghqf15
                have I : cI ks τ L ψ f15 := by rw [show p16 = ψ from hqf15] at I; exact I
                refine lv_istore_n (lv' := [(2, .int r17), (0, .ref o0), (1, .int w2_1), (3, .int w16_3)]) hx hb dX12_dead_32 rfl hl (by decide) rfl (fun ls hl => ?_)
                obtain ⟨x18, ex18⟩ : ∃ y : Int32, y = w16_3 + (1) := ⟨_, rfl⟩
                replace hG := gLt_e hG ex18
                refine lv_iinc (v := x18) (lv' := [(3, .int x18), (2, .int r17), (0, .ref o0), (1, .int w2_1)]) hx hb dX12_dead_33 hl (k := 3) rfl (by rw [ex18]; rfl) (by decide) rfl (fun ls hl => ?_)
                refine lv_goto (tgt := 16) hx hb dX12_dead_36 (by decide) ?_
                exact ih16 r17 x18  f15 _ _ _ I (ca_up ex18 hi16.1 (ci_lt c8)) (cmsd hm16 (ca_dec ex18 hi16.1 (ci_lt c8)).1 (ca_dec ex18 hi16.1 (ci_lt c8)).2) hG V hS (lv_sub hl [2, 3, 1, 0] rfl)
        exact loop16 ((8 - x7).toInt.toNat + 1) r6 x7  f4 _ _ _ I (by clear hG V hS hl C9 hts hown hx hb hml hr hlk h0 hN0; subst_vars; decide) (Nat.lt_succ_self _) hG V hS (lv_sub hl [2, 3, 1, 0] rfl)
  exact loop2 ((8 - x1).toInt.toNat + 1) x1  f _ _ _ I (by clear hG V hS hl C9 hts hown hx hb hml hr hlk h0 hN0; subst_vars; decide) (Nat.lt_succ_self _) hG V hS (lv_sub hl [1, 0] rfl)
def FC_X12_fits (X : xS) (i1 : Int32) (i2 : Int32) : Int32 := if tabT 1 (94) (0) (4) [35, 94, 50, 60, 77] i1 = 95 then (if (i1 : Int32) < 0 then ((0 : Int32)) else (if 7 < (i1 : Int32) then ((0 : Int32)) else ((1 : Int32)))) else (if tabT 1 (94) (0) (4) [35, 94, 50, 60, 77] i1 = 36 then (if (i2 : Int32) = 0 then ((1 : Int32)) else (if (i2 : Int32) = 1 then ((1 : Int32)) else ((0 : Int32)))) else (if tabT 1 (94) (0) (4) [35, 94, 50, 60, 77] i1 = 51 then (if (i2 : Int32) < 0 then ((0 : Int32)) else ((1 : Int32))) else (if tabT 1 (94) (0) (4) [35, 94, 50, 60, 77] i1 = 61 then (if (i2 : Int32) < 1 then ((0 : Int32)) else (if 8 < (i2 : Int32) then ((0 : Int32)) else ((1 : Int32)))) else (if (i2 : Int32) < 1 then ((0 : Int32)) else (if 100 < (i2 : Int32) then ((0 : Int32)) else ((1 : Int32)))))))
set_option maxHeartbeats 200000 in
set_option maxRecDepth 100000 in
theorem c_X12_fits (l : Launch) (D : va_G) (ks : kS) (τ : Nat → Nat) (L : List Nat) (A : Nat → Prop) (N : State → Prop) (hN : cNk A N)  (ψ : Int32) (f : Nat → va_E) (i1 : Int32) (i2 : Int32)  : Met l yX12_fits (Cond.code yX12_fits cX12_fits 2 (some .boolean) :: tC) ({ frames := 0, cells := 0, slots := 0, locals := 0 }) (va_Pc [.int i1, .int i2] (cB D ks τ L A N (ψ, f))) (va_Qi (fun r9 x9 => (x9 = (ψ, f)) ∧ r9 = FC_X12_fits (view f) i1 i2) (cB D ks τ L A N) A) 0 0 A := by
  refine cMet (own := RX12) (by decide) rfl (Nat.le_of_ble_eq_true rfl) ?_
  intro p e s m below meth c ls C9 hml hr hlk V I hNs hl
  have hx := C9.1
  have hb := C9.2.1
  have hown := C9.2.2.1
  have hts := C9.2.2.2.1
  have hS : va_S A s.heap s.heap [] := va_S.rf
  have hG := FC_X12_fits.eq_1 (view f) i1 i2
  have hl : lv_has ls 2 [(0, .int i1), (1, .int i2)] := hl
  refine lv_iload_n hx hb dX12_fits_0 rfl (lv_at hl 0 rfl) ?_
  refine cTabG hx hb [95, 36, 51, 61, 78] dX12_fits_1 rfl (by decide) ?_
  intro t9 hm1 hThm1
  rcases List.mem_cons.mp hm1 with rfl | hm1
  · replace hG := gIf_p hG hThm1
    refine lv_iload_n hx hb dX12_fits_95 rfl (lv_at hl 0 rfl) ?_
    refine lv_if_lt (tgt := 109) hx hb dX12_fits_96 (by decide) (fun c2 => ?_) (fun c2 => ?_)
    · replace hG := gIf_p hG c2
      refine lv_iconst (v := 0) hx hb dX12_fits_109 (by decide) ?_
      exact cRetZ C9 hr hlk hN hNs V I hS (by clear hG V hS hl C9 hts hown hx hb hml hr hlk; first | rfl | decide | (subst_vars; rfl)) (⟨rfl, hG.symm⟩) dX12_fits_110
    · replace hG := gIf_n hG c2
      refine lv_iload_n hx hb dX12_fits_99 rfl (lv_at hl 0 rfl) ?_
      refine lv_bipush (v := 7) hx hb dX12_fits_100 (by decide) ?_
      refine lv_icmp_gt (tgt := 109) hx hb dX12_fits_102 (by decide) (fun c3 => ?_) (fun c3 => ?_)
      · replace hG := gIf_p hG c3
        refine lv_iconst (v := 0) hx hb dX12_fits_109 (by decide) ?_
        exact cRetZ C9 hr hlk hN hNs V I hS (by clear hG V hS hl C9 hts hown hx hb hml hr hlk; first | rfl | decide | (subst_vars; rfl)) (⟨rfl, hG.symm⟩) dX12_fits_110
      · replace hG := gIf_n hG c3
        refine lv_iconst (v := 1) hx hb dX12_fits_105 (by decide) ?_
        refine lv_goto (tgt := 110) hx hb dX12_fits_106 (by decide) ?_
        exact cRetZ C9 hr hlk hN hNs V I hS (by clear hG V hS hl C9 hts hown hx hb hml hr hlk; first | rfl | decide | (subst_vars; rfl)) (⟨rfl, hG.symm⟩) dX12_fits_110
  rcases List.mem_cons.mp hm1 with rfl | hm1
  · replace hG := gIf_n hG (fun z9 => absurd (hThm1.symm.trans z9) (by decide))
    replace hG := gIf_p hG hThm1
    refine lv_iload_n hx hb dX12_fits_36 rfl (lv_at hl 1 rfl) ?_
    refine lv_if_eq (tgt := 45) hx hb dX12_fits_37 (by decide) (fun c4 => ?_) (fun c4 => ?_)
    · replace hG := gIf_p hG c4
      refine lv_iconst (v := 1) hx hb dX12_fits_45 (by decide) ?_
      refine lv_goto (tgt := 50) hx hb dX12_fits_46 (by decide) ?_
      exact cRetZ C9 hr hlk hN hNs V I hS (by clear hG V hS hl C9 hts hown hx hb hml hr hlk; first | rfl | decide | (subst_vars; rfl)) (⟨rfl, hG.symm⟩) dX12_fits_50
    · replace hG := gIf_n hG c4
      refine lv_iload_n hx hb dX12_fits_40 rfl (lv_at hl 1 rfl) ?_
      refine lv_iconst (v := 1) hx hb dX12_fits_41 (by decide) ?_
      refine lv_icmp_ne (tgt := 49) hx hb dX12_fits_42 (by decide) (fun c5 => ?_) (fun c5 => ?_)
      · replace hG := gIf_n hG c5
        refine lv_iconst (v := 0) hx hb dX12_fits_49 (by decide) ?_
        exact cRetZ C9 hr hlk hN hNs V I hS (by clear hG V hS hl C9 hts hown hx hb hml hr hlk; first | rfl | decide | (subst_vars; rfl)) (⟨rfl, hG.symm⟩) dX12_fits_50
      · replace hG := gIf_p hG c5
        refine lv_iconst (v := 1) hx hb dX12_fits_45 (by decide) ?_
        refine lv_goto (tgt := 50) hx hb dX12_fits_46 (by decide) ?_
        exact cRetZ C9 hr hlk hN hNs V I hS (by clear hG V hS hl C9 hts hown hx hb hml hr hlk; first | rfl | decide | (subst_vars; rfl)) (⟨rfl, hG.symm⟩) dX12_fits_50
  rcases List.mem_cons.mp hm1 with rfl | hm1
  · replace hG := gIf_n hG (fun z9 => absurd (hThm1.symm.trans z9) (by decide))
    replace hG := gIf_n hG (fun z9 => absurd (hThm1.symm.trans z9) (by decide))
    replace hG := gIf_p hG hThm1
    refine lv_iload_n hx hb dX12_fits_51 rfl (lv_at hl 1 rfl) ?_
    refine lv_if_lt (tgt := 59) hx hb dX12_fits_52 (by decide) (fun c6 => ?_) (fun c6 => ?_)
    · replace hG := gIf_p hG c6
      refine lv_iconst (v := 0) hx hb dX12_fits_59 (by decide) ?_
      exact cRetZ C9 hr hlk hN hNs V I hS (by clear hG V hS hl C9 hts hown hx hb hml hr hlk; first | rfl | decide | (subst_vars; rfl)) (⟨rfl, hG.symm⟩) dX12_fits_60
    · replace hG := gIf_n hG c6
      refine lv_iconst (v := 1) hx hb dX12_fits_55 (by decide) ?_
      refine lv_goto (tgt := 60) hx hb dX12_fits_56 (by decide) ?_
      exact cRetZ C9 hr hlk hN hNs V I hS (by clear hG V hS hl C9 hts hown hx hb hml hr hlk; first | rfl | decide | (subst_vars; rfl)) (⟨rfl, hG.symm⟩) dX12_fits_60
  rcases List.mem_cons.mp hm1 with rfl | hm1
  · replace hG := gIf_n hG (fun z9 => absurd (hThm1.symm.trans z9) (by decide))
    replace hG := gIf_n hG (fun z9 => absurd (hThm1.symm.trans z9) (by decide))
    replace hG := gIf_n hG (fun z9 => absurd (hThm1.symm.trans z9) (by decide))
    replace hG := gIf_p hG hThm1
    refine lv_iload_n hx hb dX12_fits_61 rfl (lv_at hl 1 rfl) ?_
    refine lv_iconst (v := 1) hx hb dX12_fits_62 (by decide) ?_
    refine lv_icmp_lt (tgt := 76) hx hb dX12_fits_63 (by decide) (fun c7 => ?_) (fun c7 => ?_)
    · replace hG := gIf_p hG c7
      refine lv_iconst (v := 0) hx hb dX12_fits_76 (by decide) ?_
      exact cRetZ C9 hr hlk hN hNs V I hS (by clear hG V hS hl C9 hts hown hx hb hml hr hlk; first | rfl | decide | (subst_vars; rfl)) (⟨rfl, hG.symm⟩) dX12_fits_77
    · replace hG := gIf_n hG c7
      refine lv_iload_n hx hb dX12_fits_66 rfl (lv_at hl 1 rfl) ?_
      refine lv_bipush (v := 8) hx hb dX12_fits_67 (by decide) ?_
      refine lv_icmp_gt (tgt := 76) hx hb dX12_fits_69 (by decide) (fun c8 => ?_) (fun c8 => ?_)
      · replace hG := gIf_p hG c8
        refine lv_iconst (v := 0) hx hb dX12_fits_76 (by decide) ?_
        exact cRetZ C9 hr hlk hN hNs V I hS (by clear hG V hS hl C9 hts hown hx hb hml hr hlk; first | rfl | decide | (subst_vars; rfl)) (⟨rfl, hG.symm⟩) dX12_fits_77
      · replace hG := gIf_n hG c8
        refine lv_iconst (v := 1) hx hb dX12_fits_72 (by decide) ?_
        refine lv_goto (tgt := 77) hx hb dX12_fits_73 (by decide) ?_
        exact cRetZ C9 hr hlk hN hNs V I hS (by clear hG V hS hl C9 hts hown hx hb hml hr hlk; first | rfl | decide | (subst_vars; rfl)) (⟨rfl, hG.symm⟩) dX12_fits_77
  rcases List.mem_cons.mp hm1 with rfl | hm1
  · replace hG := gIf_n hG (fun z9 => absurd (hThm1.symm.trans z9) (by decide))
    replace hG := gIf_n hG (fun z9 => absurd (hThm1.symm.trans z9) (by decide))
    replace hG := gIf_n hG (fun z9 => absurd (hThm1.symm.trans z9) (by decide))
    replace hG := gIf_n hG (fun z9 => absurd (hThm1.symm.trans z9) (by decide))
    refine lv_iload_n hx hb dX12_fits_78 rfl (lv_at hl 1 rfl) ?_
    refine lv_iconst (v := 1) hx hb dX12_fits_79 (by decide) ?_
    refine lv_icmp_lt (tgt := 93) hx hb dX12_fits_80 (by decide) (fun c9 => ?_) (fun c9 => ?_)
    · replace hG := gIf_p hG c9
      refine lv_iconst (v := 0) hx hb dX12_fits_93 (by decide) ?_
      exact cRetZ C9 hr hlk hN hNs V I hS (by clear hG V hS hl C9 hts hown hx hb hml hr hlk; first | rfl | decide | (subst_vars; rfl)) (⟨rfl, hG.symm⟩) dX12_fits_94
    · replace hG := gIf_n hG c9
      refine lv_iload_n hx hb dX12_fits_83 rfl (lv_at hl 1 rfl) ?_
      refine lv_bipush (v := 100) hx hb dX12_fits_84 (by decide) ?_
      refine lv_icmp_gt (tgt := 93) hx hb dX12_fits_86 (by decide) (fun c10 => ?_) (fun c10 => ?_)
      · replace hG := gIf_p hG c10
        refine lv_iconst (v := 0) hx hb dX12_fits_93 (by decide) ?_
        exact cRetZ C9 hr hlk hN hNs V I hS (by clear hG V hS hl C9 hts hown hx hb hml hr hlk; first | rfl | decide | (subst_vars; rfl)) (⟨rfl, hG.symm⟩) dX12_fits_94
      · replace hG := gIf_n hG c10
        refine lv_iconst (v := 1) hx hb dX12_fits_89 (by decide) ?_
        refine lv_goto (tgt := 94) hx hb dX12_fits_90 (by decide) ?_
        exact cRetZ C9 hr hlk hN hNs V I hS (by clear hG V hS hl C9 hts hown hx hb hml hr hlk; first | rfl | decide | (subst_vars; rfl)) (⟨rfl, hG.symm⟩) dX12_fits_94
  exact absurd hm1 List.not_mem_nil

def FC_X8_word (X : xS) (o0 : Nat) : Nat × xS := gC (FC_X8_codeAt X o0 0) (fun r4 Xf2 => if (r4 : Int32) < 0 then (((6 : Nat), Xf2)) else (if 34 ≤ (r4 : Int32) then (((6 : Nat), Xf2)) else (gLt (Int32.toNatClampNeg r4 : Nat) (fun u9 => ((u9 : Nat), Xf2)))))
set_option maxHeartbeats 200000 in
set_option maxRecDepth 100000 in
theorem c_X8_word (l : Launch) (D : va_G) (ks : kS) (τ : Nat → Nat) (L : List Nat) (A : Nat → Prop) (N : State → Prop) (hN : cNk A N) (κ : kC) (hN0 : ∀ U, N U → N0 κ A U) (ψ : Int32) (f : Nat → va_E) (o0 : Nat) (t_o0 : ty τ L o0 7) : Met l yX8_word (Cond.code yX8_word cX8_word 2 (some (.object "TurnKeeper$Word")) :: tC) ({ frames := 1, cells := 0, slots := 0, locals := 22 }) (va_Pc [.ref o0] (cB D ks τ L A N (ψ, f))) (va_Qq (fun r9 x9 => (x9.1 = ψ) ∧ ∃ i9, r9 = some (κ.1 i9) ∧ i9 < 34 ∧ (i9, view x9.2) = FC_X8_word (view f) o0) (cB D ks τ L A N) A) 0 0 A := by
  refine cMet (own := RX8) (by decide) rfl (Nat.le_of_ble_eq_true rfl) ?_
  intro p e s m below meth c ls C9 hml hr hlk V I hNs hl
  have hx := C9.1
  have hb := C9.2.1
  have hown := C9.2.2.1
  have hts := C9.2.2.2.1
  have h0 := hN0 s hNs
  have hS : va_S A s.heap s.heap [] := va_S.rf
  have hG := FC_X8_word.eq_1 (view f) o0
  have hl : lv_has ls 2 [(0, .ref o0)] := hl
  refine lv_aload_n hx hb dX8_word_0 rfl (lv_at hl 0 rfl) ?_
  refine lv_iconst (v := 0) hx hb dX8_word_1 (by decide) ?_
  obtain ⟨v1_0, v1_1, v1_2, v1_3, v1_4, v1_5, v1_6, v1_7, v1_8, v1_9, v1_10, v1_11, v1_12, hf1, t1_7, t1_8, t1_11⟩ := op7 I t_o0
  refine cGoI (cRunV (As := [.int 0]) (rest := []) C9 hml hN hNs V I hS t_o0.1 hf1 rfl (c_X8_codeAt l D ks τ L A N hN  ψ f o0 0 t_o0 ) gC_X8_38 okC_X8_codeAt ⟨rfl, rfl, Nat.le_of_ble_eq_true rfl, Nat.le_of_ble_eq_true rfl⟩ hl.1 rfl (Nat.le_of_ble_eq_true rfl) dX8_word_2 ⟨Nat.zero_le _, Nat.zero_le _⟩) hS (fun r4 p3 f2 H locs hqf2 V I hS => ?_)
  obtain ⟨hqf2, ghqf2⟩ := hqf2
  replace hG := gC_e hG ghqf2
  have I : cI ks τ L ψ f2 := by rw [show p3 = ψ from hqf2] at I; exact I
  refine lv_istore_n (lv' := [(1, .int r4), (0, .ref o0)]) hx hb dX8_word_5 rfl hl (by decide) rfl (fun ls hl => ?_)
  refine lv_iload_n hx hb dX8_word_6 rfl (lv_at hl 0 rfl) ?_
  refine lv_if_lt (tgt := 26) hx hb dX8_word_7 (by decide) (fun c5 => ?_) (fun c5 => ?_)
  · replace hG := gIf_p hG c5
    refine cZn (n := "END") (i := 6) (by simp [wNx]) C9 h0 hS tCf_X8_46 dX8_word_26 ?_
    exact cRetW C9 hr hlk hN hNs V I hS (⟨rfl, _, rfl, (by decide), hG.symm⟩) dX8_word_29
  · replace hG := gIf_n hG c5
    refine lv_iload_n hx hb dX8_word_10 rfl (lv_at hl 0 rfl) ?_
    refine cZw C9 h0 hS (by simp [nwL, RX8]) dX8_word_11 (fun y6 hy6 => ?_)
    refine cAw C9 hy6 hS dX8_word_14 ?_
    refine lv_icmp_ge (tgt := 26) hx hb dX8_word_15 (by decide) (fun c7 => ?_) (fun c7 => ?_)
    · replace hG := gIf_p hG c7
      refine cZn (n := "END") (i := 6) (by simp [wNx]) C9 h0 hS tCf_X8_46 dX8_word_26 ?_
      exact cRetW C9 hr hlk hN hNs V I hS (⟨rfl, _, rfl, (by decide), hG.symm⟩) dX8_word_29
    · replace hG := gIf_n hG c7
      refine cZw C9 h0 hS (by simp [nwL, RX8]) dX8_word_18 (fun y8 hy8 => ?_)
      refine lv_iload_n hx hb dX8_word_21 rfl (lv_at hl 0 rfl) ?_
      refine cLw C9 hy8 hS (cvin (N := 34) rfl (ci_le c5) (ci_lt c7)) dX8_word_22 (fun u9 eu9 hu9 => ?_)
      replace hG := gLt_e hG (eu9)
      refine lv_goto (tgt := 29) hx hb dX8_word_23 (by decide) ?_
      exact cRetW C9 hr hlk hN hNs V I hS (⟨rfl, _, rfl, hu9, hG.symm⟩) dX8_word_29
def FC_X1_rowGoesOn_L2 (o0 : Nat) : Nat → Int32 → xS → xS
  | 0, w2_1, XGf2 => XGf2
  | N9_2 + 1, w2_1, XGf2 => if 8 ≤ (w2_1 : Int32) then (XGf2) else (gLt (xI XGf2 o0 3 : Int32) (fun v3_3 => if (v3_3 : Int32) = (-1) then (gLt ((xR XGf2 o0 2).getD 0 : Nat) (fun v3_2 => gC (FC_X6_first XGf2 v3_2) (fun r8 Xf6 => gO (r8) (Xf6) (fun y9 => gC (FC_X8_word Xf6 y9) (fun u14 Xf11 => if (u14 : Nat) = 32 then (gLt (xI Xf11 o0 4 : Int32) (fun v16_4 => if (v16_4 : Int32) = 0 then (gLt (xI Xf11 y9 0 : Int32) (fun v18_0 => gLt (xwI Xf11 o0 3 v18_0 : xS) (fun Xf19 => gLt (FC_X8_goOn Xf19 y9 : xS) (fun Xf22 => gLt (w2_1 + (1) : Int32) (fun x25 => FC_X1_rowGoesOn_L2 o0 N9_2 x25 Xf22))))) else (Xf11))) else (gLt (xI Xf11 o0 4 : Int32) (fun v26_4 => gLt ((v26_4 + 1) : Int32) (fun x27 => gLt (xwI Xf11 o0 4 x27 : xS) (fun Xf28 => gLt (FC_X8_goOn Xf28 y9 : xS) (fun Xf31 => gLt (w2_1 + (1) : Int32) (fun x34 => FC_X1_rowGoesOn_L2 o0 N9_2 x34 Xf31))))))))))) else (XGf2)))
def FC_X1_rowGoesOn (X : xS) (o0 : Nat) : xS := gLt (0 : Int32) (fun x1 => FC_X1_rowGoesOn_L2 o0 ((8 - x1).toInt.toNat + 1) x1 X)
set_option maxHeartbeats 200000 in
set_option maxRecDepth 100000 in
theorem c_X1_rowGoesOn (l : Launch) (D : va_G) (ks : kS) (τ : Nat → Nat) (L : List Nat) (A : Nat → Prop) (N : State → Prop) (hN : cNk A N) (κ : kC) (hN0 : ∀ U, N U → N0 κ A U) (ψ : Int32) (f : Nat → va_E) (o0 : Nat) (t_o0 : ty τ L o0 0) : Met l yX1_rowGoesOn (Cond.code yX1_rowGoesOn cX1_rowGoesOn 3 none :: tC) ({ frames := 2, cells := 0, slots := 0, locals := 43 }) (va_Pc [.ref o0] (cB D ks τ L A N (ψ, f))) (va_Qv (fun x9 => (x9.1 = ψ) ∧ view x9.2 = FC_X1_rowGoesOn (view f) o0) (cB D ks τ L A N) A) 0 0 A := by
  refine cMet (own := RX1) (by decide) rfl (Nat.le_of_ble_eq_true rfl) ?_
  intro p e s m below meth c ls C9 hml hr hlk V I hNs hl
  have hx := C9.1
  have hb := C9.2.1
  have hown := C9.2.2.1
  have hts := C9.2.2.2.1
  have h0 := hN0 s hNs
  have hS : va_S A s.heap s.heap [] := va_S.rf
  have hG := FC_X1_rowGoesOn.eq_1 (view f) o0
  have hl : lv_has ls 3 [(0, .ref o0)] := hl
  refine lv_iconst (v := 0) hx hb dX1_rowGoesOn_0 (by decide) ?_
  refine lv_topi (fun x1 ex1 => ?_)
  replace hG := gLt_e hG ex1
  refine lv_istore_n (lv' := [(1, .int x1), (0, .ref o0)]) hx hb dX1_rowGoesOn_1 rfl hl (by decide) rfl (fun ls hl => ?_)
  have loop2 : ∀ (N9_2 : Nat) (w2_1 : Int32)  (Gf2 : Nat → va_E) (H : Heap) (locs : List Loc) (ls : Array Slot), cI ks τ L ψ Gf2 → (0 ≤ w2_1 ∧ w2_1 ≤ 8) → ((8 - w2_1).toInt.toNat) < N9_2 → (FC_X1_rowGoesOn (view f) o0 = FC_X1_rowGoesOn_L2 o0 N9_2 w2_1 (view Gf2)) → cV D L Gf2 A H → va_S A s.heap H locs → lv_has ls 3 [(0, .ref o0), (1, .int w2_1)] → W p l e ({ frames := 2, cells := 0, slots := 0, locals := 43 } : Room) s m ([.ref o0] : List Value).toArray below meth c H locs 0 0 (MQ below (va_Qv (fun x9 => (x9.1 = ψ) ∧ view x9.2 = FC_X1_rowGoesOn (view f) o0) (cB D ks τ L A N) A) ([.ref o0] : List Value).toArray s 0 0 A) (F0 m 2 ls []) := by
    intro N9_2
    induction N9_2 with
    | zero => intro w2_1  Gf2 H locs ls I hi2 hm2; exact absurd hm2 (Nat.not_lt_zero _)
    | succ N9_2 ih2 =>
      intro w2_1  Gf2 H locs ls I hi2 hm2 hG V hS hl
      rw [FC_X1_rowGoesOn_L2] at hG
      refine lv_iload_n hx hb dX1_rowGoesOn_2 rfl (lv_at hl 1 rfl) ?_
      refine lv_bipush (v := 8) hx hb dX1_rowGoesOn_3 (by decide) ?_
      refine lv_icmp_ge (tgt := 81) hx hb dX1_rowGoesOn_5 (by decide) (fun c2 => ?_) (fun c2 => ?_)
      · replace hG := gIf_p hG c2
        exact cRetV C9 hr hlk hN hNs V I hS (⟨rfl, hG.symm⟩) dX1_rowGoesOn_81
      · replace hG := gIf_n hG c2
        refine lv_aload_n hx hb dX1_rowGoesOn_8 rfl (lv_at hl 0 rfl) ?_
        obtain ⟨v3_0, v3_1, v3_2, v3_3, v3_4, hf3, t3_2⟩ := op0 I t_o0
        refine cG C9 V t_o0.1 hf3 rfl tC_lay0 3 (by decide) tCf_X1_9 (Or.inl rfl) rfl dX1_rowGoesOn_9 ?_
        replace hG := gLt_e hG (view_gI hf3 rfl)
        refine lv_iconst (v := (-1)) hx hb dX1_rowGoesOn_12 (by decide) ?_
        refine lv_icmp_ne (tgt := 81) hx hb dX1_rowGoesOn_13 (by decide) (fun c4 => ?_) (fun c4 => ?_)
        · replace hG := gIf_n hG c4
          exact cRetV C9 hr hlk hN hNs V I hS (⟨rfl, hG.symm⟩) dX1_rowGoesOn_81
        · replace hG := gIf_p hG c4
          refine lv_aload_n hx hb dX1_rowGoesOn_16 rfl (lv_at hl 0 rfl) ?_
          refine cG C9 V t_o0.1 hf3 rfl tC_lay0 2 (by decide) tCf_X1_27 (Or.inr tCs_X1_row) rfl dX1_rowGoesOn_17 ?_
          replace hG := gLt_e hG (view_gR hf3 rfl)
          obtain ⟨v5_0, v5_1, hf5, hn5, t5_1⟩ := op5 I t3_2
          refine cGoQ (cRunV (As := []) (rest := []) C9 hml hN hNs V I hS t3_2.1 hf5 rfl (c_X6_first l D ks τ L A N hN  ψ Gf2 v3_2 t3_2 ) gC_X1_65 okC_X6_first ⟨rfl, rfl, Nat.le_of_ble_eq_true rfl, Nat.le_of_ble_eq_true rfl⟩ hl.1 rfl (Nat.le_of_ble_eq_true rfl) dX1_rowGoesOn_20 ⟨Nat.zero_le _, Nat.zero_le _⟩) hS (fun r8 p7 f6 H locs hqf6 V I hS => ?_)
          obtain ⟨hqf6, ghqf6⟩ := hqf6
          replace hG := gC_e hG ghqf6
          have I : cI ks τ L ψ f6 := by rw [show p7 = ψ from hqf6.1] at I; exact I
          replace hG := gO_e hG (rfl)
          rcases r8 with _ | y9
          · replace hG := gO_n hG
            refine W.eq (g2 := F0 m 23 ls [.null]) rfl ?_
            refine lv_astore_nN (lv' := [(2, .null), (0, .ref o0), (1, .int w2_1)]) hx hb dX1_rowGoesOn_23 rfl hl (by decide) rfl (fun ls hl => ?_)
            refine lv_aload_nN hx hb dX1_rowGoesOn_24 rfl (lv_at hl 0 rfl) ?_
            refine lv_ifnonnullN hx hb dX1_rowGoesOn_25 ?_
            exact cRetV C9 hr hlk hN hNs V I hS (⟨rfl, hG.symm⟩) dX1_rowGoesOn_28
          · replace hG := gO_s hG
            have hy9 := hqf6.2 y9 rfl
            refine W.eq (g2 := F0 m 23 ls [.ref y9]) rfl ?_
            refine lv_astore_n (lv' := [(2, .ref y9), (0, .ref o0), (1, .int w2_1)]) hx hb dX1_rowGoesOn_23 rfl hl (by decide) rfl (fun ls hl => ?_)
            refine lv_aload_n hx hb dX1_rowGoesOn_24 rfl (lv_at hl 0 rfl) ?_
            refine lv_ifnonnull (tgt := 29) hx hb dX1_rowGoesOn_25 (by decide) ?_
            refine lv_aload_n hx hb dX1_rowGoesOn_29 rfl (lv_at hl 0 rfl) ?_
            obtain ⟨v10_0, v10_1, v10_2, v10_3, v10_4, v10_5, v10_6, v10_7, v10_8, v10_9, v10_10, v10_11, v10_12, hf10, t10_7, t10_8, t10_11⟩ := op7 I hy9
            refine cGoQ (cRunV (As := []) (rest := []) C9 hml hN hNs V I hS hy9.1 hf10 rfl (c_X8_word l D ks τ L A N hN κ hN0 ψ f6 y9 hy9 ) gC_X1_69 okC_X8_word ⟨rfl, rfl, Nat.le_of_ble_eq_true rfl, Nat.le_of_ble_eq_true rfl⟩ hl.1 rfl (Nat.le_of_ble_eq_true rfl) dX1_rowGoesOn_30 ⟨Nat.zero_le _, Nat.zero_le _⟩) hS (fun r13 p12 f11 H locs hqf11 V I hS => ?_)
            obtain ⟨hqf11, u14, eu14, hu14, ghqf11⟩ := hqf11
            subst eu14
            replace hG := gC_e hG ghqf11
            have I : cI ks τ L ψ f11 := by rw [show p12 = ψ from hqf11] at I; exact I
            refine W.eq (g2 := F0 m 33 ls [.ref (κ.1 u14)]) rfl ?_
            refine cZn (n := "OWN") (i := 32) (by simp [wNx]) C9 h0 hS tCf_X1_73 dX1_rowGoesOn_33 ?_
            refine lv_acmp_eq (rx := (some (κ.1 u14))) (ry := (some (κ.1 32))) (tgt := 52) hx hb dX1_rowGoesOn_36 (by decide) (fun c15 => ?_) (fun c15 => ?_)
            · replace hG := gIf_p hG (wq h0 hu14 (by decide) c15)
              refine lv_aload_n hx hb dX1_rowGoesOn_52 rfl (lv_at hl 1 rfl) ?_
              obtain ⟨v16_0, v16_1, v16_2, v16_3, v16_4, hf16, t16_2⟩ := op0 I t_o0
              refine cG C9 V t_o0.1 hf16 rfl tC_lay0 4 (by decide) tCf_X1_36 (Or.inl rfl) rfl dX1_rowGoesOn_53 ?_
              replace hG := gLt_e hG (view_gI hf16 rfl)
              refine lv_if_ne (tgt := 70) hx hb dX1_rowGoesOn_56 (by decide) (fun c17 => ?_) (fun c17 => ?_)
              · replace hG := gIf_n hG c17
                exact cRetV C9 hr hlk hN hNs V I hS (⟨rfl, hG.symm⟩) dX1_rowGoesOn_70
              · replace hG := gIf_p hG c17
                refine lv_aload_n hx hb dX1_rowGoesOn_59 rfl (lv_at hl 1 rfl) ?_
                refine lv_aload_n hx hb dX1_rowGoesOn_60 rfl (lv_at hl 0 rfl) ?_
                obtain ⟨v18_0, v18_1, v18_2, v18_3, v18_4, v18_5, v18_6, v18_7, v18_8, v18_9, v18_10, v18_11, v18_12, hf18, t18_7, t18_8, t18_11⟩ := op7 I hy9
                refine cG C9 V hy9.1 hf18 rfl tC_lay7 0 (by decide) tCf_X1_52 (Or.inl rfl) rfl dX1_rowGoesOn_61 ?_
                replace hG := gLt_e hG (view_gI hf18 rfl)
                refine cP (v := .int v18_0) (ty := .int) C9 V hS t_o0.1 hf16 rfl tC_lay0 tyX1 tyX1_ok nmX1 3 (by decide) tCf_X1_9 rfl rfl (by decide +kernel) rfl rfl (Nat.le_of_ble_eq_true rfl) dX1_rowGoesOn_64 (fun f19 H locs ef19 V hS => ?_)
                replace hG := gLt_e hG (view_I hf16 rfl ef19)
                have hf20 : f19 o0 = .inr (0, [.int v16_0, .int v16_1, .ref v16_2, .int v18_0, .int v16_4]) := up_s ef19
                have I := cI_up I t_o0.2 ef19 (mk0 t16_2)
                have hf21 := up_n ef19 t_o0.2 hy9.2 (by first | decide | omega) hf18
                refine lv_goto (tgt := 71) hx hb dX1_rowGoesOn_67 (by decide) ?_
                refine lv_aload_n hx hb dX1_rowGoesOn_71 rfl (lv_at hl 0 rfl) ?_
                refine cGoV (cRunV (As := []) (rest := []) C9 hml hN hNs V I hS hy9.1 hf21 rfl (c_X8_goOn l D ks τ L A N hN  ψ f19 y9 hy9 ) gC_X1_39 okC_X8_goOn ⟨rfl, rfl, Nat.le_of_ble_eq_true rfl, Nat.le_of_ble_eq_true rfl⟩ hl.1 rfl (Nat.le_of_ble_eq_true rfl) dX1_rowGoesOn_72 ⟨Nat.zero_le _, Nat.zero_le _⟩) hS (fun p23 f22 H locs hqf22 V I hS => ?_)
                obtain ⟨hqf22, ghqf22⟩ := hqf22
                replace hG := gLt_e hG (ghqf22)
                have I : cI ks τ L ψ f22 := by rw [show p23 = ψ from hqf22] at I; exact I
                obtain ⟨x25, ex25⟩ : ∃ y : Int32, y = w2_1 + (1) := ⟨_, rfl⟩
                replace hG := gLt_e hG ex25
                refine lv_iinc (v := x25) (lv' := [(1, .int x25), (2, .ref y9), (0, .ref o0)]) hx hb dX1_rowGoesOn_75 hl (k := 2) rfl (by rw [ex25]; rfl) (by decide) rfl (fun ls hl => ?_)
                refine lv_goto (tgt := 2) hx hb dX1_rowGoesOn_78 (by decide) ?_
                exact ih2 x25  f22 _ _ _ I (ca_up ex25 hi2.1 (ci_lt c2)) (cmsd hm2 (ca_dec ex25 hi2.1 (ci_lt c2)).1 (ca_dec ex25 hi2.1 (ci_lt c2)).2) hG V hS (lv_sub hl [2, 0] rfl)
            · replace hG := gIf_n hG (wqn c15)
              refine lv_aload_n hx hb dX1_rowGoesOn_39 rfl (lv_at hl 1 rfl) ?_
              refine lv_dup hx hb dX1_rowGoesOn_40 rfl ?_
              obtain ⟨v26_0, v26_1, v26_2, v26_3, v26_4, hf26, t26_2⟩ := op0 I t_o0
              refine cG C9 V t_o0.1 hf26 rfl tC_lay0 4 (by decide) tCf_X1_36 (Or.inl rfl) rfl dX1_rowGoesOn_41 ?_
              replace hG := gLt_e hG (view_gI hf26 rfl)
              refine lv_iconst (v := 1) hx hb dX1_rowGoesOn_44 (by decide) ?_
              refine lv_iadd hx hb dX1_rowGoesOn_45 ?_
              refine lv_topi (fun x27 ex27 => ?_)
              replace hG := gLt_e hG ex27
              refine cP (v := .int x27) (ty := .int) C9 V hS t_o0.1 hf26 rfl tC_lay0 tyX1 tyX1_ok nmX1 4 (by decide) tCf_X1_36 rfl rfl (by decide +kernel) rfl rfl (Nat.le_of_ble_eq_true rfl) dX1_rowGoesOn_46 (fun f28 H locs ef28 V hS => ?_)
              replace hG := gLt_e hG (view_I hf26 rfl ef28)
              have hf29 : f28 o0 = .inr (0, [.int v26_0, .int v26_1, .ref v26_2, .int v26_3, .int x27]) := up_s ef28
              have I := cI_up I t_o0.2 ef28 (mk0 t26_2)
              refine lv_goto (tgt := 71) hx hb dX1_rowGoesOn_49 (by decide) ?_
              refine lv_aload_n hx hb dX1_rowGoesOn_71 rfl (lv_at hl 0 rfl) ?_
              obtain ⟨v30_0, v30_1, v30_2, v30_3, v30_4, v30_5, v30_6, v30_7, v30_8, v30_9, v30_10, v30_11, v30_12, hf30, t30_7, t30_8, t30_11⟩ := op7 I hy9
              refine cGoV (cRunV (As := []) (rest := []) C9 hml hN hNs V I hS hy9.1 hf30 rfl (c_X8_goOn l D ks τ L A N hN  ψ f28 y9 hy9 ) gC_X1_39 okC_X8_goOn ⟨rfl, rfl, Nat.le_of_ble_eq_true rfl, Nat.le_of_ble_eq_true rfl⟩ hl.1 rfl (Nat.le_of_ble_eq_true rfl) dX1_rowGoesOn_72 ⟨Nat.zero_le _, Nat.zero_le _⟩) hS (fun p32 f31 H locs hqf31 V I hS => ?_)
              obtain ⟨hqf31, ghqf31⟩ := hqf31
              replace hG := gLt_e hG (ghqf31)
              have I : cI ks τ L ψ f31 := by rw [show p32 = ψ from hqf31] at I; exact I
              obtain ⟨x34, ex34⟩ : ∃ y : Int32, y = w2_1 + (1) := ⟨_, rfl⟩
              replace hG := gLt_e hG ex34
              refine lv_iinc (v := x34) (lv' := [(1, .int x34), (2, .ref y9), (0, .ref o0)]) hx hb dX1_rowGoesOn_75 hl (k := 2) rfl (by rw [ex34]; rfl) (by decide) rfl (fun ls hl => ?_)
              refine lv_goto (tgt := 2) hx hb dX1_rowGoesOn_78 (by decide) ?_
              exact ih2 x34  f31 _ _ _ I (ca_up ex34 hi2.1 (ci_lt c2)) (cmsd hm2 (ca_dec ex34 hi2.1 (ci_lt c2)).1 (ca_dec ex34 hi2.1 (ci_lt c2)).2) hG V hS (lv_sub hl [2, 0] rfl)
  exact loop2 ((8 - x1).toInt.toNat + 1) x1  f _ _ _ I (by clear hG V hS hl C9 hts hown hx hb hml hr hlk h0 hN0; subst_vars; decide) (Nat.lt_succ_self _) hG V hS (lv_sub hl [1, 0] rfl)
def FC_X1_leave (X : xS) (o0 : Nat) (o1 : Nat) : xS := gLt (xI X o0 4 : Int32) (fun v1_4 => if (v1_4 : Int32) = 0 then (gLt (FC_X8_fail X o1 3 : xS) (fun Xf16 => Xf16)) else (gLt ((v1_4 - 1) : Int32) (fun x3 => gLt (xwI X o0 4 x3 : xS) (fun Xf4 => gLt (FC_X8_goOn Xf4 o1 : xS) (fun Xf7 => gLt (xI Xf7 o0 4 : Int32) (fun v10_4 => if (v10_4 : Int32) = 0 then (gLt (FC_X1_rowGoesOn Xf7 o0 : xS) (fun Xf12 => Xf12)) else (Xf7)))))))
set_option maxHeartbeats 200000 in
set_option maxRecDepth 100000 in
theorem c_X1_leave (l : Launch) (D : va_G) (ks : kS) (τ : Nat → Nat) (L : List Nat) (A : Nat → Prop) (N : State → Prop) (hN : cNk A N) (κ : kC) (hN0 : ∀ U, N U → N0 κ A U) (ψ : Int32) (f : Nat → va_E) (o0 : Nat) (o1 : Nat) (t_o0 : ty τ L o0 0) (t_o1 : ty τ L o1 7) : Met l yX1_leave (Cond.code yX1_leave cX1_leave 2 none :: tC) ({ frames := 3, cells := 0, slots := 0, locals := 65 }) (va_Pc [.ref o0, .ref o1] (cB D ks τ L A N (ψ, f))) (va_Qv (fun x9 => (x9.1 = ψ) ∧ view x9.2 = FC_X1_leave (view f) o0 o1) (cB D ks τ L A N) A) 0 0 A := by
  refine cMet (own := RX1) (by decide) rfl (Nat.le_of_ble_eq_true rfl) ?_
  intro p e s m below meth c ls C9 hml hr hlk V I hNs hl
  have hx := C9.1
  have hb := C9.2.1
  have hown := C9.2.2.1
  have hts := C9.2.2.2.1
  have h0 := hN0 s hNs
  have hS : va_S A s.heap s.heap [] := va_S.rf
  have hG := FC_X1_leave.eq_1 (view f) o0 o1
  have hl : lv_has ls 2 [(0, .ref o0), (1, .ref o1)] := hl
  refine lv_aload_n hx hb dX1_leave_0 rfl (lv_at hl 0 rfl) ?_
  obtain ⟨v1_0, v1_1, v1_2, v1_3, v1_4, hf1, t1_2⟩ := op0 I t_o0
  refine cG C9 V t_o0.1 hf1 rfl tC_lay0 4 (by decide) tCf_X1_36 (Or.inl rfl) rfl dX1_leave_1 ?_
  replace hG := gLt_e hG (view_gI hf1 rfl)
  refine lv_if_ne (tgt := 13) hx hb dX1_leave_4 (by decide) (fun c2 => ?_) (fun c2 => ?_)
  · replace hG := gIf_n hG c2
    refine lv_aload_n hx hb dX1_leave_13 rfl (lv_at hl 0 rfl) ?_
    refine lv_dup hx hb dX1_leave_14 rfl ?_
    refine cG C9 V t_o0.1 hf1 rfl tC_lay0 4 (by decide) tCf_X1_36 (Or.inl rfl) rfl dX1_leave_15 ?_
    refine lv_iconst (v := 1) hx hb dX1_leave_18 (by decide) ?_
    refine lv_isub hx hb dX1_leave_19 ?_
    refine lv_topi (fun x3 ex3 => ?_)
    replace hG := gLt_e hG ex3
    refine cP (v := .int x3) (ty := .int) C9 V hS t_o0.1 hf1 rfl tC_lay0 tyX1 tyX1_ok nmX1 4 (by decide) tCf_X1_36 rfl rfl (by decide +kernel) rfl rfl (Nat.le_of_ble_eq_true rfl) dX1_leave_20 (fun f4 H locs ef4 V hS => ?_)
    replace hG := gLt_e hG (view_I hf1 rfl ef4)
    have hf5 : f4 o0 = .inr (0, [.int v1_0, .int v1_1, .ref v1_2, .int v1_3, .int x3]) := up_s ef4
    have I := cI_up I t_o0.2 ef4 (mk0 t1_2)
    refine lv_aload_n hx hb dX1_leave_23 rfl (lv_at hl 1 rfl) ?_
    obtain ⟨v6_0, v6_1, v6_2, v6_3, v6_4, v6_5, v6_6, v6_7, v6_8, v6_9, v6_10, v6_11, v6_12, hf6, t6_7, t6_8, t6_11⟩ := op7 I t_o1
    refine cGoV (cRunV (As := []) (rest := []) C9 hml hN hNs V I hS t_o1.1 hf6 rfl (c_X8_goOn l D ks τ L A N hN  ψ f4 o1 t_o1 ) gC_X1_39 okC_X8_goOn ⟨rfl, rfl, Nat.le_of_ble_eq_true rfl, Nat.le_of_ble_eq_true rfl⟩ hl.1 rfl (Nat.le_of_ble_eq_true rfl) dX1_leave_24 ⟨Nat.zero_le _, Nat.zero_le _⟩) hS (fun p8 f7 H locs hqf7 V I hS => ?_)
    obtain ⟨hqf7, ghqf7⟩ := hqf7
    replace hG := gLt_e hG (ghqf7)
    have I : cI ks τ L ψ f7 := by rw [show p8 = ψ from hqf7] at I; exact I
    refine lv_aload_n hx hb dX1_leave_27 rfl (lv_at hl 0 rfl) ?_
    obtain ⟨v10_0, v10_1, v10_2, v10_3, v10_4, hf10, t10_2⟩ := op0 I t_o0
    refine cG C9 V t_o0.1 hf10 rfl tC_lay0 4 (by decide) tCf_X1_36 (Or.inl rfl) rfl dX1_leave_28 ?_
    replace hG := gLt_e hG (view_gI hf10 rfl)
    refine lv_if_ne (tgt := 38) hx hb dX1_leave_31 (by decide) (fun c11 => ?_) (fun c11 => ?_)
    · replace hG := gIf_n hG c11
      exact cRetV C9 hr hlk hN hNs V I hS (⟨rfl, hG.symm⟩) dX1_leave_38
    · replace hG := gIf_p hG c11
      refine lv_aload_n hx hb dX1_leave_34 rfl (lv_at hl 0 rfl) ?_
      refine cGoV (cRunV (As := []) (rest := []) C9 hml hN hNs V I hS t_o0.1 hf10 rfl (c_X1_rowGoesOn l D ks τ L A N hN κ hN0 ψ f7 o0 t_o0 ) gC_X1_62 okC_X1_rowGoesOn ⟨rfl, rfl, Nat.le_of_ble_eq_true rfl, Nat.le_of_ble_eq_true rfl⟩ hl.1 rfl (Nat.le_of_ble_eq_true rfl) dX1_leave_35 ⟨Nat.zero_le _, Nat.zero_le _⟩) hS (fun p13 f12 H locs hqf12 V I hS => ?_)
      obtain ⟨hqf12, ghqf12⟩ := hqf12
      replace hG := gLt_e hG (ghqf12)
      have I : cI ks τ L ψ f12 := by rw [show p13 = ψ from hqf12] at I; exact I
      exact cRetV C9 hr hlk hN hNs V I hS (⟨rfl, hG.symm⟩) dX1_leave_38
  · replace hG := gIf_p hG c2
    refine lv_aload_n hx hb dX1_leave_7 rfl (lv_at hl 1 rfl) ?_
    refine lv_iconst (v := 3) hx hb dX1_leave_8 (by decide) ?_
    obtain ⟨v15_0, v15_1, v15_2, v15_3, v15_4, v15_5, v15_6, v15_7, v15_8, v15_9, v15_10, v15_11, v15_12, hf15, t15_7, t15_8, t15_11⟩ := op7 I t_o1
    refine cGoV (cRunV (As := [.int 3]) (rest := []) C9 hml hN hNs V I hS t_o1.1 hf15 rfl (c_X8_fail l D ks τ L A N hN  ψ f o1 3 t_o1 ) gC_X1_58 okC_X8_fail ⟨rfl, rfl, Nat.le_of_ble_eq_true rfl, Nat.le_of_ble_eq_true rfl⟩ hl.1 rfl (Nat.le_of_ble_eq_true rfl) dX1_leave_9 ⟨Nat.zero_le _, Nat.zero_le _⟩) hS (fun p17 f16 H locs hqf16 V I hS => ?_)
    obtain ⟨hqf16, ghqf16⟩ := hqf16
    replace hG := gLt_e hG (ghqf16)
    have I : cI ks τ L ψ f16 := by rw [show p17 = ψ from hqf16] at I; exact I
    exact cRetV C9 hr hlk hN hNs V I hS (⟨rfl, hG.symm⟩) dX1_leave_12
def FC_X1_giveBack (X : xS) (o0 : Nat) (o1 : Nat) : xS := gLt (xI X o0 3 : Int32) (fun v1_3 => gLt (xI X o1 0 : Int32) (fun v2_0 => if (v1_3 : Int32) = v2_0 then (gLt ((-1) : Int32) (fun x4 => gLt (xwI X o0 3 x4 : xS) (fun Xf5 => gLt (FC_X8_goOn Xf5 o1 : xS) (fun Xf8 => gLt (FC_X1_rowGoesOn Xf8 o0 : xS) (fun Xf12 => Xf12))))) else (gLt (FC_X8_fail X o1 1 : xS) (fun Xf15 => Xf15))))
set_option maxHeartbeats 200000 in
set_option maxRecDepth 100000 in
theorem c_X1_giveBack (l : Launch) (D : va_G) (ks : kS) (τ : Nat → Nat) (L : List Nat) (A : Nat → Prop) (N : State → Prop) (hN : cNk A N) (κ : kC) (hN0 : ∀ U, N U → N0 κ A U) (ψ : Int32) (f : Nat → va_E) (o0 : Nat) (o1 : Nat) (t_o0 : ty τ L o0 0) (t_o1 : ty τ L o1 7) : Met l yX1_giveBack (Cond.code yX1_giveBack cX1_giveBack 2 none :: tC) ({ frames := 3, cells := 0, slots := 0, locals := 65 }) (va_Pc [.ref o0, .ref o1] (cB D ks τ L A N (ψ, f))) (va_Qv (fun x9 => (x9.1 = ψ) ∧ view x9.2 = FC_X1_giveBack (view f) o0 o1) (cB D ks τ L A N) A) 0 0 A := by
  refine cMet (own := RX1) (by decide) rfl (Nat.le_of_ble_eq_true rfl) ?_
  intro p e s m below meth c ls C9 hml hr hlk V I hNs hl
  have hx := C9.1
  have hb := C9.2.1
  have hown := C9.2.2.1
  have hts := C9.2.2.2.1
  have h0 := hN0 s hNs
  have hS : va_S A s.heap s.heap [] := va_S.rf
  have hG := FC_X1_giveBack.eq_1 (view f) o0 o1
  have hl : lv_has ls 2 [(0, .ref o0), (1, .ref o1)] := hl
  refine lv_aload_n hx hb dX1_giveBack_0 rfl (lv_at hl 0 rfl) ?_
  obtain ⟨v1_0, v1_1, v1_2, v1_3, v1_4, hf1, t1_2⟩ := op0 I t_o0
  refine cG C9 V t_o0.1 hf1 rfl tC_lay0 3 (by decide) tCf_X1_9 (Or.inl rfl) rfl dX1_giveBack_1 ?_
  replace hG := gLt_e hG (view_gI hf1 rfl)
  refine lv_aload_n hx hb dX1_giveBack_4 rfl (lv_at hl 1 rfl) ?_
  obtain ⟨v2_0, v2_1, v2_2, v2_3, v2_4, v2_5, v2_6, v2_7, v2_8, v2_9, v2_10, v2_11, v2_12, hf2, t2_7, t2_8, t2_11⟩ := op7 I t_o1
  refine cG C9 V t_o1.1 hf2 rfl tC_lay7 0 (by decide) tCf_X1_52 (Or.inl rfl) rfl dX1_giveBack_5 ?_
  replace hG := gLt_e hG (view_gI hf2 rfl)
  refine lv_icmp_eq (tgt := 17) hx hb dX1_giveBack_8 (by decide) (fun c3 => ?_) (fun c3 => ?_)
  · replace hG := gIf_p hG c3
    refine lv_aload_n hx hb dX1_giveBack_17 rfl (lv_at hl 0 rfl) ?_
    refine lv_iconst (v := (-1)) hx hb dX1_giveBack_18 (by decide) ?_
    refine lv_topi (fun x4 ex4 => ?_)
    replace hG := gLt_e hG ex4
    refine cP (v := .int x4) (ty := .int) C9 V hS t_o0.1 hf1 rfl tC_lay0 tyX1 tyX1_ok nmX1 3 (by decide) tCf_X1_9 rfl rfl (by decide +kernel) rfl rfl (Nat.le_of_ble_eq_true rfl) dX1_giveBack_19 (fun f5 H locs ef5 V hS => ?_)
    replace hG := gLt_e hG (view_I hf1 rfl ef5)
    have hf6 : f5 o0 = .inr (0, [.int v1_0, .int v1_1, .ref v1_2, .int x4, .int v1_4]) := up_s ef5
    have I := cI_up I t_o0.2 ef5 (mk0 t1_2)
    have hf7 := up_n ef5 t_o0.2 t_o1.2 (by first | decide | omega) hf2
    refine lv_aload_n hx hb dX1_giveBack_22 rfl (lv_at hl 1 rfl) ?_
    refine cGoV (cRunV (As := []) (rest := []) C9 hml hN hNs V I hS t_o1.1 hf7 rfl (c_X8_goOn l D ks τ L A N hN  ψ f5 o1 t_o1 ) gC_X1_39 okC_X8_goOn ⟨rfl, rfl, Nat.le_of_ble_eq_true rfl, Nat.le_of_ble_eq_true rfl⟩ hl.1 rfl (Nat.le_of_ble_eq_true rfl) dX1_giveBack_23 ⟨Nat.zero_le _, Nat.zero_le _⟩) hS (fun p9 f8 H locs hqf8 V I hS => ?_)
    obtain ⟨hqf8, ghqf8⟩ := hqf8
    replace hG := gLt_e hG (ghqf8)
    have I : cI ks τ L ψ f8 := by rw [show p9 = ψ from hqf8] at I; exact I
    refine lv_aload_n hx hb dX1_giveBack_26 rfl (lv_at hl 0 rfl) ?_
    obtain ⟨v11_0, v11_1, v11_2, v11_3, v11_4, hf11, t11_2⟩ := op0 I t_o0
    refine cGoV (cRunV (As := []) (rest := []) C9 hml hN hNs V I hS t_o0.1 hf11 rfl (c_X1_rowGoesOn l D ks τ L A N hN κ hN0 ψ f8 o0 t_o0 ) gC_X1_62 okC_X1_rowGoesOn ⟨rfl, rfl, Nat.le_of_ble_eq_true rfl, Nat.le_of_ble_eq_true rfl⟩ hl.1 rfl (Nat.le_of_ble_eq_true rfl) dX1_giveBack_27 ⟨Nat.zero_le _, Nat.zero_le _⟩) hS (fun p13 f12 H locs hqf12 V I hS => ?_)
    obtain ⟨hqf12, ghqf12⟩ := hqf12
    replace hG := gLt_e hG (ghqf12)
    have I : cI ks τ L ψ f12 := by rw [show p13 = ψ from hqf12] at I; exact I
    exact cRetV C9 hr hlk hN hNs V I hS (⟨rfl, hG.symm⟩) dX1_giveBack_30
  · replace hG := gIf_n hG c3
    refine lv_aload_n hx hb dX1_giveBack_11 rfl (lv_at hl 1 rfl) ?_
    refine lv_iconst (v := 1) hx hb dX1_giveBack_12 (by decide) ?_
    refine cGoV (cRunV (As := [.int 1]) (rest := []) C9 hml hN hNs V I hS t_o1.1 hf2 rfl (c_X8_fail l D ks τ L A N hN  ψ f o1 1 t_o1 ) gC_X1_58 okC_X8_fail ⟨rfl, rfl, Nat.le_of_ble_eq_true rfl, Nat.le_of_ble_eq_true rfl⟩ hl.1 rfl (Nat.le_of_ble_eq_true rfl) dX1_giveBack_13 ⟨Nat.zero_le _, Nat.zero_le _⟩) hS (fun p16 f15 H locs hqf15 V I hS => ?_)
    obtain ⟨hqf15, ghqf15⟩ := hqf15
    replace hG := gLt_e hG (ghqf15)
    have I : cI ks τ L ψ f15 := by rw [show p16 = ψ from hqf15] at I; exact I
    exact cRetV C9 hr hlk hN hNs V I hS (⟨rfl, hG.symm⟩) dX1_giveBack_16
def FC_X1_perform (X : xS) (o0 : Nat) (o1 : Nat) (o2 : Nat) : xS := gLt (FC_Jx29ce0_ordinal_8abf5 X o2 : Int32) (fun r4 => gLt (swM.getD (Int32.toNatClampNeg r4) 0 : Int32) (fun x5 => if tabT 8 (117) (20) (22) [28, 71, 79] x5 = 125 then (gLt (FC_X1_giveBack X o0 o1 : xS) (fun Xf8 => Xf8)) else (if tabT 8 (117) (20) (22) [28, 71, 79] x5 = 36 then (gLt (xI X o0 3 : Int32) (fun v11_3 => if (v11_3 : Int32) = (-1) then (gLt ((xR X o0 2).getD 0 : Nat) (fun v11_2 => gLt (xI X v11_2 0 : Int32) (fun v16_0 => if (v16_0 : Int32) = 0 then (gLt (xI X o0 4 : Int32) (fun v11_4 => gLt ((v11_4 + 1) : Int32) (fun x21 => gLt (xwI X o0 4 x21 : xS) (fun Xf22 => gLt (FC_X8_goOn Xf22 o1 : xS) (fun Xf26 => Xf26))))) else (gLt (FC_X9_holdUp X o0 o1 : xS) (fun Xf18 => Xf18))))) else (gLt (FC_X9_holdUp X o0 o1 : xS) (fun Xf13 => Xf13)))) else (if tabT 8 (117) (20) (22) [28, 71, 79] x5 = 79 then (gLt (FC_X1_leave X o0 o1 : xS) (fun Xf30 => Xf30)) else (gLt (xI X o0 3 : Int32) (fun v33_3 => if (v33_3 : Int32) = (-1) then (gLt (xI X o0 4 : Int32) (fun v33_4 => if (v33_4 : Int32) = 0 then (gLt (xI X o1 0 : Int32) (fun v42_0 => gLt (xwI X o0 3 v42_0 : xS) (fun Xf43 => gLt (FC_X8_goOn Xf43 o1 : xS) (fun Xf46 => Xf46)))) else (gLt (FC_X9_holdUp X o0 o1 : xS) (fun Xf39 => Xf39)))) else (gLt (FC_X9_holdUp X o0 o1 : xS) (fun Xf35 => Xf35))))))))
set_option maxHeartbeats 200000 in
set_option maxRecDepth 100000 in
theorem c_X1_perform (l : Launch) (D : va_G) (ks : kS) (τ : Nat → Nat) (L : List Nat) (A : Nat → Prop) (N : State → Prop) (hN : cNk A N) (κ : kC) (hN0 : ∀ U, N U → N0 κ A U) (ψ : Int32) (f : Nat → va_E) (o0 : Nat) (o1 : Nat) (o2 : Nat) (t_o0 : ty τ L o0 0) (t_o1 : ty τ L o1 7) (t_o2 : o2 < 34) : Met l yX1_perform (Cond.code yX1_perform cX1_perform 3 none :: tC) ({ frames := 4, cells := 0, slots := 0, locals := 86 }) (va_Pc [.ref o0, .ref o1, .ref (κ.1 o2)] (cB D ks τ L A N (ψ, f))) (va_Qv (fun x9 => (x9.1 = ψ) ∧ view x9.2 = FC_X1_perform (view f) o0 o1 o2) (cB D ks τ L A N) A) 0 0 A := by
  refine cMet (own := RX1) (by decide) rfl (Nat.le_of_ble_eq_true rfl) ?_
  intro p e s m below meth c ls C9 hml hr hlk V I hNs hl
  have hx := C9.1
  have hb := C9.2.1
  have hown := C9.2.2.1
  have hts := C9.2.2.2.1
  have h0 := hN0 s hNs
  have hS : va_S A s.heap s.heap [] := va_S.rf
  have hG := FC_X1_perform.eq_1 (view f) o0 o1 o2
  have hl : lv_has ls 3 [(0, .ref o0), (1, .ref o1), (2, .ref (κ.1 o2))] := hl
  refine cZs C9 h0 hS tCf_X1_15 dX1_perform_0 (fun y1 hy1 => ?_)
  refine lv_aload_n hx hb dX1_perform_3 rfl (lv_at hl 2 rfl) ?_
  refine cGoI (cRunU (As := []) (rest := [.ref y1]) C9 hml hN hNs V I hS (isW_r h0 hS t_o2) (c_Jx29ce0_ordinal_8abf5 l D ks τ L A N hN κ hN0 ψ f o2 t_o2 ) (va_cwU 0 hts gU_X1_21_X11 rfl rfl rfl rfl okU_X1_21 ⟨Nat.le_of_ble_eq_true rfl, Nat.le_of_ble_eq_true rfl⟩) hl.1 rfl (Nat.le_of_ble_eq_true rfl) dX1_perform_4 ⟨Nat.zero_le _, Nat.zero_le _⟩) hS (fun r4 p3 f2 H locs hqf2 V I hS => ?_)
  obtain ⟨hqf2, ghqf2⟩ := hqf2
  replace hG := gLt_e hG ghqf2
  have V : cV D L f A H := by rw [show f2 = f from congrArg Prod.snd hqf2.1] at V; exact V
  have I : cI ks τ L ψ f := by rw [show f2 = f from congrArg Prod.snd hqf2.1, show p3 = ψ from congrArg Prod.fst hqf2.1] at I; exact I
  refine cLs C9 hy1 hS (cvin (N := 34) rfl (hqf2.2.1) (hqf2.2.2)) dX1_perform_7 (fun x5 ex5 => ?_)
  replace hG := gLt_e hG (ex5)
  refine cTabG hx hb [125, 36, 79, 87] dX1_perform_8 rfl (by decide) ?_
  intro t9 hm6 hThm6
  rcases List.mem_cons.mp hm6 with rfl | hm6
  · replace hG := gIf_p hG hThm6
    refine lv_aload_n hx hb dX1_perform_125 rfl (lv_at hl 0 rfl) ?_
    refine lv_aload_n hx hb dX1_perform_126 rfl (lv_at hl 1 rfl) ?_
    obtain ⟨v7_0, v7_1, v7_2, v7_3, v7_4, hf7, t7_2⟩ := op0 I t_o0
    refine cGoV (cRunV (As := [.ref o1]) (rest := []) C9 hml hN hNs V I hS t_o0.1 hf7 rfl (c_X1_giveBack l D ks τ L A N hN κ hN0 ψ f o0 o1 t_o0 t_o1 ) gC_X1_55 okC_X1_giveBack ⟨rfl, rfl, Nat.le_of_ble_eq_true rfl, Nat.le_of_ble_eq_true rfl⟩ hl.1 rfl (Nat.le_of_ble_eq_true rfl) dX1_perform_127 ⟨Nat.zero_le _, Nat.zero_le _⟩) hS (fun p9 f8 H locs hqf8 V I hS => ?_)
    obtain ⟨hqf8, ghqf8⟩ := hqf8
    replace hG := gLt_e hG (ghqf8)
    have I : cI ks τ L ψ f8 := by rw [show p9 = ψ from hqf8] at I; exact I
    exact cRetV C9 hr hlk hN hNs V I hS (⟨rfl, hG.symm⟩) dX1_perform_130
  rcases List.mem_cons.mp hm6 with rfl | hm6
  · replace hG := gIf_n hG (fun z9 => absurd (hThm6.symm.trans z9) (by decide))
    replace hG := gIf_p hG hThm6
    refine lv_aload_n hx hb dX1_perform_36 rfl (lv_at hl 0 rfl) ?_
    obtain ⟨v11_0, v11_1, v11_2, v11_3, v11_4, hf11, t11_2⟩ := op0 I t_o0
    refine cG C9 V t_o0.1 hf11 rfl tC_lay0 3 (by decide) tCf_X1_9 (Or.inl rfl) rfl dX1_perform_37 ?_
    replace hG := gLt_e hG (view_gI hf11 rfl)
    refine lv_iconst (v := (-1)) hx hb dX1_perform_40 (by decide) ?_
    refine lv_icmp_ne (tgt := 71) hx hb dX1_perform_41 (by decide) (fun c12 => ?_) (fun c12 => ?_)
    · replace hG := gIf_n hG c12
      refine lv_aload_n hx hb dX1_perform_71 rfl (lv_at hl 0 rfl) ?_
      refine lv_aload_n hx hb dX1_perform_72 rfl (lv_at hl 1 rfl) ?_
      refine cGoV (cRunU (As := [.ref o1]) (rest := []) C9 hml hN hNs V I hS (cRc C9 V t_o0.1 hf11 rfl) (c_X9_holdUp l D ks τ L A N hN  ψ f o0 o1 (tyS_of t_o0 (by decide)) t_o1 ) (va_cwU 1 hts gU_X1_45_X1 rfl rfl rfl rfl okU_X1_45 ⟨Nat.le_of_ble_eq_true rfl, Nat.le_of_ble_eq_true rfl⟩) hl.1 rfl (Nat.le_of_ble_eq_true rfl) dX1_perform_73 ⟨Nat.zero_le _, Nat.zero_le _⟩) hS (fun p14 f13 H locs hqf13 V I hS => ?_)
      obtain ⟨hqf13, ghqf13⟩ := hqf13
      replace hG := gLt_e hG (ghqf13)
      have I : cI ks τ L ψ f13 := by rw [show p14 = ψ from hqf13] at I; exact I
      refine lv_goto (tgt := 130) hx hb dX1_perform_76 (by decide) ?_
      exact cRetV C9 hr hlk hN hNs V I hS (⟨rfl, hG.symm⟩) dX1_perform_130
    · replace hG := gIf_p hG c12
      refine lv_aload_n hx hb dX1_perform_44 rfl (lv_at hl 0 rfl) ?_
      refine cG C9 V t_o0.1 hf11 rfl tC_lay0 2 (by decide) tCf_X1_27 (Or.inr tCs_X1_row) rfl dX1_perform_45 ?_
      replace hG := gLt_e hG (view_gR hf11 rfl)
      obtain ⟨v16_0, v16_1, hf16, hn16, t16_1⟩ := op5 I t11_2
      refine cG C9 V t11_2.1 hf16 rfl tC_lay5 0 (by decide) tCf_X1_31 (Or.inl rfl) rfl dX1_perform_48 ?_
      replace hG := gLt_e hG (view_gI hf16 rfl)
      refine lv_if_ne (tgt := 71) hx hb dX1_perform_51 (by decide) (fun c17 => ?_) (fun c17 => ?_)
      · replace hG := gIf_n hG c17
        refine lv_aload_n hx hb dX1_perform_71 rfl (lv_at hl 0 rfl) ?_
        refine lv_aload_n hx hb dX1_perform_72 rfl (lv_at hl 1 rfl) ?_
        refine cGoV (cRunU (As := [.ref o1]) (rest := []) C9 hml hN hNs V I hS (cRc C9 V t_o0.1 hf11 rfl) (c_X9_holdUp l D ks τ L A N hN  ψ f o0 o1 (tyS_of t_o0 (by decide)) t_o1 ) (va_cwU 1 hts gU_X1_45_X1 rfl rfl rfl rfl okU_X1_45 ⟨Nat.le_of_ble_eq_true rfl, Nat.le_of_ble_eq_true rfl⟩) hl.1 rfl (Nat.le_of_ble_eq_true rfl) dX1_perform_73 ⟨Nat.zero_le _, Nat.zero_le _⟩) hS (fun p19 f18 H locs hqf18 V I hS => ?_)
        obtain ⟨hqf18, ghqf18⟩ := hqf18
        replace hG := gLt_e hG (ghqf18)
        have I : cI ks τ L ψ f18 := by rw [show p19 = ψ from hqf18] at I; exact I
        refine lv_goto (tgt := 130) hx hb dX1_perform_76 (by decide) ?_
        exact cRetV C9 hr hlk hN hNs V I hS (⟨rfl, hG.symm⟩) dX1_perform_130
      · replace hG := gIf_p hG c17
        refine lv_aload_n hx hb dX1_perform_54 rfl (lv_at hl 0 rfl) ?_
        refine lv_dup hx hb dX1_perform_55 rfl ?_
        refine cG C9 V t_o0.1 hf11 rfl tC_lay0 4 (by decide) tCf_X1_36 (Or.inl rfl) rfl dX1_perform_56 ?_
        replace hG := gLt_e hG (view_gI hf11 rfl)
        refine lv_iconst (v := 1) hx hb dX1_perform_59 (by decide) ?_
        refine lv_iadd hx hb dX1_perform_60 ?_
        refine lv_topi (fun x21 ex21 => ?_)
        replace hG := gLt_e hG ex21
        refine cP (v := .int x21) (ty := .int) C9 V hS t_o0.1 hf11 rfl tC_lay0 tyX1 tyX1_ok nmX1 4 (by decide) tCf_X1_36 rfl rfl (by decide +kernel) rfl rfl (Nat.le_of_ble_eq_true rfl) dX1_perform_61 (fun f22 H locs ef22 V hS => ?_)
        replace hG := gLt_e hG (view_I hf11 rfl ef22)
        have hf23 : f22 o0 = .inr (0, [.int v11_0, .int v11_1, .ref v11_2, .int v11_3, .int x21]) := up_s ef22
        have I := cI_up I t_o0.2 ef22 (mk0 t11_2)
        have hf24 := up_n ef22 t_o0.2 t11_2.2 (by first | decide | omega) hf16
        refine lv_aload_n hx hb dX1_perform_64 rfl (lv_at hl 1 rfl) ?_
        obtain ⟨v25_0, v25_1, v25_2, v25_3, v25_4, v25_5, v25_6, v25_7, v25_8, v25_9, v25_10, v25_11, v25_12, hf25, t25_7, t25_8, t25_11⟩ := op7 I t_o1
        refine cGoV (cRunV (As := []) (rest := []) C9 hml hN hNs V I hS t_o1.1 hf25 rfl (c_X8_goOn l D ks τ L A N hN  ψ f22 o1 t_o1 ) gC_X1_39 okC_X8_goOn ⟨rfl, rfl, Nat.le_of_ble_eq_true rfl, Nat.le_of_ble_eq_true rfl⟩ hl.1 rfl (Nat.le_of_ble_eq_true rfl) dX1_perform_65 ⟨Nat.zero_le _, Nat.zero_le _⟩) hS (fun p27 f26 H locs hqf26 V I hS => ?_)
        obtain ⟨hqf26, ghqf26⟩ := hqf26
        replace hG := gLt_e hG (ghqf26)
        have I : cI ks τ L ψ f26 := by rw [show p27 = ψ from hqf26] at I; exact I
        refine lv_goto (tgt := 130) hx hb dX1_perform_68 (by decide) ?_
        exact cRetV C9 hr hlk hN hNs V I hS (⟨rfl, hG.symm⟩) dX1_perform_130
  rcases List.mem_cons.mp hm6 with rfl | hm6
  · replace hG := gIf_n hG (fun z9 => absurd (hThm6.symm.trans z9) (by decide))
    replace hG := gIf_n hG (fun z9 => absurd (hThm6.symm.trans z9) (by decide))
    replace hG := gIf_p hG hThm6
    refine lv_aload_n hx hb dX1_perform_79 rfl (lv_at hl 0 rfl) ?_
    refine lv_aload_n hx hb dX1_perform_80 rfl (lv_at hl 1 rfl) ?_
    obtain ⟨v29_0, v29_1, v29_2, v29_3, v29_4, hf29, t29_2⟩ := op0 I t_o0
    refine cGoV (cRunV (As := [.ref o1]) (rest := []) C9 hml hN hNs V I hS t_o0.1 hf29 rfl (c_X1_leave l D ks τ L A N hN κ hN0 ψ f o0 o1 t_o0 t_o1 ) gC_X1_49 okC_X1_leave ⟨rfl, rfl, Nat.le_of_ble_eq_true rfl, Nat.le_of_ble_eq_true rfl⟩ hl.1 rfl (Nat.le_of_ble_eq_true rfl) dX1_perform_81 ⟨Nat.zero_le _, Nat.zero_le _⟩) hS (fun p31 f30 H locs hqf30 V I hS => ?_)
    obtain ⟨hqf30, ghqf30⟩ := hqf30
    replace hG := gLt_e hG (ghqf30)
    have I : cI ks τ L ψ f30 := by rw [show p31 = ψ from hqf30] at I; exact I
    refine lv_goto (tgt := 130) hx hb dX1_perform_84 (by decide) ?_
    exact cRetV C9 hr hlk hN hNs V I hS (⟨rfl, hG.symm⟩) dX1_perform_130
  rcases List.mem_cons.mp hm6 with rfl | hm6
  · replace hG := gIf_n hG (fun z9 => absurd (hThm6.symm.trans z9) (by decide))
    replace hG := gIf_n hG (fun z9 => absurd (hThm6.symm.trans z9) (by decide))
    replace hG := gIf_n hG (fun z9 => absurd (hThm6.symm.trans z9) (by decide))
    refine lv_aload_n hx hb dX1_perform_87 rfl (lv_at hl 0 rfl) ?_
    obtain ⟨v33_0, v33_1, v33_2, v33_3, v33_4, hf33, t33_2⟩ := op0 I t_o0
    refine cG C9 V t_o0.1 hf33 rfl tC_lay0 3 (by decide) tCf_X1_9 (Or.inl rfl) rfl dX1_perform_88 ?_
    replace hG := gLt_e hG (view_gI hf33 rfl)
    refine lv_iconst (v := (-1)) hx hb dX1_perform_91 (by decide) ?_
    refine lv_icmp_ne (tgt := 117) hx hb dX1_perform_92 (by decide) (fun c34 => ?_) (fun c34 => ?_)
    · replace hG := gIf_n hG c34
      refine lv_aload_n hx hb dX1_perform_117 rfl (lv_at hl 0 rfl) ?_
      refine lv_aload_n hx hb dX1_perform_118 rfl (lv_at hl 1 rfl) ?_
      refine cGoV (cRunU (As := [.ref o1]) (rest := []) C9 hml hN hNs V I hS (cRc C9 V t_o0.1 hf33 rfl) (c_X9_holdUp l D ks τ L A N hN  ψ f o0 o1 (tyS_of t_o0 (by decide)) t_o1 ) (va_cwU 1 hts gU_X1_45_X1 rfl rfl rfl rfl okU_X1_45 ⟨Nat.le_of_ble_eq_true rfl, Nat.le_of_ble_eq_true rfl⟩) hl.1 rfl (Nat.le_of_ble_eq_true rfl) dX1_perform_119 ⟨Nat.zero_le _, Nat.zero_le _⟩) hS (fun p36 f35 H locs hqf35 V I hS => ?_)
      obtain ⟨hqf35, ghqf35⟩ := hqf35
      replace hG := gLt_e hG (ghqf35)
      have I : cI ks τ L ψ f35 := by rw [show p36 = ψ from hqf35] at I; exact I
      refine lv_goto (tgt := 130) hx hb dX1_perform_122 (by decide) ?_
      exact cRetV C9 hr hlk hN hNs V I hS (⟨rfl, hG.symm⟩) dX1_perform_130
    · replace hG := gIf_p hG c34
      refine lv_aload_n hx hb dX1_perform_95 rfl (lv_at hl 0 rfl) ?_
      refine cG C9 V t_o0.1 hf33 rfl tC_lay0 4 (by decide) tCf_X1_36 (Or.inl rfl) rfl dX1_perform_96 ?_
      replace hG := gLt_e hG (view_gI hf33 rfl)
      refine lv_if_ne (tgt := 117) hx hb dX1_perform_99 (by decide) (fun c38 => ?_) (fun c38 => ?_)
      · replace hG := gIf_n hG c38
        refine lv_aload_n hx hb dX1_perform_117 rfl (lv_at hl 0 rfl) ?_
        refine lv_aload_n hx hb dX1_perform_118 rfl (lv_at hl 1 rfl) ?_
        refine cGoV (cRunU (As := [.ref o1]) (rest := []) C9 hml hN hNs V I hS (cRc C9 V t_o0.1 hf33 rfl) (c_X9_holdUp l D ks τ L A N hN  ψ f o0 o1 (tyS_of t_o0 (by decide)) t_o1 ) (va_cwU 1 hts gU_X1_45_X1 rfl rfl rfl rfl okU_X1_45 ⟨Nat.le_of_ble_eq_true rfl, Nat.le_of_ble_eq_true rfl⟩) hl.1 rfl (Nat.le_of_ble_eq_true rfl) dX1_perform_119 ⟨Nat.zero_le _, Nat.zero_le _⟩) hS (fun p40 f39 H locs hqf39 V I hS => ?_)
        obtain ⟨hqf39, ghqf39⟩ := hqf39
        replace hG := gLt_e hG (ghqf39)
        have I : cI ks τ L ψ f39 := by rw [show p40 = ψ from hqf39] at I; exact I
        refine lv_goto (tgt := 130) hx hb dX1_perform_122 (by decide) ?_
        exact cRetV C9 hr hlk hN hNs V I hS (⟨rfl, hG.symm⟩) dX1_perform_130
      · replace hG := gIf_p hG c38
        refine lv_aload_n hx hb dX1_perform_102 rfl (lv_at hl 0 rfl) ?_
        refine lv_aload_n hx hb dX1_perform_103 rfl (lv_at hl 1 rfl) ?_
        obtain ⟨v42_0, v42_1, v42_2, v42_3, v42_4, v42_5, v42_6, v42_7, v42_8, v42_9, v42_10, v42_11, v42_12, hf42, t42_7, t42_8, t42_11⟩ := op7 I t_o1
        refine cG C9 V t_o1.1 hf42 rfl tC_lay7 0 (by decide) tCf_X1_52 (Or.inl rfl) rfl dX1_perform_104 ?_
        replace hG := gLt_e hG (view_gI hf42 rfl)
        refine cP (v := .int v42_0) (ty := .int) C9 V hS t_o0.1 hf33 rfl tC_lay0 tyX1 tyX1_ok nmX1 3 (by decide) tCf_X1_9 rfl rfl (by decide +kernel) rfl rfl (Nat.le_of_ble_eq_true rfl) dX1_perform_107 (fun f43 H locs ef43 V hS => ?_)
        replace hG := gLt_e hG (view_I hf33 rfl ef43)
        have hf44 : f43 o0 = .inr (0, [.int v33_0, .int v33_1, .ref v33_2, .int v42_0, .int v33_4]) := up_s ef43
        have I := cI_up I t_o0.2 ef43 (mk0 t33_2)
        have hf45 := up_n ef43 t_o0.2 t_o1.2 (by first | decide | omega) hf42
        refine lv_aload_n hx hb dX1_perform_110 rfl (lv_at hl 1 rfl) ?_
        refine cGoV (cRunV (As := []) (rest := []) C9 hml hN hNs V I hS t_o1.1 hf45 rfl (c_X8_goOn l D ks τ L A N hN  ψ f43 o1 t_o1 ) gC_X1_39 okC_X8_goOn ⟨rfl, rfl, Nat.le_of_ble_eq_true rfl, Nat.le_of_ble_eq_true rfl⟩ hl.1 rfl (Nat.le_of_ble_eq_true rfl) dX1_perform_111 ⟨Nat.zero_le _, Nat.zero_le _⟩) hS (fun p47 f46 H locs hqf46 V I hS => ?_)
        obtain ⟨hqf46, ghqf46⟩ := hqf46
        replace hG := gLt_e hG (ghqf46)
        have I : cI ks τ L ψ f46 := by rw [show p47 = ψ from hqf46] at I; exact I
        refine lv_goto (tgt := 130) hx hb dX1_perform_114 (by decide) ?_
        exact cRetV C9 hr hlk hN hNs V I hS (⟨rfl, hG.symm⟩) dX1_perform_130
  exact absurd hm6 List.not_mem_nil
def FC_X2_perform (X : xS) (o0 : Nat) (o1 : Nat) (o2 : Nat) : xS := gLt (FC_Jx29ce0_ordinal_8abf5 X o2 : Int32) (fun r4 => gLt (swM.getD (Int32.toNatClampNeg r4) 0 : Int32) (fun x5 => if tabT 8 (164) (15) (19) [36, 47, 62, 87, 141] x5 = 172 then (gLt (xI X o0 3 : Int32) (fun v7_3 => if (v7_3 : Int32) = 0 then (gLt (FC_X9_holdUp X o0 o1 : xS) (fun Xf9 => Xf9)) else (gLt (xI X o0 4 : Int32) (fun v7_4 => gLt (FC_X8_goOnWith X o1 v7_4 : xS) (fun Xf13 => Xf13))))) else (if tabT 8 (164) (15) (19) [36, 47, 62, 87, 141] x5 = 44 then (gLt (xI X o0 4 : Int32) (fun v16_4 => gLt (FC_X8_goOnWith X o1 v16_4 : xS) (fun Xf18 => Xf18))) else (if tabT 8 (164) (15) (19) [36, 47, 62, 87, 141] x5 = 55 then (gLt (xI X o1 2 : Int32) (fun v21_2 => gLt (xwI X o0 4 v21_2 : xS) (fun Xf23 => gLt (FC_X8_goOn Xf23 o1 : xS) (fun Xf26 => Xf26)))) else (if tabT 8 (164) (15) (19) [36, 47, 62, 87, 141] x5 = 70 then (gLt (xI X o0 4 : Int32) (fun v29_4 => gC (FC_X8_operand X o1 1) (fun r33 Xf31 => gLt ((v29_4 + r33) : Int32) (fun x35 => gLt (xwI Xf31 o0 4 x35 : xS) (fun Xf36 => gLt (FC_X8_goOnWith Xf36 o1 x35 : xS) (fun Xf39 => Xf39)))))) else (if tabT 8 (164) (15) (19) [36, 47, 62, 87, 141] x5 = 95 then (gLt (xI X o0 4 : Int32) (fun v42_4 => gC (FC_X8_operand X o1 1) (fun r46 Xf44 => if (v42_4 : Int32) = r46 then (gLt (1 : Int32) (fun x78 => if (x78 : Int32) = 0 then (gLt (xI Xf44 o0 4 : Int32) (fun v80_4 => gLt (xwI Xf44 o0 4 v80_4 : xS) (fun Xf81 => if (x78 : Int32) = 0 then (gLt (FC_X8_goOnWith Xf81 o1 0 : xS) (fun Xf85 => Xf85)) else (gLt (FC_X8_goOnWith Xf81 o1 1 : xS) (fun Xf89 => Xf89))))) else (gC (FC_X8_operand Xf44 o1 2) (fun r95 Xf93 => gLt (xwI Xf93 o0 4 r95 : xS) (fun Xf97 => if (x78 : Int32) = 0 then (gLt (FC_X8_goOnWith Xf97 o1 0 : xS) (fun Xf101 => Xf101)) else (gLt (FC_X8_goOnWith Xf97 o1 1 : xS) (fun Xf105 => Xf105))))))) else (gLt (0 : Int32) (fun x48 => if (x48 : Int32) = 0 then (gLt (xI Xf44 o0 4 : Int32) (fun v50_4 => gLt (xwI Xf44 o0 4 v50_4 : xS) (fun Xf51 => if (x48 : Int32) = 0 then (gLt (FC_X8_goOnWith Xf51 o1 0 : xS) (fun Xf55 => Xf55)) else (gLt (FC_X8_goOnWith Xf51 o1 1 : xS) (fun Xf59 => Xf59))))) else (gC (FC_X8_operand Xf44 o1 2) (fun r65 Xf63 => gLt (xwI Xf63 o0 4 r65 : xS) (fun Xf67 => if (x48 : Int32) = 0 then (gLt (FC_X8_goOnWith Xf67 o1 0 : xS) (fun Xf71 => Xf71)) else (gLt (FC_X8_goOnWith Xf67 o1 1 : xS) (fun Xf75 => Xf75)))))))))) else (gLt (xI X o1 2 : Int32) (fun v108_2 => gC (FC_X2_isGiven X o0 v108_2) (fun r112 Xf110 => if (r112 : Int32) = 0 then (gLt (FC_X8_goOnWith Xf110 o1 0 : xS) (fun Xf115 => Xf115)) else (gLt (FC_X8_goOnWith Xf110 o1 1 : xS) (fun Xf119 => Xf119)))))))))))
set_option maxHeartbeats 200000 in
set_option maxRecDepth 100000 in
theorem c_X2_perform (l : Launch) (D : va_G) (ks : kS) (τ : Nat → Nat) (L : List Nat) (A : Nat → Prop) (N : State → Prop) (hN : cNk A N) (κ : kC) (hN0 : ∀ U, N U → N0 κ A U) (ψ : Int32) (f : Nat → va_E) (o0 : Nat) (o1 : Nat) (o2 : Nat) (t_o0 : ty τ L o0 1) (t_o1 : ty τ L o1 7) (t_o2 : o2 < 34) : Met l yX2_perform (Cond.code yX2_perform cX2_perform 4 none :: tC) ({ frames := 4, cells := 0, slots := 0, locals := 87 }) (va_Pc [.ref o0, .ref o1, .ref (κ.1 o2)] (cB D ks τ L A N (ψ, f))) (va_Qv (fun x9 => (x9.1 = ψ) ∧ view x9.2 = FC_X2_perform (view f) o0 o1 o2) (cB D ks τ L A N) A) 0 0 A := by
  refine cMet (own := RX2) (by decide) rfl (Nat.le_of_ble_eq_true rfl) ?_
  intro p e s m below meth c ls C9 hml hr hlk V I hNs hl
  have hx := C9.1
  have hb := C9.2.1
  have hown := C9.2.2.1
  have hts := C9.2.2.2.1
  have h0 := hN0 s hNs
  have hS : va_S A s.heap s.heap [] := va_S.rf
  have hG := FC_X2_perform.eq_1 (view f) o0 o1 o2
  have hl : lv_has ls 4 [(0, .ref o0), (1, .ref o1), (2, .ref (κ.1 o2))] := hl
  refine cZs C9 h0 hS tCf_X2_19 dX2_perform_0 (fun y1 hy1 => ?_)
  refine lv_aload_n hx hb dX2_perform_3 rfl (lv_at hl 2 rfl) ?_
  refine cGoI (cRunU (As := []) (rest := [.ref y1]) C9 hml hN hNs V I hS (isW_r h0 hS t_o2) (c_Jx29ce0_ordinal_8abf5 l D ks τ L A N hN κ hN0 ψ f o2 t_o2 ) (va_cwU 0 hts gU_X2_25_X11 rfl rfl rfl rfl okU_X2_25 ⟨Nat.le_of_ble_eq_true rfl, Nat.le_of_ble_eq_true rfl⟩) hl.1 rfl (Nat.le_of_ble_eq_true rfl) dX2_perform_4 ⟨Nat.zero_le _, Nat.zero_le _⟩) hS (fun r4 p3 f2 H locs hqf2 V I hS => ?_)
  obtain ⟨hqf2, ghqf2⟩ := hqf2
  replace hG := gLt_e hG ghqf2
  have V : cV D L f A H := by rw [show f2 = f from congrArg Prod.snd hqf2.1] at V; exact V
  have I : cI ks τ L ψ f := by rw [show f2 = f from congrArg Prod.snd hqf2.1, show p3 = ψ from congrArg Prod.fst hqf2.1] at I; exact I
  refine cLs C9 hy1 hS (cvin (N := 34) rfl (hqf2.2.1) (hqf2.2.2)) dX2_perform_7 (fun x5 ex5 => ?_)
  replace hG := gLt_e hG (ex5)
  refine cTabG hx hb [172, 44, 55, 70, 95, 149] dX2_perform_8 rfl (by decide) ?_
  intro t9 hm6 hThm6
  rcases List.mem_cons.mp hm6 with rfl | hm6
  · replace hG := gIf_p hG hThm6
    refine lv_aload_n hx hb dX2_perform_172 rfl (lv_at hl 0 rfl) ?_
    obtain ⟨v7_0, v7_1, v7_2, v7_3, v7_4, hf7, t7_2⟩ := op1 I t_o0
    refine cG C9 V t_o0.1 hf7 rfl tC_lay1 3 (by decide) tCf_X2_9 (Or.inl rfl) rfl dX2_perform_173 ?_
    replace hG := gLt_e hG (view_gI hf7 rfl)
    refine lv_if_eq (tgt := 190) hx hb dX2_perform_176 (by decide) (fun c8 => ?_) (fun c8 => ?_)
    · replace hG := gIf_p hG c8
      refine lv_aload_n hx hb dX2_perform_190 rfl (lv_at hl 0 rfl) ?_
      refine lv_aload_n hx hb dX2_perform_191 rfl (lv_at hl 1 rfl) ?_
      refine cGoV (cRunU (As := [.ref o1]) (rest := []) C9 hml hN hNs V I hS (cRc C9 V t_o0.1 hf7 rfl) (c_X9_holdUp l D ks τ L A N hN  ψ f o0 o1 (tyS_of t_o0 (by decide)) t_o1 ) (va_cwU 1 hts gU_X2_52_X2 rfl rfl rfl rfl okU_X2_52 ⟨Nat.le_of_ble_eq_true rfl, Nat.le_of_ble_eq_true rfl⟩) hl.1 rfl (Nat.le_of_ble_eq_true rfl) dX2_perform_192 ⟨Nat.zero_le _, Nat.zero_le _⟩) hS (fun p10 f9 H locs hqf9 V I hS => ?_)
      obtain ⟨hqf9, ghqf9⟩ := hqf9
      replace hG := gLt_e hG (ghqf9)
      have I : cI ks τ L ψ f9 := by rw [show p10 = ψ from hqf9] at I; exact I
      exact cRetV C9 hr hlk hN hNs V I hS (⟨rfl, hG.symm⟩) dX2_perform_195
    · replace hG := gIf_n hG c8
      refine lv_aload_n hx hb dX2_perform_179 rfl (lv_at hl 1 rfl) ?_
      refine lv_aload_n hx hb dX2_perform_180 rfl (lv_at hl 0 rfl) ?_
      refine cG C9 V t_o0.1 hf7 rfl tC_lay1 4 (by decide) tCf_X2_15 (Or.inl rfl) rfl dX2_perform_181 ?_
      replace hG := gLt_e hG (view_gI hf7 rfl)
      obtain ⟨v12_0, v12_1, v12_2, v12_3, v12_4, v12_5, v12_6, v12_7, v12_8, v12_9, v12_10, v12_11, v12_12, hf12, t12_7, t12_8, t12_11⟩ := op7 I t_o1
      refine cGoV (cRunV (As := [.int v7_4]) (rest := []) C9 hml hN hNs V I hS t_o1.1 hf12 rfl (c_X8_goOnWith l D ks τ L A N hN  ψ f o1 v7_4 t_o1 ) gC_X2_31 okC_X8_goOnWith ⟨rfl, rfl, Nat.le_of_ble_eq_true rfl, Nat.le_of_ble_eq_true rfl⟩ hl.1 rfl (Nat.le_of_ble_eq_true rfl) dX2_perform_184 ⟨Nat.zero_le _, Nat.zero_le _⟩) hS (fun p14 f13 H locs hqf13 V I hS => ?_)
      obtain ⟨hqf13, ghqf13⟩ := hqf13
      replace hG := gLt_e hG (ghqf13)
      have I : cI ks τ L ψ f13 := by rw [show p14 = ψ from hqf13] at I; exact I
      refine lv_goto (tgt := 195) hx hb dX2_perform_187 (by decide) ?_
      exact cRetV C9 hr hlk hN hNs V I hS (⟨rfl, hG.symm⟩) dX2_perform_195
  rcases List.mem_cons.mp hm6 with rfl | hm6
  · replace hG := gIf_n hG (fun z9 => absurd (hThm6.symm.trans z9) (by decide))
    replace hG := gIf_p hG hThm6
    refine lv_aload_n hx hb dX2_perform_44 rfl (lv_at hl 1 rfl) ?_
    refine lv_aload_n hx hb dX2_perform_45 rfl (lv_at hl 0 rfl) ?_
    obtain ⟨v16_0, v16_1, v16_2, v16_3, v16_4, hf16, t16_2⟩ := op1 I t_o0
    refine cG C9 V t_o0.1 hf16 rfl tC_lay1 4 (by decide) tCf_X2_15 (Or.inl rfl) rfl dX2_perform_46 ?_
    replace hG := gLt_e hG (view_gI hf16 rfl)
    obtain ⟨v17_0, v17_1, v17_2, v17_3, v17_4, v17_5, v17_6, v17_7, v17_8, v17_9, v17_10, v17_11, v17_12, hf17, t17_7, t17_8, t17_11⟩ := op7 I t_o1
    refine cGoV (cRunV (As := [.int v16_4]) (rest := []) C9 hml hN hNs V I hS t_o1.1 hf17 rfl (c_X8_goOnWith l D ks τ L A N hN  ψ f o1 v16_4 t_o1 ) gC_X2_31 okC_X8_goOnWith ⟨rfl, rfl, Nat.le_of_ble_eq_true rfl, Nat.le_of_ble_eq_true rfl⟩ hl.1 rfl (Nat.le_of_ble_eq_true rfl) dX2_perform_49 ⟨Nat.zero_le _, Nat.zero_le _⟩) hS (fun p19 f18 H locs hqf18 V I hS => ?_)
    obtain ⟨hqf18, ghqf18⟩ := hqf18
    replace hG := gLt_e hG (ghqf18)
    have I : cI ks τ L ψ f18 := by rw [show p19 = ψ from hqf18] at I; exact I
    refine lv_goto (tgt := 195) hx hb dX2_perform_52 (by decide) ?_
    exact cRetV C9 hr hlk hN hNs V I hS (⟨rfl, hG.symm⟩) dX2_perform_195
  rcases List.mem_cons.mp hm6 with rfl | hm6
  · replace hG := gIf_n hG (fun z9 => absurd (hThm6.symm.trans z9) (by decide))
    replace hG := gIf_n hG (fun z9 => absurd (hThm6.symm.trans z9) (by decide))
    replace hG := gIf_p hG hThm6
    refine lv_aload_n hx hb dX2_perform_55 rfl (lv_at hl 0 rfl) ?_
    refine lv_aload_n hx hb dX2_perform_56 rfl (lv_at hl 1 rfl) ?_
    obtain ⟨v21_0, v21_1, v21_2, v21_3, v21_4, v21_5, v21_6, v21_7, v21_8, v21_9, v21_10, v21_11, v21_12, hf21, t21_7, t21_8, t21_11⟩ := op7 I t_o1
    refine cG C9 V t_o1.1 hf21 rfl tC_lay7 2 (by decide) tCf_X2_37 (Or.inl rfl) rfl dX2_perform_57 ?_
    replace hG := gLt_e hG (view_gI hf21 rfl)
    obtain ⟨v22_0, v22_1, v22_2, v22_3, v22_4, hf22, t22_2⟩ := op1 I t_o0
    refine cP (v := .int v21_2) (ty := .int) C9 V hS t_o0.1 hf22 rfl tC_lay1 tyX2 tyX2_ok nmX2 4 (by decide) tCf_X2_15 rfl rfl (by decide +kernel) rfl rfl (Nat.le_of_ble_eq_true rfl) dX2_perform_60 (fun f23 H locs ef23 V hS => ?_)
    replace hG := gLt_e hG (view_I hf22 rfl ef23)
    have hf24 : f23 o0 = .inr (1, [.int v22_0, .int v22_1, .ref v22_2, .int v22_3, .int v21_2]) := up_s ef23
    have I := cI_up I t_o0.2 ef23 (mk1 t22_2)
    have hf25 := up_n ef23 t_o0.2 t_o1.2 (by first | decide | omega) hf21
    refine lv_aload_n hx hb dX2_perform_63 rfl (lv_at hl 1 rfl) ?_
    refine cGoV (cRunV (As := []) (rest := []) C9 hml hN hNs V I hS t_o1.1 hf25 rfl (c_X8_goOn l D ks τ L A N hN  ψ f23 o1 t_o1 ) gC_X2_40 okC_X8_goOn ⟨rfl, rfl, Nat.le_of_ble_eq_true rfl, Nat.le_of_ble_eq_true rfl⟩ hl.1 rfl (Nat.le_of_ble_eq_true rfl) dX2_perform_64 ⟨Nat.zero_le _, Nat.zero_le _⟩) hS (fun p27 f26 H locs hqf26 V I hS => ?_)
    obtain ⟨hqf26, ghqf26⟩ := hqf26
    replace hG := gLt_e hG (ghqf26)
    have I : cI ks τ L ψ f26 := by rw [show p27 = ψ from hqf26] at I; exact I
    refine lv_goto (tgt := 195) hx hb dX2_perform_67 (by decide) ?_
    exact cRetV C9 hr hlk hN hNs V I hS (⟨rfl, hG.symm⟩) dX2_perform_195
  rcases List.mem_cons.mp hm6 with rfl | hm6
  · replace hG := gIf_n hG (fun z9 => absurd (hThm6.symm.trans z9) (by decide))
    replace hG := gIf_n hG (fun z9 => absurd (hThm6.symm.trans z9) (by decide))
    replace hG := gIf_n hG (fun z9 => absurd (hThm6.symm.trans z9) (by decide))
    replace hG := gIf_p hG hThm6
    refine lv_aload_n hx hb dX2_perform_70 rfl (lv_at hl 0 rfl) ?_
    refine lv_dup hx hb dX2_perform_71 rfl ?_
    obtain ⟨v29_0, v29_1, v29_2, v29_3, v29_4, hf29, t29_2⟩ := op1 I t_o0
    refine cG C9 V t_o0.1 hf29 rfl tC_lay1 4 (by decide) tCf_X2_15 (Or.inl rfl) rfl dX2_perform_72 ?_
    replace hG := gLt_e hG (view_gI hf29 rfl)
    refine lv_aload_n hx hb dX2_perform_75 rfl (lv_at hl 1 rfl) ?_
    refine lv_iconst (v := 1) hx hb dX2_perform_76 (by decide) ?_
    obtain ⟨v30_0, v30_1, v30_2, v30_3, v30_4, v30_5, v30_6, v30_7, v30_8, v30_9, v30_10, v30_11, v30_12, hf30, t30_7, t30_8, t30_11⟩ := op7 I t_o1
    refine cGoI (cRunV (As := [.int 1]) (rest := [.int v29_4, .ref o0]) C9 hml hN hNs V I hS t_o1.1 hf30 rfl (c_X8_operand l D ks τ L A N hN  ψ f o1 1 t_o1 ) gC_X2_44 okC_X8_operand ⟨rfl, rfl, Nat.le_of_ble_eq_true rfl, Nat.le_of_ble_eq_true rfl⟩ hl.1 rfl (Nat.le_of_ble_eq_true rfl) dX2_perform_77 ⟨Nat.zero_le _, Nat.zero_le _⟩) hS (fun r33 p32 f31 H locs hqf31 V I hS => ?_)
    obtain ⟨hqf31, ghqf31⟩ := hqf31
    replace hG := gC_e hG ghqf31
    have I : cI ks τ L ψ f31 := by rw [show p32 = ψ from hqf31] at I; exact I
    refine lv_iadd hx hb dX2_perform_80 ?_
    obtain ⟨v34_0, v34_1, v34_2, v34_3, v34_4, hf34, t34_2⟩ := op1 I t_o0
    refine lv_topi (fun x35 ex35 => ?_)
    replace hG := gLt_e hG ex35
    refine cP (v := .int x35) (ty := .int) C9 V hS t_o0.1 hf34 rfl tC_lay1 tyX2 tyX2_ok nmX2 4 (by decide) tCf_X2_15 rfl rfl (by decide +kernel) rfl rfl (Nat.le_of_ble_eq_true rfl) dX2_perform_81 (fun f36 H locs ef36 V hS => ?_)
    replace hG := gLt_e hG (view_I hf34 rfl ef36)
    have hf37 : f36 o0 = .inr (1, [.int v34_0, .int v34_1, .ref v34_2, .int v34_3, .int x35]) := up_s ef36
    have I := cI_up I t_o0.2 ef36 (mk1 t34_2)
    refine lv_aload_n hx hb dX2_perform_84 rfl (lv_at hl 1 rfl) ?_
    refine lv_aload_n hx hb dX2_perform_85 rfl (lv_at hl 0 rfl) ?_
    refine cG C9 V t_o0.1 hf37 rfl tC_lay1 4 (by decide) tCf_X2_15 (Or.inl rfl) rfl dX2_perform_86 ?_
    obtain ⟨v38_0, v38_1, v38_2, v38_3, v38_4, v38_5, v38_6, v38_7, v38_8, v38_9, v38_10, v38_11, v38_12, hf38, t38_7, t38_8, t38_11⟩ := op7 I t_o1
    refine cGoV (cRunV (As := [.int x35]) (rest := []) C9 hml hN hNs V I hS t_o1.1 hf38 rfl (c_X8_goOnWith l D ks τ L A N hN  ψ f36 o1 x35 t_o1 ) gC_X2_31 okC_X8_goOnWith ⟨rfl, rfl, Nat.le_of_ble_eq_true rfl, Nat.le_of_ble_eq_true rfl⟩ hl.1 rfl (Nat.le_of_ble_eq_true rfl) dX2_perform_89 ⟨Nat.zero_le _, Nat.zero_le _⟩) hS (fun p40 f39 H locs hqf39 V I hS => ?_)
    obtain ⟨hqf39, ghqf39⟩ := hqf39
    replace hG := gLt_e hG (ghqf39)
    have I : cI ks τ L ψ f39 := by rw [show p40 = ψ from hqf39] at I; exact I
    refine lv_goto (tgt := 195) hx hb dX2_perform_92 (by decide) ?_
    exact cRetV C9 hr hlk hN hNs V I hS (⟨rfl, hG.symm⟩) dX2_perform_195
  rcases List.mem_cons.mp hm6 with rfl | hm6
  · replace hG := gIf_n hG (fun z9 => absurd (hThm6.symm.trans z9) (by decide))
    replace hG := gIf_n hG (fun z9 => absurd (hThm6.symm.trans z9) (by decide))
    replace hG := gIf_n hG (fun z9 => absurd (hThm6.symm.trans z9) (by decide))
    replace hG := gIf_n hG (fun z9 => absurd (hThm6.symm.trans z9) (by decide))
    replace hG := gIf_p hG hThm6
    refine lv_aload_n hx hb dX2_perform_95 rfl (lv_at hl 0 rfl) ?_
    obtain ⟨v42_0, v42_1, v42_2, v42_3, v42_4, hf42, t42_2⟩ := op1 I t_o0
    refine cG C9 V t_o0.1 hf42 rfl tC_lay1 4 (by decide) tCf_X2_15 (Or.inl rfl) rfl dX2_perform_96 ?_
    replace hG := gLt_e hG (view_gI hf42 rfl)
    refine lv_aload_n hx hb dX2_perform_99 rfl (lv_at hl 1 rfl) ?_
    refine lv_iconst (v := 1) hx hb dX2_perform_100 (by decide) ?_
    obtain ⟨v43_0, v43_1, v43_2, v43_3, v43_4, v43_5, v43_6, v43_7, v43_8, v43_9, v43_10, v43_11, v43_12, hf43, t43_7, t43_8, t43_11⟩ := op7 I t_o1
    refine cGoI (cRunV (As := [.int 1]) (rest := [.int v42_4]) C9 hml hN hNs V I hS t_o1.1 hf43 rfl (c_X8_operand l D ks τ L A N hN  ψ f o1 1 t_o1 ) gC_X2_44 okC_X8_operand ⟨rfl, rfl, Nat.le_of_ble_eq_true rfl, Nat.le_of_ble_eq_true rfl⟩ hl.1 rfl (Nat.le_of_ble_eq_true rfl) dX2_perform_101 ⟨Nat.zero_le _, Nat.zero_le _⟩) hS (fun r46 p45 f44 H locs hqf44 V I hS => ?_)
    obtain ⟨hqf44, ghqf44⟩ := hqf44
    replace hG := gC_e hG ghqf44
    have I : cI ks τ L ψ f44 := by rw [show p45 = ψ from hqf44] at I; exact I
    refine lv_icmp_ne (tgt := 111) hx hb dX2_perform_104 (by decide) (fun c47 => ?_) (fun c47 => ?_)
    · replace hG := gIf_n hG c47
      refine lv_iconst (v := 0) hx hb dX2_perform_111 (by decide) ?_
      refine lv_topi (fun x48 ex48 => ?_)
      replace hG := gLt_e hG ex48
      refine lv_istore_n (lv' := [(3, .int x48), (0, .ref o0), (1, .ref o1), (2, .ref (κ.1 o2))]) hx hb dX2_perform_112 rfl hl (by decide) rfl (fun ls hl => ?_)
      refine lv_aload_n hx hb dX2_perform_113 rfl (lv_at hl 1 rfl) ?_
      refine lv_iload_n hx hb dX2_perform_114 rfl (lv_at hl 0 rfl) ?_
      refine lv_if_eq (tgt := 126) hx hb dX2_perform_115 (by decide) (fun c49 => ?_) (fun c49 => ?_)
      · replace hG := gIf_p hG c49
        refine lv_aload_n hx hb dX2_perform_126 rfl (lv_at hl 1 rfl) ?_
        obtain ⟨v50_0, v50_1, v50_2, v50_3, v50_4, hf50, t50_2⟩ := op1 I t_o0
        refine cG C9 V t_o0.1 hf50 rfl tC_lay1 4 (by decide) tCf_X2_15 (Or.inl rfl) rfl dX2_perform_127 ?_
        replace hG := gLt_e hG (view_gI hf50 rfl)
        refine cP (v := .int v50_4) (ty := .int) C9 V hS t_o0.1 hf50 rfl tC_lay1 tyX2 tyX2_ok nmX2 4 (by decide) tCf_X2_15 rfl rfl (by decide +kernel) rfl rfl (Nat.le_of_ble_eq_true rfl) dX2_perform_130 (fun f51 H locs ef51 V hS => ?_)
        replace hG := gLt_e hG (view_I hf50 rfl ef51)
        have hf52 : f51 o0 = .inr (1, [.int v50_0, .int v50_1, .ref v50_2, .int v50_3, .int v50_4]) := up_s ef51
        have I := cI_up I t_o0.2 ef51 (mk1 t50_2)
        refine lv_aload_n hx hb dX2_perform_133 rfl (lv_at hl 2 rfl) ?_
        refine lv_iload_n hx hb dX2_perform_134 rfl (lv_at hl 0 rfl) ?_
        refine lv_if_eq (tgt := 142) hx hb dX2_perform_135 (by decide) (fun c53 => ?_) (fun c53 => ?_)
        · replace hG := gIf_p hG c53
          refine lv_iconst (v := 0) hx hb dX2_perform_142 (by decide) ?_
          obtain ⟨v54_0, v54_1, v54_2, v54_3, v54_4, v54_5, v54_6, v54_7, v54_8, v54_9, v54_10, v54_11, v54_12, hf54, t54_7, t54_8, t54_11⟩ := op7 I t_o1
          refine cGoV (cRunV (As := [.int 0]) (rest := []) C9 hml hN hNs V I hS t_o1.1 hf54 rfl (c_X8_goOnWith l D ks τ L A N hN  ψ f51 o1 0 t_o1 ) gC_X2_31 okC_X8_goOnWith ⟨rfl, rfl, Nat.le_of_ble_eq_true rfl, Nat.le_of_ble_eq_true rfl⟩ hl.1 rfl (Nat.le_of_ble_eq_true rfl) dX2_perform_143 ⟨Nat.zero_le _, Nat.zero_le _⟩) hS (fun p56 f55 H locs hqf55 V I hS => ?_)
          obtain ⟨hqf55, ghqf55⟩ := hqf55
          replace hG := gLt_e hG (ghqf55)
          have I : cI ks τ L ψ f55 := by rw [show p56 = ψ from hqf55] at I; exact I
          refine lv_goto (tgt := 195) hx hb dX2_perform_146 (by decide) ?_
          exact cRetV C9 hr hlk hN hNs V I hS (⟨rfl, hG.symm⟩) dX2_perform_195
        · replace hG := gIf_n hG c53
          refine lv_iconst (v := 1) hx hb dX2_perform_138 (by decide) ?_
          refine lv_goto (tgt := 143) hx hb dX2_perform_139 (by decide) ?_
          obtain ⟨v58_0, v58_1, v58_2, v58_3, v58_4, v58_5, v58_6, v58_7, v58_8, v58_9, v58_10, v58_11, v58_12, hf58, t58_7, t58_8, t58_11⟩ := op7 I t_o1
          refine cGoV (cRunV (As := [.int 1]) (rest := []) C9 hml hN hNs V I hS t_o1.1 hf58 rfl (c_X8_goOnWith l D ks τ L A N hN  ψ f51 o1 1 t_o1 ) gC_X2_31 okC_X8_goOnWith ⟨rfl, rfl, Nat.le_of_ble_eq_true rfl, Nat.le_of_ble_eq_true rfl⟩ hl.1 rfl (Nat.le_of_ble_eq_true rfl) dX2_perform_143 ⟨Nat.zero_le _, Nat.zero_le _⟩) hS (fun p60 f59 H locs hqf59 V I hS => ?_)
          obtain ⟨hqf59, ghqf59⟩ := hqf59
          replace hG := gLt_e hG (ghqf59)
          have I : cI ks τ L ψ f59 := by rw [show p60 = ψ from hqf59] at I; exact I
          refine lv_goto (tgt := 195) hx hb dX2_perform_146 (by decide) ?_
          exact cRetV C9 hr hlk hN hNs V I hS (⟨rfl, hG.symm⟩) dX2_perform_195
      · replace hG := gIf_n hG c49
        refine lv_aload_n hx hb dX2_perform_118 rfl (lv_at hl 2 rfl) ?_
        refine lv_iconst (v := 2) hx hb dX2_perform_119 (by decide) ?_
        obtain ⟨v62_0, v62_1, v62_2, v62_3, v62_4, v62_5, v62_6, v62_7, v62_8, v62_9, v62_10, v62_11, v62_12, hf62, t62_7, t62_8, t62_11⟩ := op7 I t_o1
        refine cGoI (cRunV (As := [.int 2]) (rest := [.ref o0]) C9 hml hN hNs V I hS t_o1.1 hf62 rfl (c_X8_operand l D ks τ L A N hN  ψ f44 o1 2 t_o1 ) gC_X2_44 okC_X8_operand ⟨rfl, rfl, Nat.le_of_ble_eq_true rfl, Nat.le_of_ble_eq_true rfl⟩ hl.1 rfl (Nat.le_of_ble_eq_true rfl) dX2_perform_120 ⟨Nat.zero_le _, Nat.zero_le _⟩) hS (fun r65 p64 f63 H locs hqf63 V I hS => ?_)
        obtain ⟨hqf63, ghqf63⟩ := hqf63
        replace hG := gC_e hG ghqf63
        have I : cI ks τ L ψ f63 := by rw [show p64 = ψ from hqf63] at I; exact I
        refine lv_goto (tgt := 130) hx hb dX2_perform_123 (by decide) ?_
        obtain ⟨v66_0, v66_1, v66_2, v66_3, v66_4, hf66, t66_2⟩ := op1 I t_o0
        refine cP (v := .int r65) (ty := .int) C9 V hS t_o0.1 hf66 rfl tC_lay1 tyX2 tyX2_ok nmX2 4 (by decide) tCf_X2_15 rfl rfl (by decide +kernel) rfl rfl (Nat.le_of_ble_eq_true rfl) dX2_perform_130 (fun f67 H locs ef67 V hS => ?_)
        replace hG := gLt_e hG (view_I hf66 rfl ef67)
        have hf68 : f67 o0 = .inr (1, [.int v66_0, .int v66_1, .ref v66_2, .int v66_3, .int r65]) := up_s ef67
        have I := cI_up I t_o0.2 ef67 (mk1 t66_2)
        refine lv_aload_n hx hb dX2_perform_133 rfl (lv_at hl 2 rfl) ?_
        refine lv_iload_n hx hb dX2_perform_134 rfl (lv_at hl 0 rfl) ?_
        refine lv_if_eq (tgt := 142) hx hb dX2_perform_135 (by decide) (fun c69 => ?_) (fun c69 => ?_)
        · replace hG := gIf_p hG c69
          refine lv_iconst (v := 0) hx hb dX2_perform_142 (by decide) ?_
          obtain ⟨v70_0, v70_1, v70_2, v70_3, v70_4, v70_5, v70_6, v70_7, v70_8, v70_9, v70_10, v70_11, v70_12, hf70, t70_7, t70_8, t70_11⟩ := op7 I t_o1
          refine cGoV (cRunV (As := [.int 0]) (rest := []) C9 hml hN hNs V I hS t_o1.1 hf70 rfl (c_X8_goOnWith l D ks τ L A N hN  ψ f67 o1 0 t_o1 ) gC_X2_31 okC_X8_goOnWith ⟨rfl, rfl, Nat.le_of_ble_eq_true rfl, Nat.le_of_ble_eq_true rfl⟩ hl.1 rfl (Nat.le_of_ble_eq_true rfl) dX2_perform_143 ⟨Nat.zero_le _, Nat.zero_le _⟩) hS (fun p72 f71 H locs hqf71 V I hS => ?_)
          obtain ⟨hqf71, ghqf71⟩ := hqf71
          replace hG := gLt_e hG (ghqf71)
          have I : cI ks τ L ψ f71 := by rw [show p72 = ψ from hqf71] at I; exact I
          refine lv_goto (tgt := 195) hx hb dX2_perform_146 (by decide) ?_
          exact cRetV C9 hr hlk hN hNs V I hS (⟨rfl, hG.symm⟩) dX2_perform_195
        · replace hG := gIf_n hG c69
          refine lv_iconst (v := 1) hx hb dX2_perform_138 (by decide) ?_
          refine lv_goto (tgt := 143) hx hb dX2_perform_139 (by decide) ?_
          obtain ⟨v74_0, v74_1, v74_2, v74_3, v74_4, v74_5, v74_6, v74_7, v74_8, v74_9, v74_10, v74_11, v74_12, hf74, t74_7, t74_8, t74_11⟩ := op7 I t_o1
          refine cGoV (cRunV (As := [.int 1]) (rest := []) C9 hml hN hNs V I hS t_o1.1 hf74 rfl (c_X8_goOnWith l D ks τ L A N hN  ψ f67 o1 1 t_o1 ) gC_X2_31 okC_X8_goOnWith ⟨rfl, rfl, Nat.le_of_ble_eq_true rfl, Nat.le_of_ble_eq_true rfl⟩ hl.1 rfl (Nat.le_of_ble_eq_true rfl) dX2_perform_143 ⟨Nat.zero_le _, Nat.zero_le _⟩) hS (fun p76 f75 H locs hqf75 V I hS => ?_)
          obtain ⟨hqf75, ghqf75⟩ := hqf75
          replace hG := gLt_e hG (ghqf75)
          have I : cI ks τ L ψ f75 := by rw [show p76 = ψ from hqf75] at I; exact I
          refine lv_goto (tgt := 195) hx hb dX2_perform_146 (by decide) ?_
          exact cRetV C9 hr hlk hN hNs V I hS (⟨rfl, hG.symm⟩) dX2_perform_195
    · replace hG := gIf_p hG c47
      refine lv_iconst (v := 1) hx hb dX2_perform_107 (by decide) ?_
      refine lv_goto (tgt := 112) hx hb dX2_perform_108 (by decide) ?_
      refine lv_topi (fun x78 ex78 => ?_)
      replace hG := gLt_e hG ex78
      refine lv_istore_n (lv' := [(3, .int x78), (0, .ref o0), (1, .ref o1), (2, .ref (κ.1 o2))]) hx hb dX2_perform_112 rfl hl (by decide) rfl (fun ls hl => ?_)
      refine lv_aload_n hx hb dX2_perform_113 rfl (lv_at hl 1 rfl) ?_
      refine lv_iload_n hx hb dX2_perform_114 rfl (lv_at hl 0 rfl) ?_
      refine lv_if_eq (tgt := 126) hx hb dX2_perform_115 (by decide) (fun c79 => ?_) (fun c79 => ?_)
      · replace hG := gIf_p hG c79
        refine lv_aload_n hx hb dX2_perform_126 rfl (lv_at hl 1 rfl) ?_
        obtain ⟨v80_0, v80_1, v80_2, v80_3, v80_4, hf80, t80_2⟩ := op1 I t_o0
        refine cG C9 V t_o0.1 hf80 rfl tC_lay1 4 (by decide) tCf_X2_15 (Or.inl rfl) rfl dX2_perform_127 ?_
        replace hG := gLt_e hG (view_gI hf80 rfl)
        refine cP (v := .int v80_4) (ty := .int) C9 V hS t_o0.1 hf80 rfl tC_lay1 tyX2 tyX2_ok nmX2 4 (by decide) tCf_X2_15 rfl rfl (by decide +kernel) rfl rfl (Nat.le_of_ble_eq_true rfl) dX2_perform_130 (fun f81 H locs ef81 V hS => ?_)
        replace hG := gLt_e hG (view_I hf80 rfl ef81)
        have hf82 : f81 o0 = .inr (1, [.int v80_0, .int v80_1, .ref v80_2, .int v80_3, .int v80_4]) := up_s ef81
        have I := cI_up I t_o0.2 ef81 (mk1 t80_2)
        refine lv_aload_n hx hb dX2_perform_133 rfl (lv_at hl 2 rfl) ?_
        refine lv_iload_n hx hb dX2_perform_134 rfl (lv_at hl 0 rfl) ?_
        refine lv_if_eq (tgt := 142) hx hb dX2_perform_135 (by decide) (fun c83 => ?_) (fun c83 => ?_)
        · replace hG := gIf_p hG c83
          refine lv_iconst (v := 0) hx hb dX2_perform_142 (by decide) ?_
          obtain ⟨v84_0, v84_1, v84_2, v84_3, v84_4, v84_5, v84_6, v84_7, v84_8, v84_9, v84_10, v84_11, v84_12, hf84, t84_7, t84_8, t84_11⟩ := op7 I t_o1
          refine cGoV (cRunV (As := [.int 0]) (rest := []) C9 hml hN hNs V I hS t_o1.1 hf84 rfl (c_X8_goOnWith l D ks τ L A N hN  ψ f81 o1 0 t_o1 ) gC_X2_31 okC_X8_goOnWith ⟨rfl, rfl, Nat.le_of_ble_eq_true rfl, Nat.le_of_ble_eq_true rfl⟩ hl.1 rfl (Nat.le_of_ble_eq_true rfl) dX2_perform_143 ⟨Nat.zero_le _, Nat.zero_le _⟩) hS (fun p86 f85 H locs hqf85 V I hS => ?_)
          obtain ⟨hqf85, ghqf85⟩ := hqf85
          replace hG := gLt_e hG (ghqf85)
          have I : cI ks τ L ψ f85 := by rw [show p86 = ψ from hqf85] at I; exact I
          refine lv_goto (tgt := 195) hx hb dX2_perform_146 (by decide) ?_
          exact cRetV C9 hr hlk hN hNs V I hS (⟨rfl, hG.symm⟩) dX2_perform_195
        · replace hG := gIf_n hG c83
          refine lv_iconst (v := 1) hx hb dX2_perform_138 (by decide) ?_
          refine lv_goto (tgt := 143) hx hb dX2_perform_139 (by decide) ?_
          obtain ⟨v88_0, v88_1, v88_2, v88_3, v88_4, v88_5, v88_6, v88_7, v88_8, v88_9, v88_10, v88_11, v88_12, hf88, t88_7, t88_8, t88_11⟩ := op7 I t_o1
          refine cGoV (cRunV (As := [.int 1]) (rest := []) C9 hml hN hNs V I hS t_o1.1 hf88 rfl (c_X8_goOnWith l D ks τ L A N hN  ψ f81 o1 1 t_o1 ) gC_X2_31 okC_X8_goOnWith ⟨rfl, rfl, Nat.le_of_ble_eq_true rfl, Nat.le_of_ble_eq_true rfl⟩ hl.1 rfl (Nat.le_of_ble_eq_true rfl) dX2_perform_143 ⟨Nat.zero_le _, Nat.zero_le _⟩) hS (fun p90 f89 H locs hqf89 V I hS => ?_)
          obtain ⟨hqf89, ghqf89⟩ := hqf89
          replace hG := gLt_e hG (ghqf89)
          have I : cI ks τ L ψ f89 := by rw [show p90 = ψ from hqf89] at I; exact I
          refine lv_goto (tgt := 195) hx hb dX2_perform_146 (by decide) ?_
          exact cRetV C9 hr hlk hN hNs V I hS (⟨rfl, hG.symm⟩) dX2_perform_195
      · replace hG := gIf_n hG c79
        refine lv_aload_n hx hb dX2_perform_118 rfl (lv_at hl 2 rfl) ?_
        refine lv_iconst (v := 2) hx hb dX2_perform_119 (by decide) ?_
        obtain ⟨v92_0, v92_1, v92_2, v92_3, v92_4, v92_5, v92_6, v92_7, v92_8, v92_9, v92_10, v92_11, v92_12, hf92, t92_7, t92_8, t92_11⟩ := op7 I t_o1
        refine cGoI (cRunV (As := [.int 2]) (rest := [.ref o0]) C9 hml hN hNs V I hS t_o1.1 hf92 rfl (c_X8_operand l D ks τ L A N hN  ψ f44 o1 2 t_o1 ) gC_X2_44 okC_X8_operand ⟨rfl, rfl, Nat.le_of_ble_eq_true rfl, Nat.le_of_ble_eq_true rfl⟩ hl.1 rfl (Nat.le_of_ble_eq_true rfl) dX2_perform_120 ⟨Nat.zero_le _, Nat.zero_le _⟩) hS (fun r95 p94 f93 H locs hqf93 V I hS => ?_)
        obtain ⟨hqf93, ghqf93⟩ := hqf93
        replace hG := gC_e hG ghqf93
        have I : cI ks τ L ψ f93 := by rw [show p94 = ψ from hqf93] at I; exact I
        refine lv_goto (tgt := 130) hx hb dX2_perform_123 (by decide) ?_
        obtain ⟨v96_0, v96_1, v96_2, v96_3, v96_4, hf96, t96_2⟩ := op1 I t_o0
        refine cP (v := .int r95) (ty := .int) C9 V hS t_o0.1 hf96 rfl tC_lay1 tyX2 tyX2_ok nmX2 4 (by decide) tCf_X2_15 rfl rfl (by decide +kernel) rfl rfl (Nat.le_of_ble_eq_true rfl) dX2_perform_130 (fun f97 H locs ef97 V hS => ?_)
        replace hG := gLt_e hG (view_I hf96 rfl ef97)
        have hf98 : f97 o0 = .inr (1, [.int v96_0, .int v96_1, .ref v96_2, .int v96_3, .int r95]) := up_s ef97
        have I := cI_up I t_o0.2 ef97 (mk1 t96_2)
        refine lv_aload_n hx hb dX2_perform_133 rfl (lv_at hl 2 rfl) ?_
        refine lv_iload_n hx hb dX2_perform_134 rfl (lv_at hl 0 rfl) ?_
        refine lv_if_eq (tgt := 142) hx hb dX2_perform_135 (by decide) (fun c99 => ?_) (fun c99 => ?_)
        · replace hG := gIf_p hG c99
          refine lv_iconst (v := 0) hx hb dX2_perform_142 (by decide) ?_
          obtain ⟨v100_0, v100_1, v100_2, v100_3, v100_4, v100_5, v100_6, v100_7, v100_8, v100_9, v100_10, v100_11, v100_12, hf100, t100_7, t100_8, t100_11⟩ := op7 I t_o1
          refine cGoV (cRunV (As := [.int 0]) (rest := []) C9 hml hN hNs V I hS t_o1.1 hf100 rfl (c_X8_goOnWith l D ks τ L A N hN  ψ f97 o1 0 t_o1 ) gC_X2_31 okC_X8_goOnWith ⟨rfl, rfl, Nat.le_of_ble_eq_true rfl, Nat.le_of_ble_eq_true rfl⟩ hl.1 rfl (Nat.le_of_ble_eq_true rfl) dX2_perform_143 ⟨Nat.zero_le _, Nat.zero_le _⟩) hS (fun p102 f101 H locs hqf101 V I hS => ?_)
          obtain ⟨hqf101, ghqf101⟩ := hqf101
          replace hG := gLt_e hG (ghqf101)
          have I : cI ks τ L ψ f101 := by rw [show p102 = ψ from hqf101] at I; exact I
          refine lv_goto (tgt := 195) hx hb dX2_perform_146 (by decide) ?_
          exact cRetV C9 hr hlk hN hNs V I hS (⟨rfl, hG.symm⟩) dX2_perform_195
        · replace hG := gIf_n hG c99
          refine lv_iconst (v := 1) hx hb dX2_perform_138 (by decide) ?_
          refine lv_goto (tgt := 143) hx hb dX2_perform_139 (by decide) ?_
          obtain ⟨v104_0, v104_1, v104_2, v104_3, v104_4, v104_5, v104_6, v104_7, v104_8, v104_9, v104_10, v104_11, v104_12, hf104, t104_7, t104_8, t104_11⟩ := op7 I t_o1
          refine cGoV (cRunV (As := [.int 1]) (rest := []) C9 hml hN hNs V I hS t_o1.1 hf104 rfl (c_X8_goOnWith l D ks τ L A N hN  ψ f97 o1 1 t_o1 ) gC_X2_31 okC_X8_goOnWith ⟨rfl, rfl, Nat.le_of_ble_eq_true rfl, Nat.le_of_ble_eq_true rfl⟩ hl.1 rfl (Nat.le_of_ble_eq_true rfl) dX2_perform_143 ⟨Nat.zero_le _, Nat.zero_le _⟩) hS (fun p106 f105 H locs hqf105 V I hS => ?_)
          obtain ⟨hqf105, ghqf105⟩ := hqf105
          replace hG := gLt_e hG (ghqf105)
          have I : cI ks τ L ψ f105 := by rw [show p106 = ψ from hqf105] at I; exact I
          refine lv_goto (tgt := 195) hx hb dX2_perform_146 (by decide) ?_
          exact cRetV C9 hr hlk hN hNs V I hS (⟨rfl, hG.symm⟩) dX2_perform_195
  rcases List.mem_cons.mp hm6 with rfl | hm6
  · replace hG := gIf_n hG (fun z9 => absurd (hThm6.symm.trans z9) (by decide))
    replace hG := gIf_n hG (fun z9 => absurd (hThm6.symm.trans z9) (by decide))
    replace hG := gIf_n hG (fun z9 => absurd (hThm6.symm.trans z9) (by decide))
    replace hG := gIf_n hG (fun z9 => absurd (hThm6.symm.trans z9) (by decide))
    replace hG := gIf_n hG (fun z9 => absurd (hThm6.symm.trans z9) (by decide))
    refine lv_aload_n hx hb dX2_perform_149 rfl (lv_at hl 1 rfl) ?_
    refine lv_aload_n hx hb dX2_perform_150 rfl (lv_at hl 0 rfl) ?_
    refine lv_aload_n hx hb dX2_perform_151 rfl (lv_at hl 1 rfl) ?_
    obtain ⟨v108_0, v108_1, v108_2, v108_3, v108_4, v108_5, v108_6, v108_7, v108_8, v108_9, v108_10, v108_11, v108_12, hf108, t108_7, t108_8, t108_11⟩ := op7 I t_o1
    refine cG C9 V t_o1.1 hf108 rfl tC_lay7 2 (by decide) tCf_X2_37 (Or.inl rfl) rfl dX2_perform_152 ?_
    replace hG := gLt_e hG (view_gI hf108 rfl)
    obtain ⟨v109_0, v109_1, v109_2, v109_3, v109_4, hf109, t109_2⟩ := op1 I t_o0
    refine cGoI (cRunV (As := [.int v108_2]) (rest := [.ref o1]) C9 hml hN hNs V I hS t_o0.1 hf109 rfl (c_X2_isGiven l D ks τ L A N hN  ψ f o0 v108_2 t_o0 ) gC_X2_48 okC_X2_isGiven ⟨rfl, rfl, Nat.le_of_ble_eq_true rfl, Nat.le_of_ble_eq_true rfl⟩ hl.1 rfl (Nat.le_of_ble_eq_true rfl) dX2_perform_155 ⟨Nat.zero_le _, Nat.zero_le _⟩) hS (fun r112 p111 f110 H locs hqf110 V I hS => ?_)
    obtain ⟨hqf110, ghqf110⟩ := hqf110
    replace hG := gC_e hG ghqf110
    have I : cI ks τ L ψ f110 := by rw [show p111 = ψ from hqf110] at I; exact I
    refine lv_if_eq (tgt := 165) hx hb dX2_perform_158 (by decide) (fun c113 => ?_) (fun c113 => ?_)
    · replace hG := gIf_p hG c113
      refine lv_iconst (v := 0) hx hb dX2_perform_165 (by decide) ?_
      obtain ⟨v114_0, v114_1, v114_2, v114_3, v114_4, v114_5, v114_6, v114_7, v114_8, v114_9, v114_10, v114_11, v114_12, hf114, t114_7, t114_8, t114_11⟩ := op7 I t_o1
      refine cGoV (cRunV (As := [.int 0]) (rest := []) C9 hml hN hNs V I hS t_o1.1 hf114 rfl (c_X8_goOnWith l D ks τ L A N hN  ψ f110 o1 0 t_o1 ) gC_X2_31 okC_X8_goOnWith ⟨rfl, rfl, Nat.le_of_ble_eq_true rfl, Nat.le_of_ble_eq_true rfl⟩ hl.1 rfl (Nat.le_of_ble_eq_true rfl) dX2_perform_166 ⟨Nat.zero_le _, Nat.zero_le _⟩) hS (fun p116 f115 H locs hqf115 V I hS => ?_)
      obtain ⟨hqf115, ghqf115⟩ := hqf115
      replace hG := gLt_e hG (ghqf115)
      have I : cI ks τ L ψ f115 := by rw [show p116 = ψ from hqf115] at I; exact I
      refine lv_goto (tgt := 195) hx hb dX2_perform_169 (by decide) ?_
      exact cRetV C9 hr hlk hN hNs V I hS (⟨rfl, hG.symm⟩) dX2_perform_195
    · replace hG := gIf_n hG c113
      refine lv_iconst (v := 1) hx hb dX2_perform_161 (by decide) ?_
      refine lv_goto (tgt := 166) hx hb dX2_perform_162 (by decide) ?_
      obtain ⟨v118_0, v118_1, v118_2, v118_3, v118_4, v118_5, v118_6, v118_7, v118_8, v118_9, v118_10, v118_11, v118_12, hf118, t118_7, t118_8, t118_11⟩ := op7 I t_o1
      refine cGoV (cRunV (As := [.int 1]) (rest := []) C9 hml hN hNs V I hS t_o1.1 hf118 rfl (c_X8_goOnWith l D ks τ L A N hN  ψ f110 o1 1 t_o1 ) gC_X2_31 okC_X8_goOnWith ⟨rfl, rfl, Nat.le_of_ble_eq_true rfl, Nat.le_of_ble_eq_true rfl⟩ hl.1 rfl (Nat.le_of_ble_eq_true rfl) dX2_perform_166 ⟨Nat.zero_le _, Nat.zero_le _⟩) hS (fun p120 f119 H locs hqf119 V I hS => ?_)
      obtain ⟨hqf119, ghqf119⟩ := hqf119
      replace hG := gLt_e hG (ghqf119)
      have I : cI ks τ L ψ f119 := by rw [show p120 = ψ from hqf119] at I; exact I
      refine lv_goto (tgt := 195) hx hb dX2_perform_169 (by decide) ?_
      exact cRetV C9 hr hlk hN hNs V I hS (⟨rfl, hG.symm⟩) dX2_perform_195
  exact absurd hm6 List.not_mem_nil
def FC_X3_perform (X : xS) (o0 : Nat) (o1 : Nat) (o2 : Nat) : xS := gLt (FC_Jx29ce0_ordinal_8abf5 X o2 : Int32) (fun r4 => gLt (swM.getD (Int32.toNatClampNeg r4) 0 : Int32) (fun x5 => if lookT 8 (85) [(10, 28), (11, 63)] x5 = 93 then (gLt (xI X o0 3 : Int32) (fun v7_3 => gLt ((xR X o0 2).getD 0 : Nat) (fun v7_2 => gLt (xI X v7_2 0 : Int32) (fun v8_0 => gLt (((v7_3 - v8_0) - 1) : Int32) (fun x10 => gLt (xwI X o1 2 x10 : xS) (fun Xf11 => if (x10 : Int32) = 0 then (gLt (FC_X9_allGoOn Xf11 o0 : xS) (fun Xf19 => gLt (FC_X8_goOn Xf19 o1 : xS) (fun Xf23 => Xf23))) else (gLt (FC_X9_holdUp Xf11 o0 o1 : xS) (fun Xf16 => Xf16)))))))) else (if lookT 8 (85) [(10, 28), (11, 63)] x5 = 36 then (gLt (FC_X8_goOn X o1 : xS) (fun Xf27 => gLt (xI Xf27 o0 3 : Int32) (fun v30_3 => if (v30_3 : Int32) ≤ 0 then (if (v30_3 : Int32) = 0 then (gLt (FC_X9_allGoOn Xf27 o0 : xS) (fun Xf33 => Xf33)) else (Xf27)) else (gLt ((v30_3 - 1) : Int32) (fun x36 => gLt (xwI Xf27 o0 3 x36 : xS) (fun Xf37 => if (x36 : Int32) = 0 then (gLt (FC_X9_allGoOn Xf37 o0 : xS) (fun Xf40 => Xf40)) else (Xf37))))))) else (gLt (xI X o0 3 : Int32) (fun v43_3 => if (v43_3 : Int32) = 0 then (gLt (FC_X8_goOn X o1 : xS) (fun Xf49 => Xf49)) else (gLt (FC_X9_holdUp X o0 o1 : xS) (fun Xf45 => Xf45)))))))
set_option maxHeartbeats 200000 in
set_option maxRecDepth 100000 in
theorem c_X3_perform (l : Launch) (D : va_G) (ks : kS) (τ : Nat → Nat) (L : List Nat) (A : Nat → Prop) (N : State → Prop) (hN : cNk A N) (κ : kC) (hN0 : ∀ U, N U → N0 κ A U) (ψ : Int32) (f : Nat → va_E) (o0 : Nat) (o1 : Nat) (o2 : Nat) (t_o0 : ty τ L o0 2) (t_o1 : ty τ L o1 7) (t_o2 : o2 < 34) : Met l yX3_perform (Cond.code yX3_perform cX3_perform 3 none :: tC) ({ frames := 4, cells := 0, slots := 0, locals := 84 }) (va_Pc [.ref o0, .ref o1, .ref (κ.1 o2)] (cB D ks τ L A N (ψ, f))) (va_Qv (fun x9 => (x9.1 = ψ) ∧ view x9.2 = FC_X3_perform (view f) o0 o1 o2) (cB D ks τ L A N) A) 0 0 A := by
  refine cMet (own := RX3) (by decide) rfl (Nat.le_of_ble_eq_true rfl) ?_
  intro p e s m below meth c ls C9 hml hr hlk V I hNs hl
  have hx := C9.1
  have hb := C9.2.1
  have hown := C9.2.2.1
  have hts := C9.2.2.2.1
  have h0 := hN0 s hNs
  have hS : va_S A s.heap s.heap [] := va_S.rf
  have hG := FC_X3_perform.eq_1 (view f) o0 o1 o2
  have hl : lv_has ls 3 [(0, .ref o0), (1, .ref o1), (2, .ref (κ.1 o2))] := hl
  refine cZs C9 h0 hS tCf_X3_15 dX3_perform_0 (fun y1 hy1 => ?_)
  refine lv_aload_n hx hb dX3_perform_3 rfl (lv_at hl 2 rfl) ?_
  refine cGoI (cRunU (As := []) (rest := [.ref y1]) C9 hml hN hNs V I hS (isW_r h0 hS t_o2) (c_Jx29ce0_ordinal_8abf5 l D ks τ L A N hN κ hN0 ψ f o2 t_o2 ) (va_cwU 0 hts gU_X3_21_X11 rfl rfl rfl rfl okU_X3_21 ⟨Nat.le_of_ble_eq_true rfl, Nat.le_of_ble_eq_true rfl⟩) hl.1 rfl (Nat.le_of_ble_eq_true rfl) dX3_perform_4 ⟨Nat.zero_le _, Nat.zero_le _⟩) hS (fun r4 p3 f2 H locs hqf2 V I hS => ?_)
  obtain ⟨hqf2, ghqf2⟩ := hqf2
  replace hG := gLt_e hG ghqf2
  have V : cV D L f A H := by rw [show f2 = f from congrArg Prod.snd hqf2.1] at V; exact V
  have I : cI ks τ L ψ f := by rw [show f2 = f from congrArg Prod.snd hqf2.1, show p3 = ψ from congrArg Prod.fst hqf2.1] at I; exact I
  refine cLs C9 hy1 hS (cvin (N := 34) rfl (hqf2.2.1) (hqf2.2.2)) dX3_perform_7 (fun x5 ex5 => ?_)
  replace hG := gLt_e hG (ex5)
  refine cLookG hx hb [93, 36, 71] dX3_perform_8 rfl (by decide) ?_
  intro t9 hm6 hThm6
  rcases List.mem_cons.mp hm6 with rfl | hm6
  · replace hG := gIf_p hG hThm6
    refine lv_aload_n hx hb dX3_perform_93 rfl (lv_at hl 1 rfl) ?_
    refine lv_aload_n hx hb dX3_perform_94 rfl (lv_at hl 0 rfl) ?_
    obtain ⟨v7_0, v7_1, v7_2, v7_3, hf7, t7_2⟩ := op2 I t_o0
    refine cG C9 V t_o0.1 hf7 rfl tC_lay2 3 (by decide) tCf_X3_9 (Or.inl rfl) rfl dX3_perform_95 ?_
    replace hG := gLt_e hG (view_gI hf7 rfl)
    refine lv_aload_n hx hb dX3_perform_98 rfl (lv_at hl 0 rfl) ?_
    refine cG C9 V t_o0.1 hf7 rfl tC_lay2 2 (by decide) tCf_X3_40 (Or.inr tCs_X3_row) rfl dX3_perform_99 ?_
    replace hG := gLt_e hG (view_gR hf7 rfl)
    obtain ⟨v8_0, v8_1, hf8, hn8, t8_1⟩ := op5 I t7_2
    refine cG C9 V t7_2.1 hf8 rfl tC_lay5 0 (by decide) tCf_X3_44 (Or.inl rfl) rfl dX3_perform_102 ?_
    replace hG := gLt_e hG (view_gI hf8 rfl)
    refine lv_isub hx hb dX3_perform_105 ?_
    refine lv_iconst (v := 1) hx hb dX3_perform_106 (by decide) ?_
    refine lv_isub hx hb dX3_perform_107 ?_
    obtain ⟨v9_0, v9_1, v9_2, v9_3, v9_4, v9_5, v9_6, v9_7, v9_8, v9_9, v9_10, v9_11, v9_12, hf9, t9_7, t9_8, t9_11⟩ := op7 I t_o1
    refine lv_topi (fun x10 ex10 => ?_)
    replace hG := gLt_e hG ex10
    refine cP (v := .int x10) (ty := .int) C9 V hS t_o1.1 hf9 rfl tC_lay7 tyX8 tyX8_ok nmX8 2 (by decide) tCf_X3_49 rfl rfl (by decide +kernel) rfl rfl (Nat.le_of_ble_eq_true rfl) dX3_perform_108 (fun f11 H locs ef11 V hS => ?_)
    replace hG := gLt_e hG (view_I hf9 rfl ef11)
    have hf12 : f11 o1 = .inr (7, [.int v9_0, .int v9_1, .int x10, .int v9_3, .int v9_4, .int v9_5, .long v9_6, va_rf v9_7, va_rf v9_8, .int v9_9, .int v9_10, .ref v9_11, .int v9_12]) := up_s ef11
    have I := cI_up I t_o1.2 ef11 (mk7 t9_7 t9_8 t9_11)
    have hf13 := up_n ef11 t_o1.2 t_o0.2 (by first | decide | omega) hf7
    have hf14 := up_n ef11 t_o1.2 t7_2.2 (by first | decide | omega) hf8
    refine lv_aload_n hx hb dX3_perform_111 rfl (lv_at hl 1 rfl) ?_
    refine cG C9 V t_o1.1 hf12 rfl tC_lay7 2 (by decide) tCf_X3_49 (Or.inl rfl) rfl dX3_perform_112 ?_
    refine lv_if_ne (tgt := 129) hx hb dX3_perform_115 (by decide) (fun c15 => ?_) (fun c15 => ?_)
    · replace hG := gIf_n hG c15
      refine lv_aload_n hx hb dX3_perform_129 rfl (lv_at hl 0 rfl) ?_
      refine lv_aload_n hx hb dX3_perform_130 rfl (lv_at hl 1 rfl) ?_
      refine cGoV (cRunU (As := [.ref o1]) (rest := []) C9 hml hN hNs V I hS (cRc C9 V t_o0.1 hf13 rfl) (c_X9_holdUp l D ks τ L A N hN  ψ f11 o0 o1 (tyS_of t_o0 (by decide)) t_o1 ) (va_cwU 1 hts gU_X3_36_X3 rfl rfl rfl rfl okU_X3_36 ⟨Nat.le_of_ble_eq_true rfl, Nat.le_of_ble_eq_true rfl⟩) hl.1 rfl (Nat.le_of_ble_eq_true rfl) dX3_perform_131 ⟨Nat.zero_le _, Nat.zero_le _⟩) hS (fun p17 f16 H locs hqf16 V I hS => ?_)
      obtain ⟨hqf16, ghqf16⟩ := hqf16
      replace hG := gLt_e hG (ghqf16)
      have I : cI ks τ L ψ f16 := by rw [show p17 = ψ from hqf16] at I; exact I
      exact cRetV C9 hr hlk hN hNs V I hS (⟨rfl, hG.symm⟩) dX3_perform_134
    · replace hG := gIf_p hG c15
      refine lv_aload_n hx hb dX3_perform_118 rfl (lv_at hl 0 rfl) ?_
      refine cGoV (cRunU (As := []) (rest := []) C9 hml hN hNs V I hS (cRc C9 V t_o0.1 hf13 rfl) (c_X9_allGoOn l D ks τ L A N hN  ψ f11 o0 (tyS_of t_o0 (by decide)) ) (va_cwU 0 hts gU_X3_33_X3 rfl rfl rfl rfl okU_X3_33 ⟨Nat.le_of_ble_eq_true rfl, Nat.le_of_ble_eq_true rfl⟩) hl.1 rfl (Nat.le_of_ble_eq_true rfl) dX3_perform_119 ⟨Nat.zero_le _, Nat.zero_le _⟩) hS (fun p20 f19 H locs hqf19 V I hS => ?_)
      obtain ⟨hqf19, ghqf19⟩ := hqf19
      replace hG := gLt_e hG (ghqf19)
      have I : cI ks τ L ψ f19 := by rw [show p20 = ψ from hqf19] at I; exact I
      refine lv_aload_n hx hb dX3_perform_122 rfl (lv_at hl 1 rfl) ?_
      obtain ⟨v22_0, v22_1, v22_2, v22_3, v22_4, v22_5, v22_6, v22_7, v22_8, v22_9, v22_10, v22_11, v22_12, hf22, t22_7, t22_8, t22_11⟩ := op7 I t_o1
      refine cGoV (cRunV (As := []) (rest := []) C9 hml hN hNs V I hS t_o1.1 hf22 rfl (c_X8_goOn l D ks τ L A N hN  ψ f19 o1 t_o1 ) gC_X3_27 okC_X8_goOn ⟨rfl, rfl, Nat.le_of_ble_eq_true rfl, Nat.le_of_ble_eq_true rfl⟩ hl.1 rfl (Nat.le_of_ble_eq_true rfl) dX3_perform_123 ⟨Nat.zero_le _, Nat.zero_le _⟩) hS (fun p24 f23 H locs hqf23 V I hS => ?_)
      obtain ⟨hqf23, ghqf23⟩ := hqf23
      replace hG := gLt_e hG (ghqf23)
      have I : cI ks τ L ψ f23 := by rw [show p24 = ψ from hqf23] at I; exact I
      refine lv_goto (tgt := 134) hx hb dX3_perform_126 (by decide) ?_
      exact cRetV C9 hr hlk hN hNs V I hS (⟨rfl, hG.symm⟩) dX3_perform_134
  rcases List.mem_cons.mp hm6 with rfl | hm6
  · replace hG := gIf_n hG (fun z9 => absurd (hThm6.symm.trans z9) (by decide))
    replace hG := gIf_p hG hThm6
    refine lv_aload_n hx hb dX3_perform_36 rfl (lv_at hl 1 rfl) ?_
    obtain ⟨v26_0, v26_1, v26_2, v26_3, v26_4, v26_5, v26_6, v26_7, v26_8, v26_9, v26_10, v26_11, v26_12, hf26, t26_7, t26_8, t26_11⟩ := op7 I t_o1
    refine cGoV (cRunV (As := []) (rest := []) C9 hml hN hNs V I hS t_o1.1 hf26 rfl (c_X8_goOn l D ks τ L A N hN  ψ f o1 t_o1 ) gC_X3_27 okC_X8_goOn ⟨rfl, rfl, Nat.le_of_ble_eq_true rfl, Nat.le_of_ble_eq_true rfl⟩ hl.1 rfl (Nat.le_of_ble_eq_true rfl) dX3_perform_37 ⟨Nat.zero_le _, Nat.zero_le _⟩) hS (fun p28 f27 H locs hqf27 V I hS => ?_)
    obtain ⟨hqf27, ghqf27⟩ := hqf27
    replace hG := gLt_e hG (ghqf27)
    have I : cI ks τ L ψ f27 := by rw [show p28 = ψ from hqf27] at I; exact I
    refine lv_aload_n hx hb dX3_perform_40 rfl (lv_at hl 0 rfl) ?_
    obtain ⟨v30_0, v30_1, v30_2, v30_3, hf30, t30_2⟩ := op2 I t_o0
    refine cG C9 V t_o0.1 hf30 rfl tC_lay2 3 (by decide) tCf_X3_9 (Or.inl rfl) rfl dX3_perform_41 ?_
    replace hG := gLt_e hG (view_gI hf30 rfl)
    refine lv_if_le (tgt := 57) hx hb dX3_perform_44 (by decide) (fun c31 => ?_) (fun c31 => ?_)
    · replace hG := gIf_p hG c31
      refine lv_aload_n hx hb dX3_perform_57 rfl (lv_at hl 0 rfl) ?_
      refine cG C9 V t_o0.1 hf30 rfl tC_lay2 3 (by decide) tCf_X3_9 (Or.inl rfl) rfl dX3_perform_58 ?_
      refine lv_if_ne (tgt := 134) hx hb dX3_perform_61 (by decide) (fun c32 => ?_) (fun c32 => ?_)
      · replace hG := gIf_n hG c32
        exact cRetV C9 hr hlk hN hNs V I hS (⟨rfl, hG.symm⟩) dX3_perform_134
      · replace hG := gIf_p hG c32
        refine lv_aload_n hx hb dX3_perform_64 rfl (lv_at hl 0 rfl) ?_
        refine cGoV (cRunU (As := []) (rest := []) C9 hml hN hNs V I hS (cRc C9 V t_o0.1 hf30 rfl) (c_X9_allGoOn l D ks τ L A N hN  ψ f27 o0 (tyS_of t_o0 (by decide)) ) (va_cwU 0 hts gU_X3_33_X3 rfl rfl rfl rfl okU_X3_33 ⟨Nat.le_of_ble_eq_true rfl, Nat.le_of_ble_eq_true rfl⟩) hl.1 rfl (Nat.le_of_ble_eq_true rfl) dX3_perform_65 ⟨Nat.zero_le _, Nat.zero_le _⟩) hS (fun p34 f33 H locs hqf33 V I hS => ?_)
        obtain ⟨hqf33, ghqf33⟩ := hqf33
        replace hG := gLt_e hG (ghqf33)
        have I : cI ks τ L ψ f33 := by rw [show p34 = ψ from hqf33] at I; exact I
        refine lv_goto (tgt := 134) hx hb dX3_perform_68 (by decide) ?_
        exact cRetV C9 hr hlk hN hNs V I hS (⟨rfl, hG.symm⟩) dX3_perform_134
    · replace hG := gIf_n hG c31
      refine lv_aload_n hx hb dX3_perform_47 rfl (lv_at hl 0 rfl) ?_
      refine lv_dup hx hb dX3_perform_48 rfl ?_
      refine cG C9 V t_o0.1 hf30 rfl tC_lay2 3 (by decide) tCf_X3_9 (Or.inl rfl) rfl dX3_perform_49 ?_
      refine lv_iconst (v := 1) hx hb dX3_perform_52 (by decide) ?_
      refine lv_isub hx hb dX3_perform_53 ?_
      refine lv_topi (fun x36 ex36 => ?_)
      replace hG := gLt_e hG ex36
      refine cP (v := .int x36) (ty := .int) C9 V hS t_o0.1 hf30 rfl tC_lay2 tyX3 tyX3_ok nmX3 3 (by decide) tCf_X3_9 rfl rfl (by decide +kernel) rfl rfl (Nat.le_of_ble_eq_true rfl) dX3_perform_54 (fun f37 H locs ef37 V hS => ?_)
      replace hG := gLt_e hG (view_I hf30 rfl ef37)
      have hf38 : f37 o0 = .inr (2, [.int v30_0, .int v30_1, .ref v30_2, .int x36]) := up_s ef37
      have I := cI_up I t_o0.2 ef37 (mk2 t30_2)
      refine lv_aload_n hx hb dX3_perform_57 rfl (lv_at hl 0 rfl) ?_
      refine cG C9 V t_o0.1 hf38 rfl tC_lay2 3 (by decide) tCf_X3_9 (Or.inl rfl) rfl dX3_perform_58 ?_
      refine lv_if_ne (tgt := 134) hx hb dX3_perform_61 (by decide) (fun c39 => ?_) (fun c39 => ?_)
      · replace hG := gIf_n hG c39
        exact cRetV C9 hr hlk hN hNs V I hS (⟨rfl, hG.symm⟩) dX3_perform_134
      · replace hG := gIf_p hG c39
        refine lv_aload_n hx hb dX3_perform_64 rfl (lv_at hl 0 rfl) ?_
        refine cGoV (cRunU (As := []) (rest := []) C9 hml hN hNs V I hS (cRc C9 V t_o0.1 hf38 rfl) (c_X9_allGoOn l D ks τ L A N hN  ψ f37 o0 (tyS_of t_o0 (by decide)) ) (va_cwU 0 hts gU_X3_33_X3 rfl rfl rfl rfl okU_X3_33 ⟨Nat.le_of_ble_eq_true rfl, Nat.le_of_ble_eq_true rfl⟩) hl.1 rfl (Nat.le_of_ble_eq_true rfl) dX3_perform_65 ⟨Nat.zero_le _, Nat.zero_le _⟩) hS (fun p41 f40 H locs hqf40 V I hS => ?_)
        obtain ⟨hqf40, ghqf40⟩ := hqf40
        replace hG := gLt_e hG (ghqf40)
        have I : cI ks τ L ψ f40 := by rw [show p41 = ψ from hqf40] at I; exact I
        refine lv_goto (tgt := 134) hx hb dX3_perform_68 (by decide) ?_
        exact cRetV C9 hr hlk hN hNs V I hS (⟨rfl, hG.symm⟩) dX3_perform_134
  rcases List.mem_cons.mp hm6 with rfl | hm6
  · replace hG := gIf_n hG (fun z9 => absurd (hThm6.symm.trans z9) (by decide))
    replace hG := gIf_n hG (fun z9 => absurd (hThm6.symm.trans z9) (by decide))
    refine lv_aload_n hx hb dX3_perform_71 rfl (lv_at hl 0 rfl) ?_
    obtain ⟨v43_0, v43_1, v43_2, v43_3, hf43, t43_2⟩ := op2 I t_o0
    refine cG C9 V t_o0.1 hf43 rfl tC_lay2 3 (by decide) tCf_X3_9 (Or.inl rfl) rfl dX3_perform_72 ?_
    replace hG := gLt_e hG (view_gI hf43 rfl)
    refine lv_if_ne (tgt := 85) hx hb dX3_perform_75 (by decide) (fun c44 => ?_) (fun c44 => ?_)
    · replace hG := gIf_n hG c44
      refine lv_aload_n hx hb dX3_perform_85 rfl (lv_at hl 0 rfl) ?_
      refine lv_aload_n hx hb dX3_perform_86 rfl (lv_at hl 1 rfl) ?_
      refine cGoV (cRunU (As := [.ref o1]) (rest := []) C9 hml hN hNs V I hS (cRc C9 V t_o0.1 hf43 rfl) (c_X9_holdUp l D ks τ L A N hN  ψ f o0 o1 (tyS_of t_o0 (by decide)) t_o1 ) (va_cwU 1 hts gU_X3_36_X3 rfl rfl rfl rfl okU_X3_36 ⟨Nat.le_of_ble_eq_true rfl, Nat.le_of_ble_eq_true rfl⟩) hl.1 rfl (Nat.le_of_ble_eq_true rfl) dX3_perform_87 ⟨Nat.zero_le _, Nat.zero_le _⟩) hS (fun p46 f45 H locs hqf45 V I hS => ?_)
      obtain ⟨hqf45, ghqf45⟩ := hqf45
      replace hG := gLt_e hG (ghqf45)
      have I : cI ks τ L ψ f45 := by rw [show p46 = ψ from hqf45] at I; exact I
      refine lv_goto (tgt := 134) hx hb dX3_perform_90 (by decide) ?_
      exact cRetV C9 hr hlk hN hNs V I hS (⟨rfl, hG.symm⟩) dX3_perform_134
    · replace hG := gIf_p hG c44
      refine lv_aload_n hx hb dX3_perform_78 rfl (lv_at hl 1 rfl) ?_
      obtain ⟨v48_0, v48_1, v48_2, v48_3, v48_4, v48_5, v48_6, v48_7, v48_8, v48_9, v48_10, v48_11, v48_12, hf48, t48_7, t48_8, t48_11⟩ := op7 I t_o1
      refine cGoV (cRunV (As := []) (rest := []) C9 hml hN hNs V I hS t_o1.1 hf48 rfl (c_X8_goOn l D ks τ L A N hN  ψ f o1 t_o1 ) gC_X3_27 okC_X8_goOn ⟨rfl, rfl, Nat.le_of_ble_eq_true rfl, Nat.le_of_ble_eq_true rfl⟩ hl.1 rfl (Nat.le_of_ble_eq_true rfl) dX3_perform_79 ⟨Nat.zero_le _, Nat.zero_le _⟩) hS (fun p50 f49 H locs hqf49 V I hS => ?_)
      obtain ⟨hqf49, ghqf49⟩ := hqf49
      replace hG := gLt_e hG (ghqf49)
      have I : cI ks τ L ψ f49 := by rw [show p50 = ψ from hqf49] at I; exact I
      refine lv_goto (tgt := 134) hx hb dX3_perform_82 (by decide) ?_
      exact cRetV C9 hr hlk hN hNs V I hS (⟨rfl, hG.symm⟩) dX3_perform_134
  exact absurd hm6 List.not_mem_nil
def FC_X5_perform (X : xS) (o0 : Nat) (o1 : Nat) (o2 : Nat) : xS := gLt (FC_Jx29ce0_ordinal_8abf5 X o2 : Int32) (fun r4 => gLt (swM.getD (Int32.toNatClampNeg r4) 0 : Int32) (fun x5 => if tabT 8 (103) (12) (14) [28, 54, 77] x5 = 111 then (gLt (xI X o0 5 : Int32) (fun v7_5 => if (v7_5 : Int32) ≤ 0 then (gLt (FC_X8_goOnWith X o1 (-1) : xS) (fun Xf10 => Xf10)) else (gC (FC_X5_takenOut X o0) (fun r15 Xf13 => gLt (FC_X8_goOnWith Xf13 o1 r15 : xS) (fun Xf17 => Xf17))))) else (if tabT 8 (103) (12) (14) [28, 54, 77] x5 = 36 then (gLt (xI X o1 2 : Int32) (fun v20_2 => gC (FC_X5_isAccepted X o0 v20_2) (fun r24 Xf22 => if (r24 : Int32) = 0 then (gLt (FC_X9_holdUp Xf22 o0 o1 : xS) (fun Xf27 => Xf27)) else (gLt (FC_X8_goOn Xf22 o1 : xS) (fun Xf31 => Xf31))))) else (if tabT 8 (103) (12) (14) [28, 54, 77] x5 = 62 then (gLt (xI X o1 2 : Int32) (fun v34_2 => gC (FC_X5_isAccepted X o0 v34_2) (fun r38 Xf36 => if (r38 : Int32) = 0 then (gLt (FC_X8_goOnWith Xf36 o1 0 : xS) (fun Xf41 => Xf41)) else (gLt (FC_X8_goOnWith Xf36 o1 1 : xS) (fun Xf45 => Xf45))))) else (gLt (xI X o0 5 : Int32) (fun v48_5 => if (v48_5 : Int32) ≤ 0 then (gLt (FC_X9_holdUp X o0 o1 : xS) (fun Xf50 => Xf50)) else (gC (FC_X5_takenOut X o0) (fun r55 Xf53 => gLt (FC_X8_goOnWith Xf53 o1 r55 : xS) (fun Xf57 => Xf57)))))))))
set_option maxHeartbeats 200000 in
set_option maxRecDepth 100000 in
theorem c_X5_perform (l : Launch) (D : va_G) (ks : kS) (τ : Nat → Nat) (L : List Nat) (A : Nat → Prop) (N : State → Prop) (hN : cNk A N) (κ : kC) (hN0 : ∀ U, N U → N0 κ A U) (ψ : Int32) (f : Nat → va_E) (o0 : Nat) (o1 : Nat) (o2 : Nat) (t_o0 : ty τ L o0 4) (t_o1 : ty τ L o1 7) (t_o2 : o2 < 34) : Met l yX5_perform (Cond.code yX5_perform cX5_perform 3 none :: tC) ({ frames := 4, cells := 0, slots := 0, locals := 86 }) (va_Pc [.ref o0, .ref o1, .ref (κ.1 o2)] (cB D ks τ L A N (ψ, f))) (va_Qv (fun x9 => (x9.1 = ψ) ∧ view x9.2 = FC_X5_perform (view f) o0 o1 o2) (cB D ks τ L A N) A) 0 0 A := by
  refine cMet (own := RX5) (by decide) rfl (Nat.le_of_ble_eq_true rfl) ?_
  intro p e s m below meth c ls C9 hml hr hlk V I hNs hl
  have hx := C9.1
  have hb := C9.2.1
  have hown := C9.2.2.1
  have hts := C9.2.2.2.1
  have h0 := hN0 s hNs
  have hS : va_S A s.heap s.heap [] := va_S.rf
  have hG := FC_X5_perform.eq_1 (view f) o0 o1 o2
  have hl : lv_has ls 3 [(0, .ref o0), (1, .ref o1), (2, .ref (κ.1 o2))] := hl
  refine cZs C9 h0 hS tCf_X5_15 dX5_perform_0 (fun y1 hy1 => ?_)
  refine lv_aload_n hx hb dX5_perform_3 rfl (lv_at hl 2 rfl) ?_
  refine cGoI (cRunU (As := []) (rest := [.ref y1]) C9 hml hN hNs V I hS (isW_r h0 hS t_o2) (c_Jx29ce0_ordinal_8abf5 l D ks τ L A N hN κ hN0 ψ f o2 t_o2 ) (va_cwU 0 hts gU_X5_20_X11 rfl rfl rfl rfl okU_X5_20 ⟨Nat.le_of_ble_eq_true rfl, Nat.le_of_ble_eq_true rfl⟩) hl.1 rfl (Nat.le_of_ble_eq_true rfl) dX5_perform_4 ⟨Nat.zero_le _, Nat.zero_le _⟩) hS (fun r4 p3 f2 H locs hqf2 V I hS => ?_)
  obtain ⟨hqf2, ghqf2⟩ := hqf2
  replace hG := gLt_e hG ghqf2
  have V : cV D L f A H := by rw [show f2 = f from congrArg Prod.snd hqf2.1] at V; exact V
  have I : cI ks τ L ψ f := by rw [show f2 = f from congrArg Prod.snd hqf2.1, show p3 = ψ from congrArg Prod.fst hqf2.1] at I; exact I
  refine cLs C9 hy1 hS (cvin (N := 34) rfl (hqf2.2.1) (hqf2.2.2)) dX5_perform_7 (fun x5 ex5 => ?_)
  replace hG := gLt_e hG (ex5)
  refine cTabG hx hb [111, 36, 62, 85] dX5_perform_8 rfl (by decide) ?_
  intro t9 hm6 hThm6
  rcases List.mem_cons.mp hm6 with rfl | hm6
  · replace hG := gIf_p hG hThm6
    refine lv_aload_n hx hb dX5_perform_111 rfl (lv_at hl 1 rfl) ?_
    refine lv_aload_n hx hb dX5_perform_112 rfl (lv_at hl 0 rfl) ?_
    obtain ⟨v7_0, v7_1, v7_2, v7_3, v7_4, v7_5, c7, hf7, t7_2, t7_3, hc7, h07, h17⟩ := op4 I t_o0
    refine cG C9 V t_o0.1 hf7 rfl tC_lay4 5 (by decide) tCf_X5_48 (Or.inl rfl) rfl dX5_perform_113 ?_
    replace hG := gLt_e hG (view_gI hf7 rfl)
    refine lv_if_le (tgt := 126) hx hb dX5_perform_116 (by decide) (fun c8 => ?_) (fun c8 => ?_)
    · replace hG := gIf_p hG c8
      refine lv_iconst (v := (-1)) hx hb dX5_perform_126 (by decide) ?_
      obtain ⟨v9_0, v9_1, v9_2, v9_3, v9_4, v9_5, v9_6, v9_7, v9_8, v9_9, v9_10, v9_11, v9_12, hf9, t9_7, t9_8, t9_11⟩ := op7 I t_o1
      refine cGoV (cRunV (As := [.int (-1)]) (rest := []) C9 hml hN hNs V I hS t_o1.1 hf9 rfl (c_X8_goOnWith l D ks τ L A N hN  ψ f o1 (-1) t_o1 ) gC_X5_44 okC_X8_goOnWith ⟨rfl, rfl, Nat.le_of_ble_eq_true rfl, Nat.le_of_ble_eq_true rfl⟩ hl.1 rfl (Nat.le_of_ble_eq_true rfl) dX5_perform_127 ⟨Nat.zero_le _, Nat.zero_le _⟩) hS (fun p11 f10 H locs hqf10 V I hS => ?_)
      obtain ⟨hqf10, ghqf10⟩ := hqf10
      replace hG := gLt_e hG (ghqf10)
      have I : cI ks τ L ψ f10 := by rw [show p11 = ψ from hqf10] at I; exact I
      exact cRetV C9 hr hlk hN hNs V I hS (⟨rfl, hG.symm⟩) dX5_perform_130
    · replace hG := gIf_n hG c8
      refine lv_aload_n hx hb dX5_perform_119 rfl (lv_at hl 0 rfl) ?_
      refine cGoI (cRunV (As := []) (rest := [.ref o1]) C9 hml hN hNs V I hS t_o0.1 hf7 rfl (c_X5_takenOut l D ks τ L A N hN  ψ f o0 t_o0 ) gC_X5_51 okC_X5_takenOut ⟨rfl, rfl, Nat.le_of_ble_eq_true rfl, Nat.le_of_ble_eq_true rfl⟩ hl.1 rfl (Nat.le_of_ble_eq_true rfl) dX5_perform_120 ⟨Nat.zero_le _, Nat.zero_le _⟩) hS (fun r15 p14 f13 H locs hqf13 V I hS => ?_)
      obtain ⟨hqf13, ghqf13⟩ := hqf13
      replace hG := gC_e hG ghqf13
      have I : cI ks τ L ψ f13 := by rw [show p14 = ψ from hqf13] at I; exact I
      refine lv_goto (tgt := 127) hx hb dX5_perform_123 (by decide) ?_
      obtain ⟨v16_0, v16_1, v16_2, v16_3, v16_4, v16_5, v16_6, v16_7, v16_8, v16_9, v16_10, v16_11, v16_12, hf16, t16_7, t16_8, t16_11⟩ := op7 I t_o1
      refine cGoV (cRunV (As := [.int r15]) (rest := []) C9 hml hN hNs V I hS t_o1.1 hf16 rfl (c_X8_goOnWith l D ks τ L A N hN  ψ f13 o1 r15 t_o1 ) gC_X5_44 okC_X8_goOnWith ⟨rfl, rfl, Nat.le_of_ble_eq_true rfl, Nat.le_of_ble_eq_true rfl⟩ hl.1 rfl (Nat.le_of_ble_eq_true rfl) dX5_perform_127 ⟨Nat.zero_le _, Nat.zero_le _⟩) hS (fun p18 f17 H locs hqf17 V I hS => ?_)
      obtain ⟨hqf17, ghqf17⟩ := hqf17
      replace hG := gLt_e hG (ghqf17)
      have I : cI ks τ L ψ f17 := by rw [show p18 = ψ from hqf17] at I; exact I
      exact cRetV C9 hr hlk hN hNs V I hS (⟨rfl, hG.symm⟩) dX5_perform_130
  rcases List.mem_cons.mp hm6 with rfl | hm6
  · replace hG := gIf_n hG (fun z9 => absurd (hThm6.symm.trans z9) (by decide))
    replace hG := gIf_p hG hThm6
    refine lv_aload_n hx hb dX5_perform_36 rfl (lv_at hl 0 rfl) ?_
    refine lv_aload_n hx hb dX5_perform_37 rfl (lv_at hl 1 rfl) ?_
    obtain ⟨v20_0, v20_1, v20_2, v20_3, v20_4, v20_5, v20_6, v20_7, v20_8, v20_9, v20_10, v20_11, v20_12, hf20, t20_7, t20_8, t20_11⟩ := op7 I t_o1
    refine cG C9 V t_o1.1 hf20 rfl tC_lay7 2 (by decide) tCf_X5_26 (Or.inl rfl) rfl dX5_perform_38 ?_
    replace hG := gLt_e hG (view_gI hf20 rfl)
    obtain ⟨v21_0, v21_1, v21_2, v21_3, v21_4, v21_5, c21, hf21, t21_2, t21_3, hc21, h021, h121⟩ := op4 I t_o0
    refine cGoI (cRunV (As := [.int v20_2]) (rest := []) C9 hml hN hNs V I hS t_o0.1 hf21 rfl (c_X5_isAccepted l D ks τ L A N hN  ψ f o0 v20_2 t_o0 ) gC_X5_32 okC_X5_isAccepted ⟨rfl, rfl, Nat.le_of_ble_eq_true rfl, Nat.le_of_ble_eq_true rfl⟩ hl.1 rfl (Nat.le_of_ble_eq_true rfl) dX5_perform_41 ⟨Nat.zero_le _, Nat.zero_le _⟩) hS (fun r24 p23 f22 H locs hqf22 V I hS => ?_)
    obtain ⟨hqf22, ghqf22⟩ := hqf22
    replace hG := gC_e hG ghqf22
    have I : cI ks τ L ψ f22 := by rw [show p23 = ψ from hqf22] at I; exact I
    refine lv_if_eq (tgt := 54) hx hb dX5_perform_44 (by decide) (fun c25 => ?_) (fun c25 => ?_)
    · replace hG := gIf_p hG c25
      refine lv_aload_n hx hb dX5_perform_54 rfl (lv_at hl 0 rfl) ?_
      refine lv_aload_n hx hb dX5_perform_55 rfl (lv_at hl 1 rfl) ?_
      obtain ⟨v26_0, v26_1, v26_2, v26_3, v26_4, v26_5, c26, hf26, t26_2, t26_3, hc26, h026, h126⟩ := op4 I t_o0
      refine cGoV (cRunU (As := [.ref o1]) (rest := []) C9 hml hN hNs V I hS (cRc C9 V t_o0.1 hf26 rfl) (c_X9_holdUp l D ks τ L A N hN  ψ f22 o0 o1 (tyS_of t_o0 (by decide)) t_o1 ) (va_cwU 1 hts gU_X5_40_X5 rfl rfl rfl rfl okU_X5_40 ⟨Nat.le_of_ble_eq_true rfl, Nat.le_of_ble_eq_true rfl⟩) hl.1 rfl (Nat.le_of_ble_eq_true rfl) dX5_perform_56 ⟨Nat.zero_le _, Nat.zero_le _⟩) hS (fun p28 f27 H locs hqf27 V I hS => ?_)
      obtain ⟨hqf27, ghqf27⟩ := hqf27
      replace hG := gLt_e hG (ghqf27)
      have I : cI ks τ L ψ f27 := by rw [show p28 = ψ from hqf27] at I; exact I
      refine lv_goto (tgt := 130) hx hb dX5_perform_59 (by decide) ?_
      exact cRetV C9 hr hlk hN hNs V I hS (⟨rfl, hG.symm⟩) dX5_perform_130
    · replace hG := gIf_n hG c25
      refine lv_aload_n hx hb dX5_perform_47 rfl (lv_at hl 1 rfl) ?_
      obtain ⟨v30_0, v30_1, v30_2, v30_3, v30_4, v30_5, v30_6, v30_7, v30_8, v30_9, v30_10, v30_11, v30_12, hf30, t30_7, t30_8, t30_11⟩ := op7 I t_o1
      refine cGoV (cRunV (As := []) (rest := []) C9 hml hN hNs V I hS t_o1.1 hf30 rfl (c_X8_goOn l D ks τ L A N hN  ψ f22 o1 t_o1 ) gC_X5_36 okC_X8_goOn ⟨rfl, rfl, Nat.le_of_ble_eq_true rfl, Nat.le_of_ble_eq_true rfl⟩ hl.1 rfl (Nat.le_of_ble_eq_true rfl) dX5_perform_48 ⟨Nat.zero_le _, Nat.zero_le _⟩) hS (fun p32 f31 H locs hqf31 V I hS => ?_)
      obtain ⟨hqf31, ghqf31⟩ := hqf31
      replace hG := gLt_e hG (ghqf31)
      have I : cI ks τ L ψ f31 := by rw [show p32 = ψ from hqf31] at I; exact I
      refine lv_goto (tgt := 130) hx hb dX5_perform_51 (by decide) ?_
      exact cRetV C9 hr hlk hN hNs V I hS (⟨rfl, hG.symm⟩) dX5_perform_130
  rcases List.mem_cons.mp hm6 with rfl | hm6
  · replace hG := gIf_n hG (fun z9 => absurd (hThm6.symm.trans z9) (by decide))
    replace hG := gIf_n hG (fun z9 => absurd (hThm6.symm.trans z9) (by decide))
    replace hG := gIf_p hG hThm6
    refine lv_aload_n hx hb dX5_perform_62 rfl (lv_at hl 1 rfl) ?_
    refine lv_aload_n hx hb dX5_perform_63 rfl (lv_at hl 0 rfl) ?_
    refine lv_aload_n hx hb dX5_perform_64 rfl (lv_at hl 1 rfl) ?_
    obtain ⟨v34_0, v34_1, v34_2, v34_3, v34_4, v34_5, v34_6, v34_7, v34_8, v34_9, v34_10, v34_11, v34_12, hf34, t34_7, t34_8, t34_11⟩ := op7 I t_o1
    refine cG C9 V t_o1.1 hf34 rfl tC_lay7 2 (by decide) tCf_X5_26 (Or.inl rfl) rfl dX5_perform_65 ?_
    replace hG := gLt_e hG (view_gI hf34 rfl)
    obtain ⟨v35_0, v35_1, v35_2, v35_3, v35_4, v35_5, c35, hf35, t35_2, t35_3, hc35, h035, h135⟩ := op4 I t_o0
    refine cGoI (cRunV (As := [.int v34_2]) (rest := [.ref o1]) C9 hml hN hNs V I hS t_o0.1 hf35 rfl (c_X5_isAccepted l D ks τ L A N hN  ψ f o0 v34_2 t_o0 ) gC_X5_32 okC_X5_isAccepted ⟨rfl, rfl, Nat.le_of_ble_eq_true rfl, Nat.le_of_ble_eq_true rfl⟩ hl.1 rfl (Nat.le_of_ble_eq_true rfl) dX5_perform_68 ⟨Nat.zero_le _, Nat.zero_le _⟩) hS (fun r38 p37 f36 H locs hqf36 V I hS => ?_)
    obtain ⟨hqf36, ghqf36⟩ := hqf36
    replace hG := gC_e hG ghqf36
    have I : cI ks τ L ψ f36 := by rw [show p37 = ψ from hqf36] at I; exact I
    refine lv_if_eq (tgt := 78) hx hb dX5_perform_71 (by decide) (fun c39 => ?_) (fun c39 => ?_)
    · replace hG := gIf_p hG c39
      refine lv_iconst (v := 0) hx hb dX5_perform_78 (by decide) ?_
      obtain ⟨v40_0, v40_1, v40_2, v40_3, v40_4, v40_5, v40_6, v40_7, v40_8, v40_9, v40_10, v40_11, v40_12, hf40, t40_7, t40_8, t40_11⟩ := op7 I t_o1
      refine cGoV (cRunV (As := [.int 0]) (rest := []) C9 hml hN hNs V I hS t_o1.1 hf40 rfl (c_X8_goOnWith l D ks τ L A N hN  ψ f36 o1 0 t_o1 ) gC_X5_44 okC_X8_goOnWith ⟨rfl, rfl, Nat.le_of_ble_eq_true rfl, Nat.le_of_ble_eq_true rfl⟩ hl.1 rfl (Nat.le_of_ble_eq_true rfl) dX5_perform_79 ⟨Nat.zero_le _, Nat.zero_le _⟩) hS (fun p42 f41 H locs hqf41 V I hS => ?_)
      obtain ⟨hqf41, ghqf41⟩ := hqf41
      replace hG := gLt_e hG (ghqf41)
      have I : cI ks τ L ψ f41 := by rw [show p42 = ψ from hqf41] at I; exact I
      refine lv_goto (tgt := 130) hx hb dX5_perform_82 (by decide) ?_
      exact cRetV C9 hr hlk hN hNs V I hS (⟨rfl, hG.symm⟩) dX5_perform_130
    · replace hG := gIf_n hG c39
      refine lv_iconst (v := 1) hx hb dX5_perform_74 (by decide) ?_
      refine lv_goto (tgt := 79) hx hb dX5_perform_75 (by decide) ?_
      obtain ⟨v44_0, v44_1, v44_2, v44_3, v44_4, v44_5, v44_6, v44_7, v44_8, v44_9, v44_10, v44_11, v44_12, hf44, t44_7, t44_8, t44_11⟩ := op7 I t_o1
      refine cGoV (cRunV (As := [.int 1]) (rest := []) C9 hml hN hNs V I hS t_o1.1 hf44 rfl (c_X8_goOnWith l D ks τ L A N hN  ψ f36 o1 1 t_o1 ) gC_X5_44 okC_X8_goOnWith ⟨rfl, rfl, Nat.le_of_ble_eq_true rfl, Nat.le_of_ble_eq_true rfl⟩ hl.1 rfl (Nat.le_of_ble_eq_true rfl) dX5_perform_79 ⟨Nat.zero_le _, Nat.zero_le _⟩) hS (fun p46 f45 H locs hqf45 V I hS => ?_)
      obtain ⟨hqf45, ghqf45⟩ := hqf45
      replace hG := gLt_e hG (ghqf45)
      have I : cI ks τ L ψ f45 := by rw [show p46 = ψ from hqf45] at I; exact I
      refine lv_goto (tgt := 130) hx hb dX5_perform_82 (by decide) ?_
      exact cRetV C9 hr hlk hN hNs V I hS (⟨rfl, hG.symm⟩) dX5_perform_130
  rcases List.mem_cons.mp hm6 with rfl | hm6
  · replace hG := gIf_n hG (fun z9 => absurd (hThm6.symm.trans z9) (by decide))
    replace hG := gIf_n hG (fun z9 => absurd (hThm6.symm.trans z9) (by decide))
    replace hG := gIf_n hG (fun z9 => absurd (hThm6.symm.trans z9) (by decide))
    refine lv_aload_n hx hb dX5_perform_85 rfl (lv_at hl 0 rfl) ?_
    obtain ⟨v48_0, v48_1, v48_2, v48_3, v48_4, v48_5, c48, hf48, t48_2, t48_3, hc48, h048, h148⟩ := op4 I t_o0
    refine cG C9 V t_o0.1 hf48 rfl tC_lay4 5 (by decide) tCf_X5_48 (Or.inl rfl) rfl dX5_perform_86 ?_
    replace hG := gLt_e hG (view_gI hf48 rfl)
    refine lv_if_le (tgt := 103) hx hb dX5_perform_89 (by decide) (fun c49 => ?_) (fun c49 => ?_)
    · replace hG := gIf_p hG c49
      refine lv_aload_n hx hb dX5_perform_103 rfl (lv_at hl 0 rfl) ?_
      refine lv_aload_n hx hb dX5_perform_104 rfl (lv_at hl 1 rfl) ?_
      refine cGoV (cRunU (As := [.ref o1]) (rest := []) C9 hml hN hNs V I hS (cRc C9 V t_o0.1 hf48 rfl) (c_X9_holdUp l D ks τ L A N hN  ψ f o0 o1 (tyS_of t_o0 (by decide)) t_o1 ) (va_cwU 1 hts gU_X5_40_X5 rfl rfl rfl rfl okU_X5_40 ⟨Nat.le_of_ble_eq_true rfl, Nat.le_of_ble_eq_true rfl⟩) hl.1 rfl (Nat.le_of_ble_eq_true rfl) dX5_perform_105 ⟨Nat.zero_le _, Nat.zero_le _⟩) hS (fun p51 f50 H locs hqf50 V I hS => ?_)
      obtain ⟨hqf50, ghqf50⟩ := hqf50
      replace hG := gLt_e hG (ghqf50)
      have I : cI ks τ L ψ f50 := by rw [show p51 = ψ from hqf50] at I; exact I
      refine lv_goto (tgt := 130) hx hb dX5_perform_108 (by decide) ?_
      exact cRetV C9 hr hlk hN hNs V I hS (⟨rfl, hG.symm⟩) dX5_perform_130
    · replace hG := gIf_n hG c49
      refine lv_aload_n hx hb dX5_perform_92 rfl (lv_at hl 1 rfl) ?_
      refine lv_aload_n hx hb dX5_perform_93 rfl (lv_at hl 0 rfl) ?_
      refine cGoI (cRunV (As := []) (rest := [.ref o1]) C9 hml hN hNs V I hS t_o0.1 hf48 rfl (c_X5_takenOut l D ks τ L A N hN  ψ f o0 t_o0 ) gC_X5_51 okC_X5_takenOut ⟨rfl, rfl, Nat.le_of_ble_eq_true rfl, Nat.le_of_ble_eq_true rfl⟩ hl.1 rfl (Nat.le_of_ble_eq_true rfl) dX5_perform_94 ⟨Nat.zero_le _, Nat.zero_le _⟩) hS (fun r55 p54 f53 H locs hqf53 V I hS => ?_)
      obtain ⟨hqf53, ghqf53⟩ := hqf53
      replace hG := gC_e hG ghqf53
      have I : cI ks τ L ψ f53 := by rw [show p54 = ψ from hqf53] at I; exact I
      obtain ⟨v56_0, v56_1, v56_2, v56_3, v56_4, v56_5, v56_6, v56_7, v56_8, v56_9, v56_10, v56_11, v56_12, hf56, t56_7, t56_8, t56_11⟩ := op7 I t_o1
      refine cGoV (cRunV (As := [.int r55]) (rest := []) C9 hml hN hNs V I hS t_o1.1 hf56 rfl (c_X8_goOnWith l D ks τ L A N hN  ψ f53 o1 r55 t_o1 ) gC_X5_44 okC_X8_goOnWith ⟨rfl, rfl, Nat.le_of_ble_eq_true rfl, Nat.le_of_ble_eq_true rfl⟩ hl.1 rfl (Nat.le_of_ble_eq_true rfl) dX5_perform_97 ⟨Nat.zero_le _, Nat.zero_le _⟩) hS (fun p58 f57 H locs hqf57 V I hS => ?_)
      obtain ⟨hqf57, ghqf57⟩ := hqf57
      replace hG := gLt_e hG (ghqf57)
      have I : cI ks τ L ψ f57 := by rw [show p58 = ψ from hqf57] at I; exact I
      refine lv_goto (tgt := 130) hx hb dX5_perform_100 (by decide) ?_
      exact cRetV C9 hr hlk hN hNs V I hS (⟨rfl, hG.symm⟩) dX5_perform_130
  exact absurd hm6 List.not_mem_nil
def FC_X7_perform (X : xS) (o0 : Nat) (o1 : Nat) (o2 : Nat) : xS := gLt (FC_Jx29ce0_ordinal_8abf5 X o2 : Int32) (fun r4 => gLt (swM.getD (Int32.toNatClampNeg r4) 0 : Int32) (fun x5 => if lookT 8 (104) [(8, 28), (9, 79)] x5 = 112 then (gLt (xI X o0 3 : Int32) (fun v7_3 => if (v7_3 : Int32) ≤ 0 then (gLt (0 : Int32) (fun x9 => gLt ((v7_3 - x9) : Int32) (fun x10 => gLt (xwI X o0 3 x10 : xS) (fun Xf11 => gLt (FC_X8_goOnWith Xf11 o1 x9 : xS) (fun Xf14 => Xf14))))) else (gLt ((v7_3 - v7_3) : Int32) (fun x17 => gLt (xwI X o0 3 x17 : xS) (fun Xf18 => gLt (FC_X8_goOnWith Xf18 o1 v7_3 : xS) (fun Xf21 => Xf21)))))) else (if lookT 8 (104) [(8, 28), (9, 79)] x5 = 36 then (gLt ((xR X o0 2).getD 0 : Nat) (fun v24_2 => gLt (xI X v24_2 0 : Int32) (fun v25_0 => if (v25_0 : Int32) = 0 then (gLt (xI X o0 3 : Int32) (fun v24_3 => gC (FC_X8_operand X o1 1) (fun r33 Xf31 => if (v24_3 : Int32) < r33 then (gLt (FC_X9_holdUp Xf31 o0 o1 : xS) (fun Xf36 => Xf36)) else (gLt (xI Xf31 o0 3 : Int32) (fun v39_3 => gC (FC_X8_operand Xf31 o1 1) (fun r43 Xf41 => gLt ((v39_3 - r43) : Int32) (fun x45 => gLt (xwI Xf41 o0 3 x45 : xS) (fun Xf46 => gLt (FC_X8_goOn Xf46 o1 : xS) (fun Xf49 => Xf49))))))))) else (gLt (FC_X9_holdUp X o0 o1 : xS) (fun Xf27 => Xf27))))) else (gLt (xI X o0 3 : Int32) (fun v52_3 => gC (FC_X8_operand X o1 1) (fun r56 Xf54 => gLt ((v52_3 + r56) : Int32) (fun x58 => gLt (xwI Xf54 o0 3 x58 : xS) (fun Xf59 => gLt (FC_X8_goOn Xf59 o1 : xS) (fun Xf62 => gLt (FC_X7_handOut Xf62 o0 : xS) (fun Xf66 => Xf66))))))))))
set_option maxHeartbeats 200000 in
set_option maxRecDepth 100000 in
theorem c_X7_perform (l : Launch) (D : va_G) (ks : kS) (τ : Nat → Nat) (L : List Nat) (A : Nat → Prop) (N : State → Prop) (hN : cNk A N) (κ : kC) (hN0 : ∀ U, N U → N0 κ A U) (ψ : Int32) (f : Nat → va_E) (o0 : Nat) (o1 : Nat) (o2 : Nat) (t_o0 : ty τ L o0 6) (t_o1 : ty τ L o1 7) (t_o2 : o2 < 34) : Met l yX7_perform (Cond.code yX7_perform cX7_perform 4 none :: tC) ({ frames := 4, cells := 0, slots := 0, locals := 84 }) (va_Pc [.ref o0, .ref o1, .ref (κ.1 o2)] (cB D ks τ L A N (ψ, f))) (va_Qv (fun x9 => (x9.1 = ψ) ∧ view x9.2 = FC_X7_perform (view f) o0 o1 o2) (cB D ks τ L A N) A) 0 0 A := by
  refine cMet (own := RX7) (by decide) rfl (Nat.le_of_ble_eq_true rfl) ?_
  intro p e s m below meth c ls C9 hml hr hlk V I hNs hl
  have hx := C9.1
  have hb := C9.2.1
  have hown := C9.2.2.1
  have hts := C9.2.2.2.1
  have h0 := hN0 s hNs
  have hS : va_S A s.heap s.heap [] := va_S.rf
  have hG := FC_X7_perform.eq_1 (view f) o0 o1 o2
  have hl : lv_has ls 4 [(0, .ref o0), (1, .ref o1), (2, .ref (κ.1 o2))] := hl
  refine cZs C9 h0 hS tCf_X7_15 dX7_perform_0 (fun y1 hy1 => ?_)
  refine lv_aload_n hx hb dX7_perform_3 rfl (lv_at hl 2 rfl) ?_
  refine cGoI (cRunU (As := []) (rest := [.ref y1]) C9 hml hN hNs V I hS (isW_r h0 hS t_o2) (c_Jx29ce0_ordinal_8abf5 l D ks τ L A N hN κ hN0 ψ f o2 t_o2 ) (va_cwU 0 hts gU_X7_21_X11 rfl rfl rfl rfl okU_X7_21 ⟨Nat.le_of_ble_eq_true rfl, Nat.le_of_ble_eq_true rfl⟩) hl.1 rfl (Nat.le_of_ble_eq_true rfl) dX7_perform_4 ⟨Nat.zero_le _, Nat.zero_le _⟩) hS (fun r4 p3 f2 H locs hqf2 V I hS => ?_)
  obtain ⟨hqf2, ghqf2⟩ := hqf2
  replace hG := gLt_e hG ghqf2
  have V : cV D L f A H := by rw [show f2 = f from congrArg Prod.snd hqf2.1] at V; exact V
  have I : cI ks τ L ψ f := by rw [show f2 = f from congrArg Prod.snd hqf2.1, show p3 = ψ from congrArg Prod.fst hqf2.1] at I; exact I
  refine cLs C9 hy1 hS (cvin (N := 34) rfl (hqf2.2.1) (hqf2.2.2)) dX7_perform_7 (fun x5 ex5 => ?_)
  replace hG := gLt_e hG (ex5)
  refine cLookG hx hb [112, 36, 87] dX7_perform_8 rfl (by decide) ?_
  intro t9 hm6 hThm6
  rcases List.mem_cons.mp hm6 with rfl | hm6
  · replace hG := gIf_p hG hThm6
    refine lv_aload_n hx hb dX7_perform_112 rfl (lv_at hl 0 rfl) ?_
    obtain ⟨v7_0, v7_1, v7_2, v7_3, hf7, t7_2⟩ := op6 I t_o0
    refine cG C9 V t_o0.1 hf7 rfl tC_lay6 3 (by decide) tCf_X7_9 (Or.inl rfl) rfl dX7_perform_113 ?_
    replace hG := gLt_e hG (view_gI hf7 rfl)
    refine lv_if_le (tgt := 126) hx hb dX7_perform_116 (by decide) (fun c8 => ?_) (fun c8 => ?_)
    · replace hG := gIf_p hG c8
      refine lv_iconst (v := 0) hx hb dX7_perform_126 (by decide) ?_
      refine lv_topi (fun x9 ex9 => ?_)
      replace hG := gLt_e hG ex9
      refine lv_istore_n (lv' := [(3, .int x9), (0, .ref o0), (1, .ref o1), (2, .ref (κ.1 o2))]) hx hb dX7_perform_127 rfl hl (by decide) rfl (fun ls hl => ?_)
      refine lv_aload_n hx hb dX7_perform_128 rfl (lv_at hl 1 rfl) ?_
      refine lv_dup hx hb dX7_perform_129 rfl ?_
      refine cG C9 V t_o0.1 hf7 rfl tC_lay6 3 (by decide) tCf_X7_9 (Or.inl rfl) rfl dX7_perform_130 ?_
      refine lv_iload_n hx hb dX7_perform_133 rfl (lv_at hl 0 rfl) ?_
      refine lv_isub hx hb dX7_perform_134 ?_
      refine lv_topi (fun x10 ex10 => ?_)
      replace hG := gLt_e hG ex10
      refine cP (v := .int x10) (ty := .int) C9 V hS t_o0.1 hf7 rfl tC_lay6 tyX7 tyX7_ok nmX7 3 (by decide) tCf_X7_9 rfl rfl (by decide +kernel) rfl rfl (Nat.le_of_ble_eq_true rfl) dX7_perform_135 (fun f11 H locs ef11 V hS => ?_)
      replace hG := gLt_e hG (view_I hf7 rfl ef11)
      have hf12 : f11 o0 = .inr (6, [.int v7_0, .int v7_1, .ref v7_2, .int x10]) := up_s ef11
      have I := cI_up I t_o0.2 ef11 (mk6 t7_2)
      refine lv_aload_n hx hb dX7_perform_138 rfl (lv_at hl 2 rfl) ?_
      refine lv_iload_n hx hb dX7_perform_139 rfl (lv_at hl 0 rfl) ?_
      obtain ⟨v13_0, v13_1, v13_2, v13_3, v13_4, v13_5, v13_6, v13_7, v13_8, v13_9, v13_10, v13_11, v13_12, hf13, t13_7, t13_8, t13_11⟩ := op7 I t_o1
      refine cGoV (cRunV (As := [.int x9]) (rest := []) C9 hml hN hNs V I hS t_o1.1 hf13 rfl (c_X8_goOnWith l D ks τ L A N hN  ψ f11 o1 x9 t_o1 ) gC_X7_53 okC_X8_goOnWith ⟨rfl, rfl, Nat.le_of_ble_eq_true rfl, Nat.le_of_ble_eq_true rfl⟩ hl.1 rfl (Nat.le_of_ble_eq_true rfl) dX7_perform_140 ⟨Nat.zero_le _, Nat.zero_le _⟩) hS (fun p15 f14 H locs hqf14 V I hS => ?_)
      obtain ⟨hqf14, ghqf14⟩ := hqf14
      replace hG := gLt_e hG (ghqf14)
      have I : cI ks τ L ψ f14 := by rw [show p15 = ψ from hqf14] at I; exact I
      exact cRetV C9 hr hlk hN hNs V I hS (⟨rfl, hG.symm⟩) dX7_perform_143
    · replace hG := gIf_n hG c8
      refine lv_aload_n hx hb dX7_perform_119 rfl (lv_at hl 0 rfl) ?_
      refine cG C9 V t_o0.1 hf7 rfl tC_lay6 3 (by decide) tCf_X7_9 (Or.inl rfl) rfl dX7_perform_120 ?_
      refine lv_goto (tgt := 127) hx hb dX7_perform_123 (by decide) ?_
      refine lv_istore_n (lv' := [(3, .int v7_3), (0, .ref o0), (1, .ref o1), (2, .ref (κ.1 o2))]) hx hb dX7_perform_127 rfl hl (by decide) rfl (fun ls hl => ?_)
      refine lv_aload_n hx hb dX7_perform_128 rfl (lv_at hl 1 rfl) ?_
      refine lv_dup hx hb dX7_perform_129 rfl ?_
      refine cG C9 V t_o0.1 hf7 rfl tC_lay6 3 (by decide) tCf_X7_9 (Or.inl rfl) rfl dX7_perform_130 ?_
      refine lv_iload_n hx hb dX7_perform_133 rfl (lv_at hl 0 rfl) ?_
      refine lv_isub hx hb dX7_perform_134 ?_
      refine lv_topi (fun x17 ex17 => ?_)
      replace hG := gLt_e hG ex17
      refine cP (v := .int x17) (ty := .int) C9 V hS t_o0.1 hf7 rfl tC_lay6 tyX7 tyX7_ok nmX7 3 (by decide) tCf_X7_9 rfl rfl (by decide +kernel) rfl rfl (Nat.le_of_ble_eq_true rfl) dX7_perform_135 (fun f18 H locs ef18 V hS => ?_)
      replace hG := gLt_e hG (view_I hf7 rfl ef18)
      have hf19 : f18 o0 = .inr (6, [.int v7_0, .int v7_1, .ref v7_2, .int x17]) := up_s ef18
      have I := cI_up I t_o0.2 ef18 (mk6 t7_2)
      refine lv_aload_n hx hb dX7_perform_138 rfl (lv_at hl 2 rfl) ?_
      refine lv_iload_n hx hb dX7_perform_139 rfl (lv_at hl 0 rfl) ?_
      obtain ⟨v20_0, v20_1, v20_2, v20_3, v20_4, v20_5, v20_6, v20_7, v20_8, v20_9, v20_10, v20_11, v20_12, hf20, t20_7, t20_8, t20_11⟩ := op7 I t_o1
      refine cGoV (cRunV (As := [.int v7_3]) (rest := []) C9 hml hN hNs V I hS t_o1.1 hf20 rfl (c_X8_goOnWith l D ks τ L A N hN  ψ f18 o1 v7_3 t_o1 ) gC_X7_53 okC_X8_goOnWith ⟨rfl, rfl, Nat.le_of_ble_eq_true rfl, Nat.le_of_ble_eq_true rfl⟩ hl.1 rfl (Nat.le_of_ble_eq_true rfl) dX7_perform_140 ⟨Nat.zero_le _, Nat.zero_le _⟩) hS (fun p22 f21 H locs hqf21 V I hS => ?_)
      obtain ⟨hqf21, ghqf21⟩ := hqf21
      replace hG := gLt_e hG (ghqf21)
      have I : cI ks τ L ψ f21 := by rw [show p22 = ψ from hqf21] at I; exact I
      exact cRetV C9 hr hlk hN hNs V I hS (⟨rfl, hG.symm⟩) dX7_perform_143
  rcases List.mem_cons.mp hm6 with rfl | hm6
  · replace hG := gIf_n hG (fun z9 => absurd (hThm6.symm.trans z9) (by decide))
    replace hG := gIf_p hG hThm6
    refine lv_aload_n hx hb dX7_perform_36 rfl (lv_at hl 0 rfl) ?_
    obtain ⟨v24_0, v24_1, v24_2, v24_3, hf24, t24_2⟩ := op6 I t_o0
    refine cG C9 V t_o0.1 hf24 rfl tC_lay6 2 (by decide) tCf_X7_27 (Or.inr tCs_X7_row) rfl dX7_perform_37 ?_
    replace hG := gLt_e hG (view_gR hf24 rfl)
    obtain ⟨v25_0, v25_1, hf25, hn25, t25_1⟩ := op5 I t24_2
    refine cG C9 V t24_2.1 hf25 rfl tC_lay5 0 (by decide) tCf_X7_31 (Or.inl rfl) rfl dX7_perform_40 ?_
    replace hG := gLt_e hG (view_gI hf25 rfl)
    refine lv_if_ne (tgt := 79) hx hb dX7_perform_43 (by decide) (fun c26 => ?_) (fun c26 => ?_)
    · replace hG := gIf_n hG c26
      refine lv_aload_n hx hb dX7_perform_79 rfl (lv_at hl 0 rfl) ?_
      refine lv_aload_n hx hb dX7_perform_80 rfl (lv_at hl 1 rfl) ?_
      refine cGoV (cRunU (As := [.ref o1]) (rest := []) C9 hml hN hNs V I hS (cRc C9 V t_o0.1 hf24 rfl) (c_X9_holdUp l D ks τ L A N hN  ψ f o0 o1 (tyS_of t_o0 (by decide)) t_o1 ) (va_cwU 1 hts gU_X7_46_X7 rfl rfl rfl rfl okU_X7_46 ⟨Nat.le_of_ble_eq_true rfl, Nat.le_of_ble_eq_true rfl⟩) hl.1 rfl (Nat.le_of_ble_eq_true rfl) dX7_perform_81 ⟨Nat.zero_le _, Nat.zero_le _⟩) hS (fun p28 f27 H locs hqf27 V I hS => ?_)
      obtain ⟨hqf27, ghqf27⟩ := hqf27
      replace hG := gLt_e hG (ghqf27)
      have I : cI ks τ L ψ f27 := by rw [show p28 = ψ from hqf27] at I; exact I
      refine lv_goto (tgt := 143) hx hb dX7_perform_84 (by decide) ?_
      exact cRetV C9 hr hlk hN hNs V I hS (⟨rfl, hG.symm⟩) dX7_perform_143
    · replace hG := gIf_p hG c26
      refine lv_aload_n hx hb dX7_perform_46 rfl (lv_at hl 0 rfl) ?_
      refine cG C9 V t_o0.1 hf24 rfl tC_lay6 3 (by decide) tCf_X7_9 (Or.inl rfl) rfl dX7_perform_47 ?_
      replace hG := gLt_e hG (view_gI hf24 rfl)
      refine lv_aload_n hx hb dX7_perform_50 rfl (lv_at hl 1 rfl) ?_
      refine lv_iconst (v := 1) hx hb dX7_perform_51 (by decide) ?_
      obtain ⟨v30_0, v30_1, v30_2, v30_3, v30_4, v30_5, v30_6, v30_7, v30_8, v30_9, v30_10, v30_11, v30_12, hf30, t30_7, t30_8, t30_11⟩ := op7 I t_o1
      refine cGoI (cRunV (As := [.int 1]) (rest := [.int v24_3]) C9 hml hN hNs V I hS t_o1.1 hf30 rfl (c_X8_operand l D ks τ L A N hN  ψ f o1 1 t_o1 ) gC_X7_36 okC_X8_operand ⟨rfl, rfl, Nat.le_of_ble_eq_true rfl, Nat.le_of_ble_eq_true rfl⟩ hl.1 rfl (Nat.le_of_ble_eq_true rfl) dX7_perform_52 ⟨Nat.zero_le _, Nat.zero_le _⟩) hS (fun r33 p32 f31 H locs hqf31 V I hS => ?_)
      obtain ⟨hqf31, ghqf31⟩ := hqf31
      replace hG := gC_e hG ghqf31
      have I : cI ks τ L ψ f31 := by rw [show p32 = ψ from hqf31] at I; exact I
      refine lv_icmp_lt (tgt := 79) hx hb dX7_perform_55 (by decide) (fun c34 => ?_) (fun c34 => ?_)
      · replace hG := gIf_p hG c34
        refine lv_aload_n hx hb dX7_perform_79 rfl (lv_at hl 0 rfl) ?_
        refine lv_aload_n hx hb dX7_perform_80 rfl (lv_at hl 1 rfl) ?_
        obtain ⟨v35_0, v35_1, v35_2, v35_3, hf35, t35_2⟩ := op6 I t_o0
        refine cGoV (cRunU (As := [.ref o1]) (rest := []) C9 hml hN hNs V I hS (cRc C9 V t_o0.1 hf35 rfl) (c_X9_holdUp l D ks τ L A N hN  ψ f31 o0 o1 (tyS_of t_o0 (by decide)) t_o1 ) (va_cwU 1 hts gU_X7_46_X7 rfl rfl rfl rfl okU_X7_46 ⟨Nat.le_of_ble_eq_true rfl, Nat.le_of_ble_eq_true rfl⟩) hl.1 rfl (Nat.le_of_ble_eq_true rfl) dX7_perform_81 ⟨Nat.zero_le _, Nat.zero_le _⟩) hS (fun p37 f36 H locs hqf36 V I hS => ?_)
        obtain ⟨hqf36, ghqf36⟩ := hqf36
        replace hG := gLt_e hG (ghqf36)
        have I : cI ks τ L ψ f36 := by rw [show p37 = ψ from hqf36] at I; exact I
        refine lv_goto (tgt := 143) hx hb dX7_perform_84 (by decide) ?_
        exact cRetV C9 hr hlk hN hNs V I hS (⟨rfl, hG.symm⟩) dX7_perform_143
      · replace hG := gIf_n hG c34
        refine lv_aload_n hx hb dX7_perform_58 rfl (lv_at hl 0 rfl) ?_
        refine lv_dup hx hb dX7_perform_59 rfl ?_
        obtain ⟨v39_0, v39_1, v39_2, v39_3, hf39, t39_2⟩ := op6 I t_o0
        refine cG C9 V t_o0.1 hf39 rfl tC_lay6 3 (by decide) tCf_X7_9 (Or.inl rfl) rfl dX7_perform_60 ?_
        replace hG := gLt_e hG (view_gI hf39 rfl)
        refine lv_aload_n hx hb dX7_perform_63 rfl (lv_at hl 1 rfl) ?_
        refine lv_iconst (v := 1) hx hb dX7_perform_64 (by decide) ?_
        obtain ⟨v40_0, v40_1, v40_2, v40_3, v40_4, v40_5, v40_6, v40_7, v40_8, v40_9, v40_10, v40_11, v40_12, hf40, t40_7, t40_8, t40_11⟩ := op7 I t_o1
        refine cGoI (cRunV (As := [.int 1]) (rest := [.int v39_3, .ref o0]) C9 hml hN hNs V I hS t_o1.1 hf40 rfl (c_X8_operand l D ks τ L A N hN  ψ f31 o1 1 t_o1 ) gC_X7_36 okC_X8_operand ⟨rfl, rfl, Nat.le_of_ble_eq_true rfl, Nat.le_of_ble_eq_true rfl⟩ hl.1 rfl (Nat.le_of_ble_eq_true rfl) dX7_perform_65 ⟨Nat.zero_le _, Nat.zero_le _⟩) hS (fun r43 p42 f41 H locs hqf41 V I hS => ?_)
        obtain ⟨hqf41, ghqf41⟩ := hqf41
        replace hG := gC_e hG ghqf41
        have I : cI ks τ L ψ f41 := by rw [show p42 = ψ from hqf41] at I; exact I
        refine lv_isub hx hb dX7_perform_68 ?_
        obtain ⟨v44_0, v44_1, v44_2, v44_3, hf44, t44_2⟩ := op6 I t_o0
        refine lv_topi (fun x45 ex45 => ?_)
        replace hG := gLt_e hG ex45
        refine cP (v := .int x45) (ty := .int) C9 V hS t_o0.1 hf44 rfl tC_lay6 tyX7 tyX7_ok nmX7 3 (by decide) tCf_X7_9 rfl rfl (by decide +kernel) rfl rfl (Nat.le_of_ble_eq_true rfl) dX7_perform_69 (fun f46 H locs ef46 V hS => ?_)
        replace hG := gLt_e hG (view_I hf44 rfl ef46)
        have hf47 : f46 o0 = .inr (6, [.int v44_0, .int v44_1, .ref v44_2, .int x45]) := up_s ef46
        have I := cI_up I t_o0.2 ef46 (mk6 t44_2)
        refine lv_aload_n hx hb dX7_perform_72 rfl (lv_at hl 1 rfl) ?_
        obtain ⟨v48_0, v48_1, v48_2, v48_3, v48_4, v48_5, v48_6, v48_7, v48_8, v48_9, v48_10, v48_11, v48_12, hf48, t48_7, t48_8, t48_11⟩ := op7 I t_o1
        refine cGoV (cRunV (As := []) (rest := []) C9 hml hN hNs V I hS t_o1.1 hf48 rfl (c_X8_goOn l D ks τ L A N hN  ψ f46 o1 t_o1 ) gC_X7_42 okC_X8_goOn ⟨rfl, rfl, Nat.le_of_ble_eq_true rfl, Nat.le_of_ble_eq_true rfl⟩ hl.1 rfl (Nat.le_of_ble_eq_true rfl) dX7_perform_73 ⟨Nat.zero_le _, Nat.zero_le _⟩) hS (fun p50 f49 H locs hqf49 V I hS => ?_)
        obtain ⟨hqf49, ghqf49⟩ := hqf49
        replace hG := gLt_e hG (ghqf49)
        have I : cI ks τ L ψ f49 := by rw [show p50 = ψ from hqf49] at I; exact I
        refine lv_goto (tgt := 143) hx hb dX7_perform_76 (by decide) ?_
        exact cRetV C9 hr hlk hN hNs V I hS (⟨rfl, hG.symm⟩) dX7_perform_143
  rcases List.mem_cons.mp hm6 with rfl | hm6
  · replace hG := gIf_n hG (fun z9 => absurd (hThm6.symm.trans z9) (by decide))
    replace hG := gIf_n hG (fun z9 => absurd (hThm6.symm.trans z9) (by decide))
    refine lv_aload_n hx hb dX7_perform_87 rfl (lv_at hl 0 rfl) ?_
    refine lv_dup hx hb dX7_perform_88 rfl ?_
    obtain ⟨v52_0, v52_1, v52_2, v52_3, hf52, t52_2⟩ := op6 I t_o0
    refine cG C9 V t_o0.1 hf52 rfl tC_lay6 3 (by decide) tCf_X7_9 (Or.inl rfl) rfl dX7_perform_89 ?_
    replace hG := gLt_e hG (view_gI hf52 rfl)
    refine lv_aload_n hx hb dX7_perform_92 rfl (lv_at hl 1 rfl) ?_
    refine lv_iconst (v := 1) hx hb dX7_perform_93 (by decide) ?_
    obtain ⟨v53_0, v53_1, v53_2, v53_3, v53_4, v53_5, v53_6, v53_7, v53_8, v53_9, v53_10, v53_11, v53_12, hf53, t53_7, t53_8, t53_11⟩ := op7 I t_o1
    refine cGoI (cRunV (As := [.int 1]) (rest := [.int v52_3, .ref o0]) C9 hml hN hNs V I hS t_o1.1 hf53 rfl (c_X8_operand l D ks τ L A N hN  ψ f o1 1 t_o1 ) gC_X7_36 okC_X8_operand ⟨rfl, rfl, Nat.le_of_ble_eq_true rfl, Nat.le_of_ble_eq_true rfl⟩ hl.1 rfl (Nat.le_of_ble_eq_true rfl) dX7_perform_94 ⟨Nat.zero_le _, Nat.zero_le _⟩) hS (fun r56 p55 f54 H locs hqf54 V I hS => ?_)
    obtain ⟨hqf54, ghqf54⟩ := hqf54
    replace hG := gC_e hG ghqf54
    have I : cI ks τ L ψ f54 := by rw [show p55 = ψ from hqf54] at I; exact I
    refine lv_iadd hx hb dX7_perform_97 ?_
    obtain ⟨v57_0, v57_1, v57_2, v57_3, hf57, t57_2⟩ := op6 I t_o0
    refine lv_topi (fun x58 ex58 => ?_)
    replace hG := gLt_e hG ex58
    refine cP (v := .int x58) (ty := .int) C9 V hS t_o0.1 hf57 rfl tC_lay6 tyX7 tyX7_ok nmX7 3 (by decide) tCf_X7_9 rfl rfl (by decide +kernel) rfl rfl (Nat.le_of_ble_eq_true rfl) dX7_perform_98 (fun f59 H locs ef59 V hS => ?_)
    replace hG := gLt_e hG (view_I hf57 rfl ef59)
    have hf60 : f59 o0 = .inr (6, [.int v57_0, .int v57_1, .ref v57_2, .int x58]) := up_s ef59
    have I := cI_up I t_o0.2 ef59 (mk6 t57_2)
    refine lv_aload_n hx hb dX7_perform_101 rfl (lv_at hl 1 rfl) ?_
    obtain ⟨v61_0, v61_1, v61_2, v61_3, v61_4, v61_5, v61_6, v61_7, v61_8, v61_9, v61_10, v61_11, v61_12, hf61, t61_7, t61_8, t61_11⟩ := op7 I t_o1
    refine cGoV (cRunV (As := []) (rest := []) C9 hml hN hNs V I hS t_o1.1 hf61 rfl (c_X8_goOn l D ks τ L A N hN  ψ f59 o1 t_o1 ) gC_X7_42 okC_X8_goOn ⟨rfl, rfl, Nat.le_of_ble_eq_true rfl, Nat.le_of_ble_eq_true rfl⟩ hl.1 rfl (Nat.le_of_ble_eq_true rfl) dX7_perform_102 ⟨Nat.zero_le _, Nat.zero_le _⟩) hS (fun p63 f62 H locs hqf62 V I hS => ?_)
    obtain ⟨hqf62, ghqf62⟩ := hqf62
    replace hG := gLt_e hG (ghqf62)
    have I : cI ks τ L ψ f62 := by rw [show p63 = ψ from hqf62] at I; exact I
    refine lv_aload_n hx hb dX7_perform_105 rfl (lv_at hl 0 rfl) ?_
    obtain ⟨v65_0, v65_1, v65_2, v65_3, hf65, t65_2⟩ := op6 I t_o0
    refine cGoV (cRunV (As := []) (rest := []) C9 hml hN hNs V I hS t_o0.1 hf65 rfl (c_X7_handOut l D ks τ L A N hN  ψ f62 o0 t_o0 ) gC_X7_50 okC_X7_handOut ⟨rfl, rfl, Nat.le_of_ble_eq_true rfl, Nat.le_of_ble_eq_true rfl⟩ hl.1 rfl (Nat.le_of_ble_eq_true rfl) dX7_perform_106 ⟨Nat.zero_le _, Nat.zero_le _⟩) hS (fun p67 f66 H locs hqf66 V I hS => ?_)
    obtain ⟨hqf66, ghqf66⟩ := hqf66
    replace hG := gLt_e hG (ghqf66)
    have I : cI ks τ L ψ f66 := by rw [show p67 = ψ from hqf66] at I; exact I
    refine lv_goto (tgt := 143) hx hb dX7_perform_109 (by decide) ?_
    exact cRetV C9 hr hlk hN hNs V I hS (⟨rfl, hG.symm⟩) dX7_perform_143
  exact absurd hm6 List.not_mem_nil
def FC_X4_perform (X : xS) (o0 : Nat) (o1 : Nat) (o2 : Nat) : xS := if (o2 : Nat) = 8 then (gLt (FC_X4_grabOrStandIn X o0 o1 : xS) (fun Xf79 => Xf79)) else (if (o2 : Nat) = 9 then (gC (FC_X4_isGrabbed X o0 o1) (fun r68 Xf66 => if (r68 : Int32) = 0 then (gLt (FC_X8_goOnWith Xf66 o1 0 : xS) (fun Xf71 => Xf71)) else (gLt (FC_X8_goOnWith Xf66 o1 1 : xS) (fun Xf75 => Xf75)))) else (gLt (xI X o0 3 : Int32) (fun v3_3 => gLt (xI X o1 0 : Int32) (fun v4_0 => if (v3_3 : Int32) = v4_0 then (if (o2 : Nat) = 10 then (gLt (FC_X8_goOn X o1 : xS) (fun Xf51 => gLt (xI Xf51 o0 5 : Int32) (fun v54_5 => gLt ((v54_5 - 1) : Int32) (fun x55 => gLt (xwI Xf51 o0 5 x55 : xS) (fun Xf56 => if (x55 : Int32) = 0 then (gLt (FC_X4_free Xf56 o0 : xS) (fun Xf59 => Xf59)) else (Xf56)))))) else (if (o2 : Nat) = 12 then (gLt (FC_X8_goOn X o1 : xS) (fun Xf8 => if (o2 : Nat) = 13 then (gLt ((xR Xf8 o0 6).getD 0 : Nat) (fun v16_6 => gLt (xI Xf8 v16_6 0 : Int32) (fun v17_0 => gLt (FC_X4_callUp Xf8 o0 v17_0 : xS) (fun Xf18 => Xf18)))) else (gLt (FC_X4_callUp Xf8 o0 1 : xS) (fun Xf13 => Xf13)))) else (if (o2 : Nat) = 13 then (gLt (FC_X8_goOn X o1 : xS) (fun Xf38 => if (o2 : Nat) = 13 then (gLt ((xR Xf38 o0 6).getD 0 : Nat) (fun v46_6 => gLt (xI Xf38 v46_6 0 : Int32) (fun v47_0 => gLt (FC_X4_callUp Xf38 o0 v47_0 : xS) (fun Xf48 => Xf48)))) else (gLt (FC_X4_callUp Xf38 o0 1 : xS) (fun Xf43 => Xf43)))) else (gC (FC_X8_refusesToWait X o1) (fun r24 Xf22 => if (r24 : Int32) = 0 then (gLt (xI Xf22 o0 5 : Int32) (fun v26_5 => gLt (xwI Xf22 o1 9 v26_5 : xS) (fun Xf28 => gLt ((xR Xf28 o0 6).getD 0 : Nat) (fun v26_6 => gLt (FC_X8_standIn Xf28 o1 v26_6 o0 : xS) (fun Xf31 => gLt (FC_X4_free Xf31 o0 : xS) (fun Xf35 => Xf35)))))) else (Xf22)))))) else (gLt (FC_X8_fail X o1 1 : xS) (fun Xf62 => Xf62))))))
set_option maxHeartbeats 200000 in
set_option maxRecDepth 100000 in
theorem c_X4_perform (l : Launch) (D : va_G) (ks : kS) (τ : Nat → Nat) (L : List Nat) (A : Nat → Prop) (N : State → Prop) (hN : cNk A N) (κ : kC) (hN0 : ∀ U, N U → N0 κ A U) (ψ : Int32) (f : Nat → va_E) (o0 : Nat) (o1 : Nat) (o2 : Nat) (t_o0 : ty τ L o0 3) (t_o1 : ty τ L o1 7) (t_o2 : o2 < 34) : Met l yX4_perform (Cond.code yX4_perform cX4_perform 3 none :: tC) ({ frames := 4, cells := 0, slots := 0, locals := 88 }) (va_Pc [.ref o0, .ref o1, .ref (κ.1 o2)] (cB D ks τ L A N (ψ, f))) (va_Qv (fun x9 => (x9.1 = ψ) ∧ view x9.2 = FC_X4_perform (view f) o0 o1 o2) (cB D ks τ L A N) A) 0 0 A := by
  refine cMet (own := RX4) (by decide) rfl (Nat.le_of_ble_eq_true rfl) ?_
  intro p e s m below meth c ls C9 hml hr hlk V I hNs hl
  have hx := C9.1
  have hb := C9.2.1
  have hown := C9.2.2.1
  have hts := C9.2.2.2.1
  have h0 := hN0 s hNs
  have hS : va_S A s.heap s.heap [] := va_S.rf
  have hG := FC_X4_perform.eq_1 (view f) o0 o1 o2
  have hl : lv_has ls 3 [(0, .ref o0), (1, .ref o1), (2, .ref (κ.1 o2))] := hl
  refine lv_aload_n hx hb dX4_perform_0 rfl (lv_at hl 2 rfl) ?_
  refine cZn (n := "LOCK") (i := 8) (by simp [wNx]) C9 h0 hS tCf_X4_28 dX4_perform_1 ?_
  refine lv_acmp_ne (rx := (some (κ.1 o2))) (ry := (some (κ.1 8))) (tgt := 15) hx hb dX4_perform_4 (by decide) (fun c1 => ?_) (fun c1 => ?_)
  · replace hG := gIf_n hG (wqn c1)
    refine lv_aload_n hx hb dX4_perform_15 rfl (lv_at hl 2 rfl) ?_
    refine cZn (n := "TRY") (i := 9) (by simp [wNx]) C9 h0 hS tCf_X4_38 dX4_perform_16 ?_
    refine lv_acmp_ne (rx := (some (κ.1 o2))) (ry := (some (κ.1 9))) (tgt := 42) hx hb dX4_perform_19 (by decide) (fun c2 => ?_) (fun c2 => ?_)
    · replace hG := gIf_n hG (wqn c2)
      refine lv_aload_n hx hb dX4_perform_42 rfl (lv_at hl 0 rfl) ?_
      obtain ⟨v3_0, v3_1, v3_2, v3_3, v3_4, v3_5, v3_6, hf3, t3_2, t3_6⟩ := op3 I t_o0
      refine cG C9 V t_o0.1 hf3 rfl tC_lay3 3 (by decide) tCf_X4_9 (Or.inl rfl) rfl dX4_perform_43 ?_
      replace hG := gLt_e hG (view_gI hf3 rfl)
      refine lv_aload_n hx hb dX4_perform_46 rfl (lv_at hl 1 rfl) ?_
      obtain ⟨v4_0, v4_1, v4_2, v4_3, v4_4, v4_5, v4_6, v4_7, v4_8, v4_9, v4_10, v4_11, v4_12, hf4, t4_7, t4_8, t4_11⟩ := op7 I t_o1
      refine cG C9 V t_o1.1 hf4 rfl tC_lay7 0 (by decide) tCf_X4_51 (Or.inl rfl) rfl dX4_perform_47 ?_
      replace hG := gLt_e hG (view_gI hf4 rfl)
      refine lv_icmp_eq (tgt := 61) hx hb dX4_perform_50 (by decide) (fun c5 => ?_) (fun c5 => ?_)
      · replace hG := gIf_p hG c5
        refine lv_aload_n hx hb dX4_perform_61 rfl (lv_at hl 2 rfl) ?_
        refine cZn (n := "UNLOCK") (i := 10) (by simp [wNx]) C9 h0 hS tCf_X4_57 dX4_perform_62 ?_
        refine lv_acmp_ne (rx := (some (κ.1 o2))) (ry := (some (κ.1 10))) (tgt := 96) hx hb dX4_perform_65 (by decide) (fun c6 => ?_) (fun c6 => ?_)
        · replace hG := gIf_n hG (wqn c6)
          refine lv_aload_n hx hb dX4_perform_96 rfl (lv_at hl 2 rfl) ?_
          refine cZn (n := "SIGNAL") (i := 12) (by simp [wNx]) C9 h0 hS tCf_X4_69 dX4_perform_97 ?_
          refine lv_acmp_eq (rx := (some (κ.1 o2))) (ry := (some (κ.1 12))) (tgt := 110) hx hb dX4_perform_100 (by decide) (fun c7 => ?_) (fun c7 => ?_)
          · replace hG := gIf_p hG (wq h0 t_o2 (by decide) c7)
            refine lv_aload_n hx hb dX4_perform_110 rfl (lv_at hl 1 rfl) ?_
            refine cGoV (cRunV (As := []) (rest := []) C9 hml hN hNs V I hS t_o1.1 hf4 rfl (c_X8_goOn l D ks τ L A N hN  ψ f o1 t_o1 ) gC_X4_60 okC_X8_goOn ⟨rfl, rfl, Nat.le_of_ble_eq_true rfl, Nat.le_of_ble_eq_true rfl⟩ hl.1 rfl (Nat.le_of_ble_eq_true rfl) dX4_perform_111 ⟨Nat.zero_le _, Nat.zero_le _⟩) hS (fun p9 f8 H locs hqf8 V I hS => ?_)
            obtain ⟨hqf8, ghqf8⟩ := hqf8
            replace hG := gLt_e hG (ghqf8)
            have I : cI ks τ L ψ f8 := by rw [show p9 = ψ from hqf8] at I; exact I
            refine lv_aload_n hx hb dX4_perform_114 rfl (lv_at hl 0 rfl) ?_
            refine lv_aload_n hx hb dX4_perform_115 rfl (lv_at hl 2 rfl) ?_
            refine cZn (n := "ALL") (i := 13) (by simp [wNx]) C9 h0 hS tCf_X4_72 dX4_perform_116 ?_
            refine lv_acmp_ne (rx := (some (κ.1 o2))) (ry := (some (κ.1 13))) (tgt := 132) hx hb dX4_perform_119 (by decide) (fun c11 => ?_) (fun c11 => ?_)
            · replace hG := gIf_n hG (wqn c11)
              refine lv_iconst (v := 1) hx hb dX4_perform_132 (by decide) ?_
              obtain ⟨v12_0, v12_1, v12_2, v12_3, v12_4, v12_5, v12_6, hf12, t12_2, t12_6⟩ := op3 I t_o0
              refine cGoV (cRunV (As := [.int 1]) (rest := []) C9 hml hN hNs V I hS t_o0.1 hf12 rfl (c_X4_callUp l D ks τ L A N hN  ψ f8 o0 1 t_o0 ) gC_X4_78 okC_X4_callUp ⟨rfl, rfl, Nat.le_of_ble_eq_true rfl, Nat.le_of_ble_eq_true rfl⟩ hl.1 rfl (Nat.le_of_ble_eq_true rfl) dX4_perform_133 ⟨Nat.zero_le _, Nat.zero_le _⟩) hS (fun p14 f13 H locs hqf13 V I hS => ?_)
              obtain ⟨hqf13, ghqf13⟩ := hqf13
              replace hG := gLt_e hG (ghqf13)
              have I : cI ks τ L ψ f13 := by rw [show p14 = ψ from hqf13] at I; exact I
              refine lv_goto (tgt := 167) hx hb dX4_perform_136 (by decide) ?_
              exact cRetV C9 hr hlk hN hNs V I hS (⟨rfl, hG.symm⟩) dX4_perform_167
            · replace hG := gIf_p hG (wq h0 t_o2 (by decide) c11)
              refine lv_aload_n hx hb dX4_perform_122 rfl (lv_at hl 0 rfl) ?_
              obtain ⟨v16_0, v16_1, v16_2, v16_3, v16_4, v16_5, v16_6, hf16, t16_2, t16_6⟩ := op3 I t_o0
              refine cG C9 V t_o0.1 hf16 rfl tC_lay3 6 (by decide) tCf_X4_20 (Or.inl rfl) rfl dX4_perform_123 ?_
              replace hG := gLt_e hG (view_gR hf16 rfl)
              obtain ⟨v17_0, v17_1, hf17, hn17, t17_1⟩ := op5 I t16_6
              refine cG C9 V t16_6.1 hf17 rfl tC_lay5 0 (by decide) tCf_X4_75 (Or.inl rfl) rfl dX4_perform_126 ?_
              replace hG := gLt_e hG (view_gI hf17 rfl)
              refine lv_goto (tgt := 133) hx hb dX4_perform_129 (by decide) ?_
              refine cGoV (cRunV (As := [.int v17_0]) (rest := []) C9 hml hN hNs V I hS t_o0.1 hf16 rfl (c_X4_callUp l D ks τ L A N hN  ψ f8 o0 v17_0 t_o0 ) gC_X4_78 okC_X4_callUp ⟨rfl, rfl, Nat.le_of_ble_eq_true rfl, Nat.le_of_ble_eq_true rfl⟩ hl.1 rfl (Nat.le_of_ble_eq_true rfl) dX4_perform_133 ⟨Nat.zero_le _, Nat.zero_le _⟩) hS (fun p19 f18 H locs hqf18 V I hS => ?_)
              obtain ⟨hqf18, ghqf18⟩ := hqf18
              replace hG := gLt_e hG (ghqf18)
              have I : cI ks τ L ψ f18 := by rw [show p19 = ψ from hqf18] at I; exact I
              refine lv_goto (tgt := 167) hx hb dX4_perform_136 (by decide) ?_
              exact cRetV C9 hr hlk hN hNs V I hS (⟨rfl, hG.symm⟩) dX4_perform_167
          · replace hG := gIf_n hG (wqn c7)
            refine lv_aload_n hx hb dX4_perform_103 rfl (lv_at hl 2 rfl) ?_
            refine cZn (n := "ALL") (i := 13) (by simp [wNx]) C9 h0 hS tCf_X4_72 dX4_perform_104 ?_
            refine lv_acmp_ne (rx := (some (κ.1 o2))) (ry := (some (κ.1 13))) (tgt := 139) hx hb dX4_perform_107 (by decide) (fun c21 => ?_) (fun c21 => ?_)
            · replace hG := gIf_n hG (wqn c21)
              refine lv_aload_n hx hb dX4_perform_139 rfl (lv_at hl 1 rfl) ?_
              refine cGoI (cRunV (As := []) (rest := []) C9 hml hN hNs V I hS t_o1.1 hf4 rfl (c_X8_refusesToWait l D ks τ L A N hN  ψ f o1 t_o1 ) gC_X4_81 okC_X8_refusesToWait ⟨rfl, rfl, Nat.le_of_ble_eq_true rfl, Nat.le_of_ble_eq_true rfl⟩ hl.1 rfl (Nat.le_of_ble_eq_true rfl) dX4_perform_140 ⟨Nat.zero_le _, Nat.zero_le _⟩) hS (fun r24 p23 f22 H locs hqf22 V I hS => ?_)
              obtain ⟨hqf22, ghqf22⟩ := hqf22
              replace hG := gC_e hG ghqf22
              have I : cI ks τ L ψ f22 := by rw [show p23 = ψ from hqf22] at I; exact I
              refine lv_if_ne (tgt := 167) hx hb dX4_perform_143 (by decide) (fun c25 => ?_) (fun c25 => ?_)
              · replace hG := gIf_n hG c25
                exact cRetV C9 hr hlk hN hNs V I hS (⟨rfl, hG.symm⟩) dX4_perform_167
              · replace hG := gIf_p hG c25
                refine lv_aload_n hx hb dX4_perform_146 rfl (lv_at hl 1 rfl) ?_
                refine lv_aload_n hx hb dX4_perform_147 rfl (lv_at hl 0 rfl) ?_
                obtain ⟨v26_0, v26_1, v26_2, v26_3, v26_4, v26_5, v26_6, hf26, t26_2, t26_6⟩ := op3 I t_o0
                refine cG C9 V t_o0.1 hf26 rfl tC_lay3 5 (by decide) tCf_X4_63 (Or.inl rfl) rfl dX4_perform_148 ?_
                replace hG := gLt_e hG (view_gI hf26 rfl)
                obtain ⟨v27_0, v27_1, v27_2, v27_3, v27_4, v27_5, v27_6, v27_7, v27_8, v27_9, v27_10, v27_11, v27_12, hf27, t27_7, t27_8, t27_11⟩ := op7 I t_o1
                refine cP (v := .int v26_5) (ty := .int) C9 V hS t_o1.1 hf27 rfl tC_lay7 tyX8 tyX8_ok nmX8 9 (by decide) tCf_X4_85 rfl rfl (by decide +kernel) rfl rfl (Nat.le_of_ble_eq_true rfl) dX4_perform_151 (fun f28 H locs ef28 V hS => ?_)
                replace hG := gLt_e hG (view_I hf27 rfl ef28)
                have hf29 : f28 o1 = .inr (7, [.int v27_0, .int v27_1, .int v27_2, .int v27_3, .int v27_4, .int v27_5, .long v27_6, va_rf v27_7, va_rf v27_8, .int v26_5, .int v27_10, .ref v27_11, .int v27_12]) := up_s ef28
                have I := cI_up I t_o1.2 ef28 (mk7 t27_7 t27_8 t27_11)
                have hf30 := up_n ef28 t_o1.2 t_o0.2 (by first | decide | omega) hf26
                refine lv_aload_n hx hb dX4_perform_154 rfl (lv_at hl 1 rfl) ?_
                refine lv_aload_n hx hb dX4_perform_155 rfl (lv_at hl 0 rfl) ?_
                refine cG C9 V t_o0.1 hf30 rfl tC_lay3 6 (by decide) tCf_X4_20 (Or.inl rfl) rfl dX4_perform_156 ?_
                replace hG := gLt_e hG (view_gR hf30 rfl)
                refine lv_aload_n hx hb dX4_perform_159 rfl (lv_at hl 0 rfl) ?_
                refine cGoV (cRunV (As := [.ref v26_6, .ref o0]) (rest := []) C9 hml hN hNs V I hS t_o1.1 hf29 rfl (c_X8_standIn l D ks τ L A N hN  ψ f28 o1 v26_6 o0 t_o1 t26_6 (tyS_of t_o0 (by decide)) ) gC_X4_88 okC_X8_standIn ⟨rfl, rfl, Nat.le_of_ble_eq_true rfl, Nat.le_of_ble_eq_true rfl⟩ hl.1 rfl (Nat.le_of_ble_eq_true rfl) dX4_perform_160 ⟨Nat.zero_le _, Nat.zero_le _⟩) hS (fun p32 f31 H locs hqf31 V I hS => ?_)
                obtain ⟨hqf31, ghqf31⟩ := hqf31
                replace hG := gLt_e hG (ghqf31)
                have I : cI ks τ L ψ f31 := by rw [show p32 = ψ from hqf31] at I; exact I
                refine lv_aload_n hx hb dX4_perform_163 rfl (lv_at hl 0 rfl) ?_
                obtain ⟨v34_0, v34_1, v34_2, v34_3, v34_4, v34_5, v34_6, hf34, t34_2, t34_6⟩ := op3 I t_o0
                refine cGoV (cRunV (As := []) (rest := []) C9 hml hN hNs V I hS t_o0.1 hf34 rfl (c_X4_free l D ks τ L A N hN  ψ f31 o0 t_o0 ) gC_X4_66 okC_X4_free ⟨rfl, rfl, Nat.le_of_ble_eq_true rfl, Nat.le_of_ble_eq_true rfl⟩ hl.1 rfl (Nat.le_of_ble_eq_true rfl) dX4_perform_164 ⟨Nat.zero_le _, Nat.zero_le _⟩) hS (fun p36 f35 H locs hqf35 V I hS => ?_)
                obtain ⟨hqf35, ghqf35⟩ := hqf35
                replace hG := gLt_e hG (ghqf35)
                have I : cI ks τ L ψ f35 := by rw [show p36 = ψ from hqf35] at I; exact I
                exact cRetV C9 hr hlk hN hNs V I hS (⟨rfl, hG.symm⟩) dX4_perform_167
            · replace hG := gIf_p hG (wq h0 t_o2 (by decide) c21)
              refine lv_aload_n hx hb dX4_perform_110 rfl (lv_at hl 1 rfl) ?_
              refine cGoV (cRunV (As := []) (rest := []) C9 hml hN hNs V I hS t_o1.1 hf4 rfl (c_X8_goOn l D ks τ L A N hN  ψ f o1 t_o1 ) gC_X4_60 okC_X8_goOn ⟨rfl, rfl, Nat.le_of_ble_eq_true rfl, Nat.le_of_ble_eq_true rfl⟩ hl.1 rfl (Nat.le_of_ble_eq_true rfl) dX4_perform_111 ⟨Nat.zero_le _, Nat.zero_le _⟩) hS (fun p39 f38 H locs hqf38 V I hS => ?_)
              obtain ⟨hqf38, ghqf38⟩ := hqf38
              replace hG := gLt_e hG (ghqf38)
              have I : cI ks τ L ψ f38 := by rw [show p39 = ψ from hqf38] at I; exact I
              refine lv_aload_n hx hb dX4_perform_114 rfl (lv_at hl 0 rfl) ?_
              refine lv_aload_n hx hb dX4_perform_115 rfl (lv_at hl 2 rfl) ?_
              refine cZn (n := "ALL") (i := 13) (by simp [wNx]) C9 h0 hS tCf_X4_72 dX4_perform_116 ?_
              refine lv_acmp_ne (rx := (some (κ.1 o2))) (ry := (some (κ.1 13))) (tgt := 132) hx hb dX4_perform_119 (by decide) (fun c41 => ?_) (fun c41 => ?_)
              · replace hG := gIf_n hG (wqn c41)
                refine lv_iconst (v := 1) hx hb dX4_perform_132 (by decide) ?_
                obtain ⟨v42_0, v42_1, v42_2, v42_3, v42_4, v42_5, v42_6, hf42, t42_2, t42_6⟩ := op3 I t_o0
                refine cGoV (cRunV (As := [.int 1]) (rest := []) C9 hml hN hNs V I hS t_o0.1 hf42 rfl (c_X4_callUp l D ks τ L A N hN  ψ f38 o0 1 t_o0 ) gC_X4_78 okC_X4_callUp ⟨rfl, rfl, Nat.le_of_ble_eq_true rfl, Nat.le_of_ble_eq_true rfl⟩ hl.1 rfl (Nat.le_of_ble_eq_true rfl) dX4_perform_133 ⟨Nat.zero_le _, Nat.zero_le _⟩) hS (fun p44 f43 H locs hqf43 V I hS => ?_)
                obtain ⟨hqf43, ghqf43⟩ := hqf43
                replace hG := gLt_e hG (ghqf43)
                have I : cI ks τ L ψ f43 := by rw [show p44 = ψ from hqf43] at I; exact I
                refine lv_goto (tgt := 167) hx hb dX4_perform_136 (by decide) ?_
                exact cRetV C9 hr hlk hN hNs V I hS (⟨rfl, hG.symm⟩) dX4_perform_167
              · replace hG := gIf_p hG (wq h0 t_o2 (by decide) c41)
                refine lv_aload_n hx hb dX4_perform_122 rfl (lv_at hl 0 rfl) ?_
                obtain ⟨v46_0, v46_1, v46_2, v46_3, v46_4, v46_5, v46_6, hf46, t46_2, t46_6⟩ := op3 I t_o0
                refine cG C9 V t_o0.1 hf46 rfl tC_lay3 6 (by decide) tCf_X4_20 (Or.inl rfl) rfl dX4_perform_123 ?_
                replace hG := gLt_e hG (view_gR hf46 rfl)
                obtain ⟨v47_0, v47_1, hf47, hn47, t47_1⟩ := op5 I t46_6
                refine cG C9 V t46_6.1 hf47 rfl tC_lay5 0 (by decide) tCf_X4_75 (Or.inl rfl) rfl dX4_perform_126 ?_
                replace hG := gLt_e hG (view_gI hf47 rfl)
                refine lv_goto (tgt := 133) hx hb dX4_perform_129 (by decide) ?_
                refine cGoV (cRunV (As := [.int v47_0]) (rest := []) C9 hml hN hNs V I hS t_o0.1 hf46 rfl (c_X4_callUp l D ks τ L A N hN  ψ f38 o0 v47_0 t_o0 ) gC_X4_78 okC_X4_callUp ⟨rfl, rfl, Nat.le_of_ble_eq_true rfl, Nat.le_of_ble_eq_true rfl⟩ hl.1 rfl (Nat.le_of_ble_eq_true rfl) dX4_perform_133 ⟨Nat.zero_le _, Nat.zero_le _⟩) hS (fun p49 f48 H locs hqf48 V I hS => ?_)
                obtain ⟨hqf48, ghqf48⟩ := hqf48
                replace hG := gLt_e hG (ghqf48)
                have I : cI ks τ L ψ f48 := by rw [show p49 = ψ from hqf48] at I; exact I
                refine lv_goto (tgt := 167) hx hb dX4_perform_136 (by decide) ?_
                exact cRetV C9 hr hlk hN hNs V I hS (⟨rfl, hG.symm⟩) dX4_perform_167
        · replace hG := gIf_p hG (wq h0 t_o2 (by decide) c6)
          refine lv_aload_n hx hb dX4_perform_68 rfl (lv_at hl 1 rfl) ?_
          refine cGoV (cRunV (As := []) (rest := []) C9 hml hN hNs V I hS t_o1.1 hf4 rfl (c_X8_goOn l D ks τ L A N hN  ψ f o1 t_o1 ) gC_X4_60 okC_X8_goOn ⟨rfl, rfl, Nat.le_of_ble_eq_true rfl, Nat.le_of_ble_eq_true rfl⟩ hl.1 rfl (Nat.le_of_ble_eq_true rfl) dX4_perform_69 ⟨Nat.zero_le _, Nat.zero_le _⟩) hS (fun p52 f51 H locs hqf51 V I hS => ?_)
          obtain ⟨hqf51, ghqf51⟩ := hqf51
          replace hG := gLt_e hG (ghqf51)
          have I : cI ks τ L ψ f51 := by rw [show p52 = ψ from hqf51] at I; exact I
          refine lv_aload_n hx hb dX4_perform_72 rfl (lv_at hl 0 rfl) ?_
          refine lv_dup hx hb dX4_perform_73 rfl ?_
          obtain ⟨v54_0, v54_1, v54_2, v54_3, v54_4, v54_5, v54_6, hf54, t54_2, t54_6⟩ := op3 I t_o0
          refine cG C9 V t_o0.1 hf54 rfl tC_lay3 5 (by decide) tCf_X4_63 (Or.inl rfl) rfl dX4_perform_74 ?_
          replace hG := gLt_e hG (view_gI hf54 rfl)
          refine lv_iconst (v := 1) hx hb dX4_perform_77 (by decide) ?_
          refine lv_isub hx hb dX4_perform_78 ?_
          refine lv_topi (fun x55 ex55 => ?_)
          replace hG := gLt_e hG ex55
          refine cP (v := .int x55) (ty := .int) C9 V hS t_o0.1 hf54 rfl tC_lay3 tyX4 tyX4_ok nmX4 5 (by decide) tCf_X4_63 rfl rfl (by decide +kernel) rfl rfl (Nat.le_of_ble_eq_true rfl) dX4_perform_79 (fun f56 H locs ef56 V hS => ?_)
          replace hG := gLt_e hG (view_I hf54 rfl ef56)
          have hf57 : f56 o0 = .inr (3, [.int v54_0, .int v54_1, .ref v54_2, .int v54_3, .int v54_4, .int x55, .ref v54_6]) := up_s ef56
          have I := cI_up I t_o0.2 ef56 (mk3 t54_2 t54_6)
          refine lv_aload_n hx hb dX4_perform_82 rfl (lv_at hl 0 rfl) ?_
          refine cG C9 V t_o0.1 hf57 rfl tC_lay3 5 (by decide) tCf_X4_63 (Or.inl rfl) rfl dX4_perform_83 ?_
          refine lv_if_ne (tgt := 167) hx hb dX4_perform_86 (by decide) (fun c58 => ?_) (fun c58 => ?_)
          · replace hG := gIf_n hG c58
            exact cRetV C9 hr hlk hN hNs V I hS (⟨rfl, hG.symm⟩) dX4_perform_167
          · replace hG := gIf_p hG c58
            refine lv_aload_n hx hb dX4_perform_89 rfl (lv_at hl 0 rfl) ?_
            refine cGoV (cRunV (As := []) (rest := []) C9 hml hN hNs V I hS t_o0.1 hf57 rfl (c_X4_free l D ks τ L A N hN  ψ f56 o0 t_o0 ) gC_X4_66 okC_X4_free ⟨rfl, rfl, Nat.le_of_ble_eq_true rfl, Nat.le_of_ble_eq_true rfl⟩ hl.1 rfl (Nat.le_of_ble_eq_true rfl) dX4_perform_90 ⟨Nat.zero_le _, Nat.zero_le _⟩) hS (fun p60 f59 H locs hqf59 V I hS => ?_)
            obtain ⟨hqf59, ghqf59⟩ := hqf59
            replace hG := gLt_e hG (ghqf59)
            have I : cI ks τ L ψ f59 := by rw [show p60 = ψ from hqf59] at I; exact I
            refine lv_goto (tgt := 167) hx hb dX4_perform_93 (by decide) ?_
            exact cRetV C9 hr hlk hN hNs V I hS (⟨rfl, hG.symm⟩) dX4_perform_167
      · replace hG := gIf_n hG c5
        refine lv_aload_n hx hb dX4_perform_53 rfl (lv_at hl 1 rfl) ?_
        refine lv_iconst (v := 1) hx hb dX4_perform_54 (by decide) ?_
        refine cGoV (cRunV (As := [.int 1]) (rest := []) C9 hml hN hNs V I hS t_o1.1 hf4 rfl (c_X8_fail l D ks τ L A N hN  ψ f o1 1 t_o1 ) gC_X4_54 okC_X8_fail ⟨rfl, rfl, Nat.le_of_ble_eq_true rfl, Nat.le_of_ble_eq_true rfl⟩ hl.1 rfl (Nat.le_of_ble_eq_true rfl) dX4_perform_55 ⟨Nat.zero_le _, Nat.zero_le _⟩) hS (fun p63 f62 H locs hqf62 V I hS => ?_)
        obtain ⟨hqf62, ghqf62⟩ := hqf62
        replace hG := gLt_e hG (ghqf62)
        have I : cI ks τ L ψ f62 := by rw [show p63 = ψ from hqf62] at I; exact I
        refine lv_goto (tgt := 167) hx hb dX4_perform_58 (by decide) ?_
        exact cRetV C9 hr hlk hN hNs V I hS (⟨rfl, hG.symm⟩) dX4_perform_167
    · replace hG := gIf_p hG (wq h0 t_o2 (by decide) c2)
      refine lv_aload_n hx hb dX4_perform_22 rfl (lv_at hl 1 rfl) ?_
      refine lv_aload_n hx hb dX4_perform_23 rfl (lv_at hl 0 rfl) ?_
      refine lv_aload_n hx hb dX4_perform_24 rfl (lv_at hl 1 rfl) ?_
      obtain ⟨v65_0, v65_1, v65_2, v65_3, v65_4, v65_5, v65_6, hf65, t65_2, t65_6⟩ := op3 I t_o0
      refine cGoI (cRunV (As := [.ref o1]) (rest := [.ref o1]) C9 hml hN hNs V I hS t_o0.1 hf65 rfl (c_X4_isGrabbed l D ks τ L A N hN  ψ f o0 o1 t_o0 t_o1 ) gC_X4_41 okC_X4_isGrabbed ⟨rfl, rfl, Nat.le_of_ble_eq_true rfl, Nat.le_of_ble_eq_true rfl⟩ hl.1 rfl (Nat.le_of_ble_eq_true rfl) dX4_perform_25 ⟨Nat.zero_le _, Nat.zero_le _⟩) hS (fun r68 p67 f66 H locs hqf66 V I hS => ?_)
      obtain ⟨hqf66, ghqf66⟩ := hqf66
      replace hG := gC_e hG ghqf66
      have I : cI ks τ L ψ f66 := by rw [show p67 = ψ from hqf66] at I; exact I
      refine lv_if_eq (tgt := 35) hx hb dX4_perform_28 (by decide) (fun c69 => ?_) (fun c69 => ?_)
      · replace hG := gIf_p hG c69
        refine lv_iconst (v := 0) hx hb dX4_perform_35 (by decide) ?_
        obtain ⟨v70_0, v70_1, v70_2, v70_3, v70_4, v70_5, v70_6, v70_7, v70_8, v70_9, v70_10, v70_11, v70_12, hf70, t70_7, t70_8, t70_11⟩ := op7 I t_o1
        refine cGoV (cRunV (As := [.int 0]) (rest := []) C9 hml hN hNs V I hS t_o1.1 hf70 rfl (c_X8_goOnWith l D ks τ L A N hN  ψ f66 o1 0 t_o1 ) gC_X4_45 okC_X8_goOnWith ⟨rfl, rfl, Nat.le_of_ble_eq_true rfl, Nat.le_of_ble_eq_true rfl⟩ hl.1 rfl (Nat.le_of_ble_eq_true rfl) dX4_perform_36 ⟨Nat.zero_le _, Nat.zero_le _⟩) hS (fun p72 f71 H locs hqf71 V I hS => ?_)
        obtain ⟨hqf71, ghqf71⟩ := hqf71
        replace hG := gLt_e hG (ghqf71)
        have I : cI ks τ L ψ f71 := by rw [show p72 = ψ from hqf71] at I; exact I
        refine lv_goto (tgt := 167) hx hb dX4_perform_39 (by decide) ?_
        exact cRetV C9 hr hlk hN hNs V I hS (⟨rfl, hG.symm⟩) dX4_perform_167
      · replace hG := gIf_n hG c69
        refine lv_iconst (v := 1) hx hb dX4_perform_31 (by decide) ?_
        refine lv_goto (tgt := 36) hx hb dX4_perform_32 (by decide) ?_
        obtain ⟨v74_0, v74_1, v74_2, v74_3, v74_4, v74_5, v74_6, v74_7, v74_8, v74_9, v74_10, v74_11, v74_12, hf74, t74_7, t74_8, t74_11⟩ := op7 I t_o1
        refine cGoV (cRunV (As := [.int 1]) (rest := []) C9 hml hN hNs V I hS t_o1.1 hf74 rfl (c_X8_goOnWith l D ks τ L A N hN  ψ f66 o1 1 t_o1 ) gC_X4_45 okC_X8_goOnWith ⟨rfl, rfl, Nat.le_of_ble_eq_true rfl, Nat.le_of_ble_eq_true rfl⟩ hl.1 rfl (Nat.le_of_ble_eq_true rfl) dX4_perform_36 ⟨Nat.zero_le _, Nat.zero_le _⟩) hS (fun p76 f75 H locs hqf75 V I hS => ?_)
        obtain ⟨hqf75, ghqf75⟩ := hqf75
        replace hG := gLt_e hG (ghqf75)
        have I : cI ks τ L ψ f75 := by rw [show p76 = ψ from hqf75] at I; exact I
        refine lv_goto (tgt := 167) hx hb dX4_perform_39 (by decide) ?_
        exact cRetV C9 hr hlk hN hNs V I hS (⟨rfl, hG.symm⟩) dX4_perform_167
  · replace hG := gIf_p hG (wq h0 t_o2 (by decide) c1)
    refine lv_aload_n hx hb dX4_perform_7 rfl (lv_at hl 0 rfl) ?_
    refine lv_aload_n hx hb dX4_perform_8 rfl (lv_at hl 1 rfl) ?_
    obtain ⟨v78_0, v78_1, v78_2, v78_3, v78_4, v78_5, v78_6, hf78, t78_2, t78_6⟩ := op3 I t_o0
    refine cGoV (cRunV (As := [.ref o1]) (rest := []) C9 hml hN hNs V I hS t_o0.1 hf78 rfl (c_X4_grabOrStandIn l D ks τ L A N hN  ψ f o0 o1 t_o0 t_o1 ) gC_X4_34 okC_X4_grabOrStandIn ⟨rfl, rfl, Nat.le_of_ble_eq_true rfl, Nat.le_of_ble_eq_true rfl⟩ hl.1 rfl (Nat.le_of_ble_eq_true rfl) dX4_perform_9 ⟨Nat.zero_le _, Nat.zero_le _⟩) hS (fun p80 f79 H locs hqf79 V I hS => ?_)
    obtain ⟨hqf79, ghqf79⟩ := hqf79
    replace hG := gLt_e hG (ghqf79)
    have I : cI ks τ L ψ f79 := by rw [show p80 = ψ from hqf79] at I; exact I
    refine lv_goto (tgt := 167) hx hb dX4_perform_12 (by decide) ?_
    exact cRetV C9 hr hlk hN hNs V I hS (⟨rfl, hG.symm⟩) dX4_perform_167
def FC_X12_doAlone (X : xS) (o0 : Nat) (o1 : Nat) (o2 : Nat) : xS := gC (FC_X8_operand X o1 0) (fun r4 Xf2 => gLt (FC_Jx29ce0_ordinal_8abf5 Xf2 o2 : Int32) (fun r8 => gLt (swM.getD (Int32.toNatClampNeg r8) 0 : Int32) (fun x9 => if tabT 14 (140) (1) (7) [42, 50, 63, 75, 83, 107, 131] x9 = 154 then (gLt (xwI Xf2 o1 1 4 : xS) (fun Xf12 => Xf12)) else (if tabT 14 (140) (1) (7) [42, 50, 63, 75, 83, 107, 131] x9 = 56 then (gLt (FC_X8_goOnWith Xf2 o1 r4 : xS) (fun Xf15 => Xf15)) else (if tabT 14 (140) (1) (7) [42, 50, 63, 75, 83, 107, 131] x9 = 64 then (gLt (xI Xf2 o1 2 : Int32) (fun v18_2 => gLt (FC_X8_goOnWith Xf2 o1 (v18_2 + r4) : xS) (fun Xf19 => Xf19))) else (if tabT 14 (140) (1) (7) [42, 50, 63, 75, 83, 107, 131] x9 = 77 then (gLt (xJ Xf2 o0 3 : Int64) (fun v22_3 => gLt (FC_X8_goOnWith Xf2 o1 (Int64.toInt32 v22_3) : xS) (fun Xf24 => Xf24))) else (if tabT 14 (140) (1) (7) [42, 50, 63, 75, 83, 107, 131] x9 = 89 then (gLt (FC_X8_goTo Xf2 o1 r4 : xS) (fun Xf28 => Xf28)) else (if tabT 14 (140) (1) (7) [42, 50, 63, 75, 83, 107, 131] x9 = 97 then (gLt (xI Xf2 o1 2 : Int32) (fun v31_2 => if (v31_2 : Int32) = 0 then (gLt (FC_X8_goTo Xf2 o1 r4 : xS) (fun Xf36 => Xf36)) else (gLt (xI Xf2 o1 3 : Int32) (fun v31_3 => gLt (FC_X8_goTo Xf2 o1 (v31_3 + 1) : xS) (fun Xf33 => Xf33))))) else (if tabT 14 (140) (1) (7) [42, 50, 63, 75, 83, 107, 131] x9 = 121 then (gLt (xI Xf2 o1 2 : Int32) (fun v39_2 => if 0 ≤ (v39_2 : Int32) then (gLt (xI Xf2 o1 3 : Int32) (fun v39_3 => gLt (FC_X8_goTo Xf2 o1 (v39_3 + 1) : xS) (fun Xf41 => Xf41))) else (gLt (FC_X8_goTo Xf2 o1 r4 : xS) (fun Xf44 => Xf44)))) else (gLt (FC_X12_fallAsleep Xf2 o0 o1 r4 : xS) (fun Xf48 => Xf48)))))))))))
set_option maxHeartbeats 200000 in
set_option maxRecDepth 100000 in
theorem c_X12_doAlone (l : Launch) (D : va_G) (ks : kS) (τ : Nat → Nat) (L : List Nat) (A : Nat → Prop) (N : State → Prop) (hN : cNk A N) (κ : kC) (hN0 : ∀ U, N U → N0 κ A U) (ψ : Int32) (f : Nat → va_E) (o0 : Nat) (o1 : Nat) (o2 : Nat) (t_o0 : ty τ L o0 9) (t_o1 : ty τ L o1 7) (t_o2 : o2 < 34) : Met l yX12_doAlone (Cond.code yX12_doAlone cX12_doAlone 4 none :: tC) ({ frames := 4, cells := 0, slots := 0, locals := 85 }) (va_Pc [.ref o0, .ref o1, .ref (κ.1 o2)] (cB D ks τ L A N (ψ, f))) (va_Qv (fun x9 => (x9.1 = ψ) ∧ view x9.2 = FC_X12_doAlone (view f) o0 o1 o2) (cB D ks τ L A N) A) 0 0 A := by
  refine cMet (own := RX12) (by decide) rfl (Nat.le_of_ble_eq_true rfl) ?_
  intro p e s m below meth c ls C9 hml hr hlk V I hNs hl
  have hx := C9.1
  have hb := C9.2.1
  have hown := C9.2.2.1
  have hts := C9.2.2.2.1
  have h0 := hN0 s hNs
  have hS : va_S A s.heap s.heap [] := va_S.rf
  have hG := FC_X12_doAlone.eq_1 (view f) o0 o1 o2
  have hl : lv_has ls 4 [(0, .ref o0), (1, .ref o1), (2, .ref (κ.1 o2))] := hl
  refine lv_aload_n hx hb dX12_doAlone_0 rfl (lv_at hl 1 rfl) ?_
  refine lv_iconst (v := 0) hx hb dX12_doAlone_1 (by decide) ?_
  obtain ⟨v1_0, v1_1, v1_2, v1_3, v1_4, v1_5, v1_6, v1_7, v1_8, v1_9, v1_10, v1_11, v1_12, hf1, t1_7, t1_8, t1_11⟩ := op7 I t_o1
  refine cGoI (cRunV (As := [.int 0]) (rest := []) C9 hml hN hNs V I hS t_o1.1 hf1 rfl (c_X8_operand l D ks τ L A N hN  ψ f o1 0 t_o1 ) gC_X12_253 okC_X8_operand ⟨rfl, rfl, Nat.le_of_ble_eq_true rfl, Nat.le_of_ble_eq_true rfl⟩ hl.1 rfl (Nat.le_of_ble_eq_true rfl) dX12_doAlone_2 ⟨Nat.zero_le _, Nat.zero_le _⟩) hS (fun r4 p3 f2 H locs hqf2 V I hS => ?_)
  obtain ⟨hqf2, ghqf2⟩ := hqf2
  replace hG := gC_e hG ghqf2
  have I : cI ks τ L ψ f2 := by rw [show p3 = ψ from hqf2] at I; exact I
  refine lv_istore_n (lv' := [(3, .int r4), (0, .ref o0), (1, .ref o1), (2, .ref (κ.1 o2))]) hx hb dX12_doAlone_5 rfl hl (by decide) rfl (fun ls hl => ?_)
  refine cZs C9 h0 hS tCf_X12_262 dX12_doAlone_6 (fun y5 hy5 => ?_)
  refine lv_aload_n hx hb dX12_doAlone_9 rfl (lv_at hl 3 rfl) ?_
  refine cGoI (cRunU (As := []) (rest := [.ref y5]) C9 hml hN hNs V I hS (isW_r h0 hS t_o2) (c_Jx29ce0_ordinal_8abf5 l D ks τ L A N hN κ hN0 ψ f2 o2 t_o2 ) (va_cwU 0 hts gU_X12_267_X11 rfl rfl rfl rfl okU_X12_267 ⟨Nat.le_of_ble_eq_true rfl, Nat.le_of_ble_eq_true rfl⟩) hl.1 rfl (Nat.le_of_ble_eq_true rfl) dX12_doAlone_10 ⟨Nat.zero_le _, Nat.zero_le _⟩) hS (fun r8 p7 f6 H locs hqf6 V I hS => ?_)
  obtain ⟨hqf6, ghqf6⟩ := hqf6
  replace hG := gLt_e hG ghqf6
  have V : cV D L f2 A H := by rw [show f6 = f2 from congrArg Prod.snd hqf6.1] at V; exact V
  have I : cI ks τ L ψ f2 := by rw [show f6 = f2 from congrArg Prod.snd hqf6.1, show p7 = ψ from congrArg Prod.fst hqf6.1] at I; exact I
  refine cLs C9 hy5 hS (cvin (N := 34) rfl (hqf6.2.1) (hqf6.2.2)) dX12_doAlone_13 (fun x9 ex9 => ?_)
  replace hG := gLt_e hG (ex9)
  refine cTabG hx hb [154, 56, 64, 77, 89, 97, 121, 145] dX12_doAlone_14 rfl (by decide) ?_
  intro t9 hm10 hThm10
  rcases List.mem_cons.mp hm10 with rfl | hm10
  · replace hG := gIf_p hG hThm10
    refine lv_aload_n hx hb dX12_doAlone_154 rfl (lv_at hl 2 rfl) ?_
    refine lv_iconst (v := 4) hx hb dX12_doAlone_155 (by decide) ?_
    obtain ⟨v11_0, v11_1, v11_2, v11_3, v11_4, v11_5, v11_6, v11_7, v11_8, v11_9, v11_10, v11_11, v11_12, hf11, t11_7, t11_8, t11_11⟩ := op7 I t_o1
    refine cP (v := .int 4) (ty := .int) C9 V hS t_o1.1 hf11 rfl tC_lay7 tyX8 tyX8_ok nmX8 1 (by decide) tCf_X12_112 rfl rfl (by decide +kernel) rfl rfl (Nat.le_of_ble_eq_true rfl) dX12_doAlone_156 (fun f12 H locs ef12 V hS => ?_)
    replace hG := gLt_e hG (view_I hf11 rfl ef12)
    have hf13 : f12 o1 = .inr (7, [.int v11_0, .int 4, .int v11_2, .int v11_3, .int v11_4, .int v11_5, .long v11_6, va_rf v11_7, va_rf v11_8, .int v11_9, .int v11_10, .ref v11_11, .int v11_12]) := up_s ef12
    have I := cI_up I t_o1.2 ef12 (mk7 t11_7 t11_8 t11_11)
    exact cRetV C9 hr hlk hN hNs V I hS (⟨rfl, hG.symm⟩) dX12_doAlone_159
  rcases List.mem_cons.mp hm10 with rfl | hm10
  · replace hG := gIf_n hG (fun z9 => absurd (hThm10.symm.trans z9) (by decide))
    replace hG := gIf_p hG hThm10
    refine lv_aload_n hx hb dX12_doAlone_56 rfl (lv_at hl 2 rfl) ?_
    refine lv_iload_n hx hb dX12_doAlone_57 rfl (lv_at hl 0 rfl) ?_
    obtain ⟨v14_0, v14_1, v14_2, v14_3, v14_4, v14_5, v14_6, v14_7, v14_8, v14_9, v14_10, v14_11, v14_12, hf14, t14_7, t14_8, t14_11⟩ := op7 I t_o1
    refine cGoV (cRunV (As := [.int r4]) (rest := []) C9 hml hN hNs V I hS t_o1.1 hf14 rfl (c_X8_goOnWith l D ks τ L A N hN  ψ f2 o1 r4 t_o1 ) gC_X12_155 okC_X8_goOnWith ⟨rfl, rfl, Nat.le_of_ble_eq_true rfl, Nat.le_of_ble_eq_true rfl⟩ hl.1 rfl (Nat.le_of_ble_eq_true rfl) dX12_doAlone_58 ⟨Nat.zero_le _, Nat.zero_le _⟩) hS (fun p16 f15 H locs hqf15 V I hS => ?_)
    obtain ⟨hqf15, ghqf15⟩ := hqf15
    replace hG := gLt_e hG (ghqf15)
    have I : cI ks τ L ψ f15 := by rw [show p16 = ψ from hqf15] at I; exact I
    refine lv_goto (tgt := 159) hx hb dX12_doAlone_61 (by decide) ?_
    exact cRetV C9 hr hlk hN hNs V I hS (⟨rfl, hG.symm⟩) dX12_doAlone_159
  rcases List.mem_cons.mp hm10 with rfl | hm10
  · replace hG := gIf_n hG (fun z9 => absurd (hThm10.symm.trans z9) (by decide))
    replace hG := gIf_n hG (fun z9 => absurd (hThm10.symm.trans z9) (by decide))
    replace hG := gIf_p hG hThm10
    refine lv_aload_n hx hb dX12_doAlone_64 rfl (lv_at hl 2 rfl) ?_
    refine lv_aload_n hx hb dX12_doAlone_65 rfl (lv_at hl 2 rfl) ?_
    obtain ⟨v18_0, v18_1, v18_2, v18_3, v18_4, v18_5, v18_6, v18_7, v18_8, v18_9, v18_10, v18_11, v18_12, hf18, t18_7, t18_8, t18_11⟩ := op7 I t_o1
    refine cG C9 V t_o1.1 hf18 rfl tC_lay7 2 (by decide) tCf_X12_160 (Or.inl rfl) rfl dX12_doAlone_66 ?_
    replace hG := gLt_e hG (view_gI hf18 rfl)
    refine lv_iload_n hx hb dX12_doAlone_69 rfl (lv_at hl 0 rfl) ?_
    refine lv_iadd hx hb dX12_doAlone_70 ?_
    refine cGoV (cRunV (As := [.int (v18_2 + r4)]) (rest := []) C9 hml hN hNs V I hS t_o1.1 hf18 rfl (c_X8_goOnWith l D ks τ L A N hN  ψ f2 o1 (v18_2 + r4) t_o1 ) gC_X12_155 okC_X8_goOnWith ⟨rfl, rfl, Nat.le_of_ble_eq_true rfl, Nat.le_of_ble_eq_true rfl⟩ hl.1 rfl (Nat.le_of_ble_eq_true rfl) dX12_doAlone_71 ⟨Nat.zero_le _, Nat.zero_le _⟩) hS (fun p20 f19 H locs hqf19 V I hS => ?_)
    obtain ⟨hqf19, ghqf19⟩ := hqf19
    replace hG := gLt_e hG (ghqf19)
    have I : cI ks τ L ψ f19 := by rw [show p20 = ψ from hqf19] at I; exact I
    refine lv_goto (tgt := 159) hx hb dX12_doAlone_74 (by decide) ?_
    exact cRetV C9 hr hlk hN hNs V I hS (⟨rfl, hG.symm⟩) dX12_doAlone_159
  rcases List.mem_cons.mp hm10 with rfl | hm10
  · replace hG := gIf_n hG (fun z9 => absurd (hThm10.symm.trans z9) (by decide))
    replace hG := gIf_n hG (fun z9 => absurd (hThm10.symm.trans z9) (by decide))
    replace hG := gIf_n hG (fun z9 => absurd (hThm10.symm.trans z9) (by decide))
    replace hG := gIf_p hG hThm10
    refine lv_aload_n hx hb dX12_doAlone_77 rfl (lv_at hl 2 rfl) ?_
    refine lv_aload_n hx hb dX12_doAlone_78 rfl (lv_at hl 1 rfl) ?_
    obtain ⟨v22_0, v22_1, v22_2, v22_3, v22_4, v22_5, hf22, t22_0, t22_1, t22_2⟩ := op9 I t_o0
    refine cG C9 V t_o0.1 hf22 rfl tC_lay9 3 (by decide) tCf_X12_129 (Or.inl rfl) rfl dX12_doAlone_79 ?_
    replace hG := gLt_e hG (view_gJ hf22 rfl)
    refine lv_l2i hx hb dX12_doAlone_82 rfl ?_
    obtain ⟨v23_0, v23_1, v23_2, v23_3, v23_4, v23_5, v23_6, v23_7, v23_8, v23_9, v23_10, v23_11, v23_12, hf23, t23_7, t23_8, t23_11⟩ := op7 I t_o1
    refine cGoV (cRunV (As := [.int (Int64.toInt32 v22_3)]) (rest := []) C9 hml hN hNs V I hS t_o1.1 hf23 rfl (c_X8_goOnWith l D ks τ L A N hN  ψ f2 o1 (Int64.toInt32 v22_3) t_o1 ) gC_X12_155 okC_X8_goOnWith ⟨rfl, rfl, Nat.le_of_ble_eq_true rfl, Nat.le_of_ble_eq_true rfl⟩ hl.1 rfl (Nat.le_of_ble_eq_true rfl) dX12_doAlone_83 ⟨Nat.zero_le _, Nat.zero_le _⟩) hS (fun p25 f24 H locs hqf24 V I hS => ?_)
    obtain ⟨hqf24, ghqf24⟩ := hqf24
    replace hG := gLt_e hG (ghqf24)
    have I : cI ks τ L ψ f24 := by rw [show p25 = ψ from hqf24] at I; exact I
    refine lv_goto (tgt := 159) hx hb dX12_doAlone_86 (by decide) ?_
    exact cRetV C9 hr hlk hN hNs V I hS (⟨rfl, hG.symm⟩) dX12_doAlone_159
  rcases List.mem_cons.mp hm10 with rfl | hm10
  · replace hG := gIf_n hG (fun z9 => absurd (hThm10.symm.trans z9) (by decide))
    replace hG := gIf_n hG (fun z9 => absurd (hThm10.symm.trans z9) (by decide))
    replace hG := gIf_n hG (fun z9 => absurd (hThm10.symm.trans z9) (by decide))
    replace hG := gIf_n hG (fun z9 => absurd (hThm10.symm.trans z9) (by decide))
    replace hG := gIf_p hG hThm10
    refine lv_aload_n hx hb dX12_doAlone_89 rfl (lv_at hl 2 rfl) ?_
    refine lv_iload_n hx hb dX12_doAlone_90 rfl (lv_at hl 0 rfl) ?_
    obtain ⟨v27_0, v27_1, v27_2, v27_3, v27_4, v27_5, v27_6, v27_7, v27_8, v27_9, v27_10, v27_11, v27_12, hf27, t27_7, t27_8, t27_11⟩ := op7 I t_o1
    refine cGoV (cRunV (As := [.int r4]) (rest := []) C9 hml hN hNs V I hS t_o1.1 hf27 rfl (c_X8_goTo l D ks τ L A N hN  ψ f2 o1 r4 t_o1 ) gC_X12_270 okC_X8_goTo ⟨rfl, rfl, Nat.le_of_ble_eq_true rfl, Nat.le_of_ble_eq_true rfl⟩ hl.1 rfl (Nat.le_of_ble_eq_true rfl) dX12_doAlone_91 ⟨Nat.zero_le _, Nat.zero_le _⟩) hS (fun p29 f28 H locs hqf28 V I hS => ?_)
    obtain ⟨hqf28, ghqf28⟩ := hqf28
    replace hG := gLt_e hG (ghqf28)
    have I : cI ks τ L ψ f28 := by rw [show p29 = ψ from hqf28] at I; exact I
    refine lv_goto (tgt := 159) hx hb dX12_doAlone_94 (by decide) ?_
    exact cRetV C9 hr hlk hN hNs V I hS (⟨rfl, hG.symm⟩) dX12_doAlone_159
  rcases List.mem_cons.mp hm10 with rfl | hm10
  · replace hG := gIf_n hG (fun z9 => absurd (hThm10.symm.trans z9) (by decide))
    replace hG := gIf_n hG (fun z9 => absurd (hThm10.symm.trans z9) (by decide))
    replace hG := gIf_n hG (fun z9 => absurd (hThm10.symm.trans z9) (by decide))
    replace hG := gIf_n hG (fun z9 => absurd (hThm10.symm.trans z9) (by decide))
    replace hG := gIf_n hG (fun z9 => absurd (hThm10.symm.trans z9) (by decide))
    replace hG := gIf_p hG hThm10
    refine lv_aload_n hx hb dX12_doAlone_97 rfl (lv_at hl 2 rfl) ?_
    refine lv_aload_n hx hb dX12_doAlone_98 rfl (lv_at hl 2 rfl) ?_
    obtain ⟨v31_0, v31_1, v31_2, v31_3, v31_4, v31_5, v31_6, v31_7, v31_8, v31_9, v31_10, v31_11, v31_12, hf31, t31_7, t31_8, t31_11⟩ := op7 I t_o1
    refine cG C9 V t_o1.1 hf31 rfl tC_lay7 2 (by decide) tCf_X12_160 (Or.inl rfl) rfl dX12_doAlone_99 ?_
    replace hG := gLt_e hG (view_gI hf31 rfl)
    refine lv_if_ne (tgt := 109) hx hb dX12_doAlone_102 (by decide) (fun c32 => ?_) (fun c32 => ?_)
    · replace hG := gIf_n hG c32
      refine lv_aload_n hx hb dX12_doAlone_109 rfl (lv_at hl 2 rfl) ?_
      refine cG C9 V t_o1.1 hf31 rfl tC_lay7 3 (by decide) tCf_X12_163 (Or.inl rfl) rfl dX12_doAlone_110 ?_
      replace hG := gLt_e hG (view_gI hf31 rfl)
      refine lv_iconst (v := 1) hx hb dX12_doAlone_113 (by decide) ?_
      refine lv_iadd hx hb dX12_doAlone_114 ?_
      refine cGoV (cRunV (As := [.int (v31_3 + 1)]) (rest := []) C9 hml hN hNs V I hS t_o1.1 hf31 rfl (c_X8_goTo l D ks τ L A N hN  ψ f2 o1 (v31_3 + 1) t_o1 ) gC_X12_270 okC_X8_goTo ⟨rfl, rfl, Nat.le_of_ble_eq_true rfl, Nat.le_of_ble_eq_true rfl⟩ hl.1 rfl (Nat.le_of_ble_eq_true rfl) dX12_doAlone_115 ⟨Nat.zero_le _, Nat.zero_le _⟩) hS (fun p34 f33 H locs hqf33 V I hS => ?_)
      obtain ⟨hqf33, ghqf33⟩ := hqf33
      replace hG := gLt_e hG (ghqf33)
      have I : cI ks τ L ψ f33 := by rw [show p34 = ψ from hqf33] at I; exact I
      refine lv_goto (tgt := 159) hx hb dX12_doAlone_118 (by decide) ?_
      exact cRetV C9 hr hlk hN hNs V I hS (⟨rfl, hG.symm⟩) dX12_doAlone_159
    · replace hG := gIf_p hG c32
      refine lv_iload_n hx hb dX12_doAlone_105 rfl (lv_at hl 0 rfl) ?_
      refine lv_goto (tgt := 115) hx hb dX12_doAlone_106 (by decide) ?_
      refine cGoV (cRunV (As := [.int r4]) (rest := []) C9 hml hN hNs V I hS t_o1.1 hf31 rfl (c_X8_goTo l D ks τ L A N hN  ψ f2 o1 r4 t_o1 ) gC_X12_270 okC_X8_goTo ⟨rfl, rfl, Nat.le_of_ble_eq_true rfl, Nat.le_of_ble_eq_true rfl⟩ hl.1 rfl (Nat.le_of_ble_eq_true rfl) dX12_doAlone_115 ⟨Nat.zero_le _, Nat.zero_le _⟩) hS (fun p37 f36 H locs hqf36 V I hS => ?_)
      obtain ⟨hqf36, ghqf36⟩ := hqf36
      replace hG := gLt_e hG (ghqf36)
      have I : cI ks τ L ψ f36 := by rw [show p37 = ψ from hqf36] at I; exact I
      refine lv_goto (tgt := 159) hx hb dX12_doAlone_118 (by decide) ?_
      exact cRetV C9 hr hlk hN hNs V I hS (⟨rfl, hG.symm⟩) dX12_doAlone_159
  rcases List.mem_cons.mp hm10 with rfl | hm10
  · replace hG := gIf_n hG (fun z9 => absurd (hThm10.symm.trans z9) (by decide))
    replace hG := gIf_n hG (fun z9 => absurd (hThm10.symm.trans z9) (by decide))
    replace hG := gIf_n hG (fun z9 => absurd (hThm10.symm.trans z9) (by decide))
    replace hG := gIf_n hG (fun z9 => absurd (hThm10.symm.trans z9) (by decide))
    replace hG := gIf_n hG (fun z9 => absurd (hThm10.symm.trans z9) (by decide))
    replace hG := gIf_n hG (fun z9 => absurd (hThm10.symm.trans z9) (by decide))
    replace hG := gIf_p hG hThm10
    refine lv_aload_n hx hb dX12_doAlone_121 rfl (lv_at hl 2 rfl) ?_
    refine lv_aload_n hx hb dX12_doAlone_122 rfl (lv_at hl 2 rfl) ?_
    obtain ⟨v39_0, v39_1, v39_2, v39_3, v39_4, v39_5, v39_6, v39_7, v39_8, v39_9, v39_10, v39_11, v39_12, hf39, t39_7, t39_8, t39_11⟩ := op7 I t_o1
    refine cG C9 V t_o1.1 hf39 rfl tC_lay7 2 (by decide) tCf_X12_160 (Or.inl rfl) rfl dX12_doAlone_123 ?_
    replace hG := gLt_e hG (view_gI hf39 rfl)
    refine lv_if_ge (tgt := 133) hx hb dX12_doAlone_126 (by decide) (fun c40 => ?_) (fun c40 => ?_)
    · replace hG := gIf_p hG c40
      refine lv_aload_n hx hb dX12_doAlone_133 rfl (lv_at hl 2 rfl) ?_
      refine cG C9 V t_o1.1 hf39 rfl tC_lay7 3 (by decide) tCf_X12_163 (Or.inl rfl) rfl dX12_doAlone_134 ?_
      replace hG := gLt_e hG (view_gI hf39 rfl)
      refine lv_iconst (v := 1) hx hb dX12_doAlone_137 (by decide) ?_
      refine lv_iadd hx hb dX12_doAlone_138 ?_
      refine cGoV (cRunV (As := [.int (v39_3 + 1)]) (rest := []) C9 hml hN hNs V I hS t_o1.1 hf39 rfl (c_X8_goTo l D ks τ L A N hN  ψ f2 o1 (v39_3 + 1) t_o1 ) gC_X12_270 okC_X8_goTo ⟨rfl, rfl, Nat.le_of_ble_eq_true rfl, Nat.le_of_ble_eq_true rfl⟩ hl.1 rfl (Nat.le_of_ble_eq_true rfl) dX12_doAlone_139 ⟨Nat.zero_le _, Nat.zero_le _⟩) hS (fun p42 f41 H locs hqf41 V I hS => ?_)
      obtain ⟨hqf41, ghqf41⟩ := hqf41
      replace hG := gLt_e hG (ghqf41)
      have I : cI ks τ L ψ f41 := by rw [show p42 = ψ from hqf41] at I; exact I
      refine lv_goto (tgt := 159) hx hb dX12_doAlone_142 (by decide) ?_
      exact cRetV C9 hr hlk hN hNs V I hS (⟨rfl, hG.symm⟩) dX12_doAlone_159
    · replace hG := gIf_n hG c40
      refine lv_iload_n hx hb dX12_doAlone_129 rfl (lv_at hl 0 rfl) ?_
      refine lv_goto (tgt := 139) hx hb dX12_doAlone_130 (by decide) ?_
      refine cGoV (cRunV (As := [.int r4]) (rest := []) C9 hml hN hNs V I hS t_o1.1 hf39 rfl (c_X8_goTo l D ks τ L A N hN  ψ f2 o1 r4 t_o1 ) gC_X12_270 okC_X8_goTo ⟨rfl, rfl, Nat.le_of_ble_eq_true rfl, Nat.le_of_ble_eq_true rfl⟩ hl.1 rfl (Nat.le_of_ble_eq_true rfl) dX12_doAlone_139 ⟨Nat.zero_le _, Nat.zero_le _⟩) hS (fun p45 f44 H locs hqf44 V I hS => ?_)
      obtain ⟨hqf44, ghqf44⟩ := hqf44
      replace hG := gLt_e hG (ghqf44)
      have I : cI ks τ L ψ f44 := by rw [show p45 = ψ from hqf44] at I; exact I
      refine lv_goto (tgt := 159) hx hb dX12_doAlone_142 (by decide) ?_
      exact cRetV C9 hr hlk hN hNs V I hS (⟨rfl, hG.symm⟩) dX12_doAlone_159
  rcases List.mem_cons.mp hm10 with rfl | hm10
  · replace hG := gIf_n hG (fun z9 => absurd (hThm10.symm.trans z9) (by decide))
    replace hG := gIf_n hG (fun z9 => absurd (hThm10.symm.trans z9) (by decide))
    replace hG := gIf_n hG (fun z9 => absurd (hThm10.symm.trans z9) (by decide))
    replace hG := gIf_n hG (fun z9 => absurd (hThm10.symm.trans z9) (by decide))
    replace hG := gIf_n hG (fun z9 => absurd (hThm10.symm.trans z9) (by decide))
    replace hG := gIf_n hG (fun z9 => absurd (hThm10.symm.trans z9) (by decide))
    replace hG := gIf_n hG (fun z9 => absurd (hThm10.symm.trans z9) (by decide))
    refine lv_aload_n hx hb dX12_doAlone_145 rfl (lv_at hl 1 rfl) ?_
    refine lv_aload_n hx hb dX12_doAlone_146 rfl (lv_at hl 2 rfl) ?_
    refine lv_iload_n hx hb dX12_doAlone_147 rfl (lv_at hl 0 rfl) ?_
    obtain ⟨v47_0, v47_1, v47_2, v47_3, v47_4, v47_5, hf47, t47_0, t47_1, t47_2⟩ := op9 I t_o0
    refine cGoV (cRunV (As := [.ref o1, .int r4]) (rest := []) C9 hml hN hNs V I hS t_o0.1 hf47 rfl (c_X12_fallAsleep l D ks τ L A N hN  ψ f2 o0 o1 r4 t_o0 t_o1 ) gC_X12_273 okC_X12_fallAsleep ⟨rfl, rfl, Nat.le_of_ble_eq_true rfl, Nat.le_of_ble_eq_true rfl⟩ hl.1 rfl (Nat.le_of_ble_eq_true rfl) dX12_doAlone_148 ⟨Nat.zero_le _, Nat.zero_le _⟩) hS (fun p49 f48 H locs hqf48 V I hS => ?_)
    obtain ⟨hqf48, ghqf48⟩ := hqf48
    replace hG := gLt_e hG (ghqf48)
    have I : cI ks τ L ψ f48 := by rw [show p49 = ψ from hqf48] at I; exact I
    refine lv_goto (tgt := 159) hx hb dX12_doAlone_151 (by decide) ?_
    exact cRetV C9 hr hlk hN hNs V I hS (⟨rfl, hG.symm⟩) dX12_doAlone_159
  exact absurd hm10 List.not_mem_nil

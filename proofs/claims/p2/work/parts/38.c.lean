set_option maxHeartbeats 200000 in
set_option maxRecDepth 100000 in
theorem c_X8_word (l : Launch) (D : va_G) (ks : kS) (τ : Nat → Nat) (L : List Nat) (A : Nat → Prop) (N : State → Prop) (hN : cNk A N) (κ : kC) (hN0 : ∀ U, N U → N0 κ A U) (ψ : Int32) (f : Nat → va_E) (o0 : Nat) (t_o0 : ty τ L o0 7) : Met l yX8_word (Cond.code yX8_word cX8_word 2 (some (.object "TurnKeeper$Word")) :: tC) ({ frames := 1, cells := 0, slots := 0, locals := 22 }) (va_Pc [.ref o0] (cB D ks τ L A N (ψ, f))) (va_Qq (fun r9 x9 => x9.1 = ψ ∧ ∃ w, r9 = some w ∧ isW κ w) (cB D ks τ L A N) A) 0 0 A := by
  refine cMet (own := RX8) (by decide) rfl (Nat.le_of_ble_eq_true rfl) ?_
  intro p e s m below meth c ls C9 hml hr hlk V I hNs hl
  have hx := C9.1
  have hb := C9.2.1
  have hown := C9.2.2.1
  have hts := C9.2.2.2.1
  have h0 := hN0 s hNs
  have hS : va_S A s.heap s.heap [] := va_S.rf
  have hl : lv_has ls 2 [(0, .ref o0)] := hl
  refine lv_aload_n hx hb dX8_word_0 rfl (lv_at hl 0 rfl) ?_
  refine lv_iconst (v := 0) hx hb dX8_word_1 (by decide) ?_
  obtain ⟨v1_0, v1_1, v1_2, v1_3, v1_4, v1_5, v1_6, v1_7, v1_8, v1_9, v1_10, v1_11, v1_12, hf1, t1_7, t1_8, t1_11⟩ := op7 I t_o0
  refine cGoI (cRunV (As := [.int 0]) (rest := []) C9 hml hN hNs V I hS t_o0.1 hf1 rfl (c_X8_codeAt l D ks τ L A N hN  ψ f o0 0 t_o0 ) gC_X8_38 okC_X8_codeAt ⟨rfl, rfl, Nat.le_of_ble_eq_true rfl, Nat.le_of_ble_eq_true rfl⟩ hl.1 rfl (Nat.le_of_ble_eq_true rfl) dX8_word_2 ⟨Nat.zero_le _, Nat.zero_le _⟩) hS (fun r4 p3 f2 H locs hqf2 V I hS => ?_)
  have I : cI ks τ L ψ f2 := by rw [show p3 = ψ from hqf2] at I; exact I
  refine lv_istore_n (lv' := [(1, .int r4), (0, .ref o0)]) hx hb dX8_word_5 rfl hl (by decide) rfl (fun ls hl => ?_)
  refine lv_iload_n hx hb dX8_word_6 rfl (lv_at hl 0 rfl) ?_
  refine lv_if_lt (tgt := 26) hx hb dX8_word_7 (by decide) (fun c5 => ?_) (fun c5 => ?_)
  · refine cZn C9 h0 hS (by simp [wNm]) tCf_X8_46 dX8_word_26 (fun y6 hy6 => ?_)
    exact cRetW C9 hr hlk hN hNs V I hS (⟨rfl, _, rfl, hy6⟩) dX8_word_29
  · refine lv_iload_n hx hb dX8_word_10 rfl (lv_at hl 0 rfl) ?_
    refine cZw C9 h0 hS (by simp [nwL, RX8]) dX8_word_11 (fun y7 hy7 => ?_)
    refine cAw C9 hy7 hS dX8_word_14 ?_
    refine lv_icmp_ge (tgt := 26) hx hb dX8_word_15 (by decide) (fun c8 => ?_) (fun c8 => ?_)
    · refine cZn C9 h0 hS (by simp [wNm]) tCf_X8_46 dX8_word_26 (fun y9 hy9 => ?_)
      exact cRetW C9 hr hlk hN hNs V I hS (⟨rfl, _, rfl, hy9⟩) dX8_word_29
    · refine cZw C9 h0 hS (by simp [nwL, RX8]) dX8_word_18 (fun y10 hy10 => ?_)
      refine lv_iload_n hx hb dX8_word_21 rfl (lv_at hl 0 rfl) ?_
      refine cLw C9 hy10 hS (cvin (N := 34) rfl (ci_le c5) (ci_lt c8)) dX8_word_22 (fun y11 hy11 => ?_)
      refine lv_goto (tgt := 29) hx hb dX8_word_23 (by decide) ?_
      exact cRetW C9 hr hlk hN hNs V I hS (⟨rfl, _, rfl, hy11⟩) dX8_word_29
set_option maxHeartbeats 200000 in
set_option maxRecDepth 100000 in
theorem c_X1_rowGoesOn (l : Launch) (D : va_G) (ks : kS) (τ : Nat → Nat) (L : List Nat) (A : Nat → Prop) (N : State → Prop) (hN : cNk A N) (κ : kC) (hN0 : ∀ U, N U → N0 κ A U) (ψ : Int32) (f : Nat → va_E) (o0 : Nat) (t_o0 : ty τ L o0 0) : Met l yX1_rowGoesOn (Cond.code yX1_rowGoesOn cX1_rowGoesOn 3 none :: tC) ({ frames := 2, cells := 0, slots := 0, locals := 43 }) (va_Pc [.ref o0] (cB D ks τ L A N (ψ, f))) (va_Qv (fun x9 => x9.1 = ψ) (cB D ks τ L A N) A) 0 0 A := by
  refine cMet (own := RX1) (by decide) rfl (Nat.le_of_ble_eq_true rfl) ?_
  intro p e s m below meth c ls C9 hml hr hlk V I hNs hl
  have hx := C9.1
  have hb := C9.2.1
  have hown := C9.2.2.1
  have hts := C9.2.2.2.1
  have h0 := hN0 s hNs
  have hS : va_S A s.heap s.heap [] := va_S.rf
  have hl : lv_has ls 3 [(0, .ref o0)] := hl
  refine lv_iconst (v := 0) hx hb dX1_rowGoesOn_0 (by decide) ?_
  refine lv_topi (fun x1 ex1 => ?_)
  refine lv_istore_n (lv' := [(1, .int x1), (0, .ref o0)]) hx hb dX1_rowGoesOn_1 rfl hl (by decide) rfl (fun ls hl => ?_)
  have loop2 : ∀ (N9 : Nat) (w2_1 : Int32)  (Gf2 : Nat → va_E) (H : Heap) (locs : List Loc) (ls : Array Slot), cI ks τ L ψ Gf2 → (0 ≤ w2_1 ∧ w2_1 ≤ 8) → ((8 - w2_1).toInt.toNat) < N9 → cV D L Gf2 A H → va_S A s.heap H locs → lv_has ls 3 [(0, .ref o0), (1, .int w2_1)] → W p l e ({ frames := 2, cells := 0, slots := 0, locals := 43 } : Room) s m ([.ref o0] : List Value).toArray below meth c H locs 0 0 (MQ below (va_Qv (fun x9 => x9.1 = ψ) (cB D ks τ L A N) A) ([.ref o0] : List Value).toArray s 0 0 A) (F0 m 2 ls []) := by
    intro N9
    induction N9 with
    | zero => intro w2_1  Gf2 H locs ls I hi2 hm2; exact absurd hm2 (Nat.not_lt_zero _)
    | succ N9 ih2 =>
      intro w2_1  Gf2 H locs ls I hi2 hm2 V hS hl
      refine lv_iload_n hx hb dX1_rowGoesOn_2 rfl (lv_at hl 1 rfl) ?_
      refine lv_bipush (v := 8) hx hb dX1_rowGoesOn_3 (by decide) ?_
      refine lv_icmp_ge (tgt := 81) hx hb dX1_rowGoesOn_5 (by decide) (fun c2 => ?_) (fun c2 => ?_)
      · exact cRetV C9 hr hlk hN hNs V I hS (rfl) dX1_rowGoesOn_81
      · refine lv_aload_n hx hb dX1_rowGoesOn_8 rfl (lv_at hl 0 rfl) ?_
        obtain ⟨v3_0, v3_1, v3_2, v3_3, v3_4, hf3, t3_2⟩ := op0 I t_o0
        refine cG C9 V t_o0.1 hf3 rfl tC_lay0 3 (by decide) tCf_X1_9 (Or.inl rfl) rfl dX1_rowGoesOn_9 ?_
        refine lv_iconst (v := (-1)) hx hb dX1_rowGoesOn_12 (by decide) ?_
        refine lv_icmp_ne (tgt := 81) hx hb dX1_rowGoesOn_13 (by decide) (fun c4 => ?_) (fun c4 => ?_)
        · exact cRetV C9 hr hlk hN hNs V I hS (rfl) dX1_rowGoesOn_81
        · refine lv_aload_n hx hb dX1_rowGoesOn_16 rfl (lv_at hl 0 rfl) ?_
          refine cG C9 V t_o0.1 hf3 rfl tC_lay0 2 (by decide) tCf_X1_27 (Or.inr tCs_X1_row) rfl dX1_rowGoesOn_17 ?_
          obtain ⟨v5_0, v5_1, hf5, hn5, t5_1⟩ := op5 I t3_2
          refine cGoQ (cRunV (As := []) (rest := []) C9 hml hN hNs V I hS t3_2.1 hf5 rfl (c_X6_first l D ks τ L A N hN  ψ Gf2 v3_2 t3_2 ) gC_X1_65 okC_X6_first ⟨rfl, rfl, Nat.le_of_ble_eq_true rfl, Nat.le_of_ble_eq_true rfl⟩ hl.1 rfl (Nat.le_of_ble_eq_true rfl) dX1_rowGoesOn_20 ⟨Nat.zero_le _, Nat.zero_le _⟩) hS (fun r8 p7 f6 H locs hqf6 V I hS => ?_)
          have I : cI ks τ L ψ f6 := by rw [show p7 = ψ from hqf6.1] at I; exact I
          rcases r8 with _ | y9
          · refine W.eq (g2 := F0 m 23 ls [.null]) rfl ?_
            refine lv_astore_nN (lv' := [(2, .null), (0, .ref o0), (1, .int w2_1)]) hx hb dX1_rowGoesOn_23 rfl hl (by decide) rfl (fun ls hl => ?_)
            refine lv_aload_nN hx hb dX1_rowGoesOn_24 rfl (lv_at hl 0 rfl) ?_
            refine lv_ifnonnullN hx hb dX1_rowGoesOn_25 ?_
            exact cRetV C9 hr hlk hN hNs V I hS (rfl) dX1_rowGoesOn_28
          · have hy9 := hqf6.2 y9 rfl
            refine W.eq (g2 := F0 m 23 ls [.ref y9]) rfl ?_
            refine lv_astore_n (lv' := [(2, .ref y9), (0, .ref o0), (1, .int w2_1)]) hx hb dX1_rowGoesOn_23 rfl hl (by decide) rfl (fun ls hl => ?_)
            refine lv_aload_n hx hb dX1_rowGoesOn_24 rfl (lv_at hl 0 rfl) ?_
            refine lv_ifnonnull (tgt := 29) hx hb dX1_rowGoesOn_25 (by decide) ?_
            refine lv_aload_n hx hb dX1_rowGoesOn_29 rfl (lv_at hl 0 rfl) ?_
            obtain ⟨v10_0, v10_1, v10_2, v10_3, v10_4, v10_5, v10_6, v10_7, v10_8, v10_9, v10_10, v10_11, v10_12, hf10, t10_7, t10_8, t10_11⟩ := op7 I hy9
            refine cGoQ (cRunV (As := []) (rest := []) C9 hml hN hNs V I hS hy9.1 hf10 rfl (c_X8_word l D ks τ L A N hN κ hN0 ψ f6 y9 hy9 ) gC_X1_69 okC_X8_word ⟨rfl, rfl, Nat.le_of_ble_eq_true rfl, Nat.le_of_ble_eq_true rfl⟩ hl.1 rfl (Nat.le_of_ble_eq_true rfl) dX1_rowGoesOn_30 ⟨Nat.zero_le _, Nat.zero_le _⟩) hS (fun r13 p12 f11 H locs hqf11 V I hS => ?_)
            have I : cI ks τ L ψ f11 := by rw [show p12 = ψ from hqf11.1] at I; exact I
            obtain ⟨y14, ey14, hy14⟩ := hqf11.2
            subst ey14
            refine W.eq (g2 := F0 m 33 ls [.ref y14]) rfl ?_
            refine cZn C9 h0 hS (by simp [wNm]) tCf_X1_73 dX1_rowGoesOn_33 (fun y15 hy15 => ?_)
            refine lv_acmp_eq (rx := (some y14)) (ry := (some y15)) (tgt := 52) hx hb dX1_rowGoesOn_36 (by decide) (fun c16 => ?_) (fun c16 => ?_)
            · refine lv_aload_n hx hb dX1_rowGoesOn_52 rfl (lv_at hl 1 rfl) ?_
              obtain ⟨v17_0, v17_1, v17_2, v17_3, v17_4, hf17, t17_2⟩ := op0 I t_o0
              refine cG C9 V t_o0.1 hf17 rfl tC_lay0 4 (by decide) tCf_X1_36 (Or.inl rfl) rfl dX1_rowGoesOn_53 ?_
              refine lv_if_ne (tgt := 70) hx hb dX1_rowGoesOn_56 (by decide) (fun c18 => ?_) (fun c18 => ?_)
              · exact cRetV C9 hr hlk hN hNs V I hS (rfl) dX1_rowGoesOn_70
              · refine lv_aload_n hx hb dX1_rowGoesOn_59 rfl (lv_at hl 1 rfl) ?_
                refine lv_aload_n hx hb dX1_rowGoesOn_60 rfl (lv_at hl 0 rfl) ?_
                obtain ⟨v19_0, v19_1, v19_2, v19_3, v19_4, v19_5, v19_6, v19_7, v19_8, v19_9, v19_10, v19_11, v19_12, hf19, t19_7, t19_8, t19_11⟩ := op7 I hy9
                refine cG C9 V hy9.1 hf19 rfl tC_lay7 0 (by decide) tCf_X1_52 (Or.inl rfl) rfl dX1_rowGoesOn_61 ?_
                refine cP (v := .int v19_0) (ty := .int) C9 V hS t_o0.1 hf17 rfl tC_lay0 tyX1 tyX1_ok nmX1 3 (by decide) tCf_X1_9 rfl rfl (by decide +kernel) rfl rfl (Nat.le_of_ble_eq_true rfl) dX1_rowGoesOn_64 (fun f20 H locs ef20 V hS => ?_)
                have hf21 : f20 o0 = .inr (0, [.int v17_0, .int v17_1, .ref v17_2, .int v19_0, .int v17_4]) := up_s ef20
                have I := cI_up I t_o0.2 ef20 (mk0 t17_2)
                have hf22 := up_n ef20 t_o0.2 hy9.2 (by first | decide | omega) hf19
                refine lv_goto (tgt := 71) hx hb dX1_rowGoesOn_67 (by decide) ?_
                refine lv_aload_n hx hb dX1_rowGoesOn_71 rfl (lv_at hl 0 rfl) ?_
                refine cGoV (cRunV (As := []) (rest := []) C9 hml hN hNs V I hS hy9.1 hf22 rfl (c_X8_goOn l D ks τ L A N hN  ψ f20 y9 hy9 ) gC_X1_39 okC_X8_goOn ⟨rfl, rfl, Nat.le_of_ble_eq_true rfl, Nat.le_of_ble_eq_true rfl⟩ hl.1 rfl (Nat.le_of_ble_eq_true rfl) dX1_rowGoesOn_72 ⟨Nat.zero_le _, Nat.zero_le _⟩) hS (fun p24 f23 H locs hqf23 V I hS => ?_)
                have I : cI ks τ L ψ f23 := by rw [show p24 = ψ from hqf23] at I; exact I
                obtain ⟨x26, ex26⟩ : ∃ y : Int32, y = w2_1 + (1) := ⟨_, rfl⟩
                refine lv_iinc (v := x26) (lv' := [(1, .int x26), (2, .ref y9), (0, .ref o0)]) hx hb dX1_rowGoesOn_75 hl (k := 2) rfl (by rw [ex26]; rfl) (by decide) rfl (fun ls hl => ?_)
                refine lv_goto (tgt := 2) hx hb dX1_rowGoesOn_78 (by decide) ?_
                exact ih2 x26  f23 _ _ _ I (ca_up ex26 hi2.1 (ci_lt c2)) (cmsd hm2 (ca_dec ex26 hi2.1 (ci_lt c2)).1 (ca_dec ex26 hi2.1 (ci_lt c2)).2) V hS (lv_sub hl [2, 0] rfl)
            · refine lv_aload_n hx hb dX1_rowGoesOn_39 rfl (lv_at hl 1 rfl) ?_
              refine lv_dup hx hb dX1_rowGoesOn_40 rfl ?_
              obtain ⟨v27_0, v27_1, v27_2, v27_3, v27_4, hf27, t27_2⟩ := op0 I t_o0
              refine cG C9 V t_o0.1 hf27 rfl tC_lay0 4 (by decide) tCf_X1_36 (Or.inl rfl) rfl dX1_rowGoesOn_41 ?_
              refine lv_iconst (v := 1) hx hb dX1_rowGoesOn_44 (by decide) ?_
              refine lv_iadd hx hb dX1_rowGoesOn_45 ?_
              refine lv_topi (fun x28 ex28 => ?_)
              refine cP (v := .int x28) (ty := .int) C9 V hS t_o0.1 hf27 rfl tC_lay0 tyX1 tyX1_ok nmX1 4 (by decide) tCf_X1_36 rfl rfl (by decide +kernel) rfl rfl (Nat.le_of_ble_eq_true rfl) dX1_rowGoesOn_46 (fun f29 H locs ef29 V hS => ?_)
              have hf30 : f29 o0 = .inr (0, [.int v27_0, .int v27_1, .ref v27_2, .int v27_3, .int x28]) := up_s ef29
              have I := cI_up I t_o0.2 ef29 (mk0 t27_2)
              refine lv_goto (tgt := 71) hx hb dX1_rowGoesOn_49 (by decide) ?_
              refine lv_aload_n hx hb dX1_rowGoesOn_71 rfl (lv_at hl 0 rfl) ?_
              obtain ⟨v31_0, v31_1, v31_2, v31_3, v31_4, v31_5, v31_6, v31_7, v31_8, v31_9, v31_10, v31_11, v31_12, hf31, t31_7, t31_8, t31_11⟩ := op7 I hy9
              refine cGoV (cRunV (As := []) (rest := []) C9 hml hN hNs V I hS hy9.1 hf31 rfl (c_X8_goOn l D ks τ L A N hN  ψ f29 y9 hy9 ) gC_X1_39 okC_X8_goOn ⟨rfl, rfl, Nat.le_of_ble_eq_true rfl, Nat.le_of_ble_eq_true rfl⟩ hl.1 rfl (Nat.le_of_ble_eq_true rfl) dX1_rowGoesOn_72 ⟨Nat.zero_le _, Nat.zero_le _⟩) hS (fun p33 f32 H locs hqf32 V I hS => ?_)
              have I : cI ks τ L ψ f32 := by rw [show p33 = ψ from hqf32] at I; exact I
              obtain ⟨x35, ex35⟩ : ∃ y : Int32, y = w2_1 + (1) := ⟨_, rfl⟩
              refine lv_iinc (v := x35) (lv' := [(1, .int x35), (2, .ref y9), (0, .ref o0)]) hx hb dX1_rowGoesOn_75 hl (k := 2) rfl (by rw [ex35]; rfl) (by decide) rfl (fun ls hl => ?_)
              refine lv_goto (tgt := 2) hx hb dX1_rowGoesOn_78 (by decide) ?_
              exact ih2 x35  f32 _ _ _ I (ca_up ex35 hi2.1 (ci_lt c2)) (cmsd hm2 (ca_dec ex35 hi2.1 (ci_lt c2)).1 (ca_dec ex35 hi2.1 (ci_lt c2)).2) V hS (lv_sub hl [2, 0] rfl)
  exact loop2 _ x1  f _ _ _ I (by clear V hS hl C9 hts hown hx hb hml hr hlk h0 hN0; subst_vars; decide) (Nat.lt_succ_self _) V hS (lv_sub hl [1, 0] rfl)
set_option maxHeartbeats 200000 in
set_option maxRecDepth 100000 in
theorem c_X1_leave (l : Launch) (D : va_G) (ks : kS) (τ : Nat → Nat) (L : List Nat) (A : Nat → Prop) (N : State → Prop) (hN : cNk A N) (κ : kC) (hN0 : ∀ U, N U → N0 κ A U) (ψ : Int32) (f : Nat → va_E) (o0 : Nat) (o1 : Nat) (t_o0 : ty τ L o0 0) (t_o1 : ty τ L o1 7) : Met l yX1_leave (Cond.code yX1_leave cX1_leave 2 none :: tC) ({ frames := 3, cells := 0, slots := 0, locals := 65 }) (va_Pc [.ref o0, .ref o1] (cB D ks τ L A N (ψ, f))) (va_Qv (fun x9 => x9.1 = ψ) (cB D ks τ L A N) A) 0 0 A := by
  refine cMet (own := RX1) (by decide) rfl (Nat.le_of_ble_eq_true rfl) ?_
  intro p e s m below meth c ls C9 hml hr hlk V I hNs hl
  have hx := C9.1
  have hb := C9.2.1
  have hown := C9.2.2.1
  have hts := C9.2.2.2.1
  have h0 := hN0 s hNs
  have hS : va_S A s.heap s.heap [] := va_S.rf
  have hl : lv_has ls 2 [(0, .ref o0), (1, .ref o1)] := hl
  refine lv_aload_n hx hb dX1_leave_0 rfl (lv_at hl 0 rfl) ?_
  obtain ⟨v1_0, v1_1, v1_2, v1_3, v1_4, hf1, t1_2⟩ := op0 I t_o0
  refine cG C9 V t_o0.1 hf1 rfl tC_lay0 4 (by decide) tCf_X1_36 (Or.inl rfl) rfl dX1_leave_1 ?_
  refine lv_if_ne (tgt := 13) hx hb dX1_leave_4 (by decide) (fun c2 => ?_) (fun c2 => ?_)
  · refine lv_aload_n hx hb dX1_leave_13 rfl (lv_at hl 0 rfl) ?_
    refine lv_dup hx hb dX1_leave_14 rfl ?_
    refine cG C9 V t_o0.1 hf1 rfl tC_lay0 4 (by decide) tCf_X1_36 (Or.inl rfl) rfl dX1_leave_15 ?_
    refine lv_iconst (v := 1) hx hb dX1_leave_18 (by decide) ?_
    refine lv_isub hx hb dX1_leave_19 ?_
    refine lv_topi (fun x3 ex3 => ?_)
    refine cP (v := .int x3) (ty := .int) C9 V hS t_o0.1 hf1 rfl tC_lay0 tyX1 tyX1_ok nmX1 4 (by decide) tCf_X1_36 rfl rfl (by decide +kernel) rfl rfl (Nat.le_of_ble_eq_true rfl) dX1_leave_20 (fun f4 H locs ef4 V hS => ?_)
    have hf5 : f4 o0 = .inr (0, [.int v1_0, .int v1_1, .ref v1_2, .int v1_3, .int x3]) := up_s ef4
    have I := cI_up I t_o0.2 ef4 (mk0 t1_2)
    refine lv_aload_n hx hb dX1_leave_23 rfl (lv_at hl 1 rfl) ?_
    obtain ⟨v6_0, v6_1, v6_2, v6_3, v6_4, v6_5, v6_6, v6_7, v6_8, v6_9, v6_10, v6_11, v6_12, hf6, t6_7, t6_8, t6_11⟩ := op7 I t_o1
    refine cGoV (cRunV (As := []) (rest := []) C9 hml hN hNs V I hS t_o1.1 hf6 rfl (c_X8_goOn l D ks τ L A N hN  ψ f4 o1 t_o1 ) gC_X1_39 okC_X8_goOn ⟨rfl, rfl, Nat.le_of_ble_eq_true rfl, Nat.le_of_ble_eq_true rfl⟩ hl.1 rfl (Nat.le_of_ble_eq_true rfl) dX1_leave_24 ⟨Nat.zero_le _, Nat.zero_le _⟩) hS (fun p8 f7 H locs hqf7 V I hS => ?_)
    have I : cI ks τ L ψ f7 := by rw [show p8 = ψ from hqf7] at I; exact I
    refine lv_aload_n hx hb dX1_leave_27 rfl (lv_at hl 0 rfl) ?_
    obtain ⟨v10_0, v10_1, v10_2, v10_3, v10_4, hf10, t10_2⟩ := op0 I t_o0
    refine cG C9 V t_o0.1 hf10 rfl tC_lay0 4 (by decide) tCf_X1_36 (Or.inl rfl) rfl dX1_leave_28 ?_
    refine lv_if_ne (tgt := 38) hx hb dX1_leave_31 (by decide) (fun c11 => ?_) (fun c11 => ?_)
    · exact cRetV C9 hr hlk hN hNs V I hS (rfl) dX1_leave_38
    · refine lv_aload_n hx hb dX1_leave_34 rfl (lv_at hl 0 rfl) ?_
      refine cGoV (cRunV (As := []) (rest := []) C9 hml hN hNs V I hS t_o0.1 hf10 rfl (c_X1_rowGoesOn l D ks τ L A N hN κ hN0 ψ f7 o0 t_o0 ) gC_X1_62 okC_X1_rowGoesOn ⟨rfl, rfl, Nat.le_of_ble_eq_true rfl, Nat.le_of_ble_eq_true rfl⟩ hl.1 rfl (Nat.le_of_ble_eq_true rfl) dX1_leave_35 ⟨Nat.zero_le _, Nat.zero_le _⟩) hS (fun p13 f12 H locs hqf12 V I hS => ?_)
      have I : cI ks τ L ψ f12 := by rw [show p13 = ψ from hqf12] at I; exact I
      exact cRetV C9 hr hlk hN hNs V I hS (rfl) dX1_leave_38
  · refine lv_aload_n hx hb dX1_leave_7 rfl (lv_at hl 1 rfl) ?_
    refine lv_iconst (v := 3) hx hb dX1_leave_8 (by decide) ?_
    obtain ⟨v15_0, v15_1, v15_2, v15_3, v15_4, v15_5, v15_6, v15_7, v15_8, v15_9, v15_10, v15_11, v15_12, hf15, t15_7, t15_8, t15_11⟩ := op7 I t_o1
    refine cGoV (cRunV (As := [.int 3]) (rest := []) C9 hml hN hNs V I hS t_o1.1 hf15 rfl (c_X8_fail l D ks τ L A N hN  ψ f o1 3 t_o1 ) gC_X1_58 okC_X8_fail ⟨rfl, rfl, Nat.le_of_ble_eq_true rfl, Nat.le_of_ble_eq_true rfl⟩ hl.1 rfl (Nat.le_of_ble_eq_true rfl) dX1_leave_9 ⟨Nat.zero_le _, Nat.zero_le _⟩) hS (fun p17 f16 H locs hqf16 V I hS => ?_)
    have I : cI ks τ L ψ f16 := by rw [show p17 = ψ from hqf16] at I; exact I
    exact cRetV C9 hr hlk hN hNs V I hS (rfl) dX1_leave_12
set_option maxHeartbeats 200000 in
set_option maxRecDepth 100000 in
theorem c_X1_giveBack (l : Launch) (D : va_G) (ks : kS) (τ : Nat → Nat) (L : List Nat) (A : Nat → Prop) (N : State → Prop) (hN : cNk A N) (κ : kC) (hN0 : ∀ U, N U → N0 κ A U) (ψ : Int32) (f : Nat → va_E) (o0 : Nat) (o1 : Nat) (t_o0 : ty τ L o0 0) (t_o1 : ty τ L o1 7) : Met l yX1_giveBack (Cond.code yX1_giveBack cX1_giveBack 2 none :: tC) ({ frames := 3, cells := 0, slots := 0, locals := 65 }) (va_Pc [.ref o0, .ref o1] (cB D ks τ L A N (ψ, f))) (va_Qv (fun x9 => x9.1 = ψ) (cB D ks τ L A N) A) 0 0 A := by
  refine cMet (own := RX1) (by decide) rfl (Nat.le_of_ble_eq_true rfl) ?_
  intro p e s m below meth c ls C9 hml hr hlk V I hNs hl
  have hx := C9.1
  have hb := C9.2.1
  have hown := C9.2.2.1
  have hts := C9.2.2.2.1
  have h0 := hN0 s hNs
  have hS : va_S A s.heap s.heap [] := va_S.rf
  have hl : lv_has ls 2 [(0, .ref o0), (1, .ref o1)] := hl
  refine lv_aload_n hx hb dX1_giveBack_0 rfl (lv_at hl 0 rfl) ?_
  obtain ⟨v1_0, v1_1, v1_2, v1_3, v1_4, hf1, t1_2⟩ := op0 I t_o0
  refine cG C9 V t_o0.1 hf1 rfl tC_lay0 3 (by decide) tCf_X1_9 (Or.inl rfl) rfl dX1_giveBack_1 ?_
  refine lv_aload_n hx hb dX1_giveBack_4 rfl (lv_at hl 1 rfl) ?_
  obtain ⟨v2_0, v2_1, v2_2, v2_3, v2_4, v2_5, v2_6, v2_7, v2_8, v2_9, v2_10, v2_11, v2_12, hf2, t2_7, t2_8, t2_11⟩ := op7 I t_o1
  refine cG C9 V t_o1.1 hf2 rfl tC_lay7 0 (by decide) tCf_X1_52 (Or.inl rfl) rfl dX1_giveBack_5 ?_
  refine lv_icmp_eq (tgt := 17) hx hb dX1_giveBack_8 (by decide) (fun c3 => ?_) (fun c3 => ?_)
  · refine lv_aload_n hx hb dX1_giveBack_17 rfl (lv_at hl 0 rfl) ?_
    refine lv_iconst (v := (-1)) hx hb dX1_giveBack_18 (by decide) ?_
    refine lv_topi (fun x4 ex4 => ?_)
    refine cP (v := .int x4) (ty := .int) C9 V hS t_o0.1 hf1 rfl tC_lay0 tyX1 tyX1_ok nmX1 3 (by decide) tCf_X1_9 rfl rfl (by decide +kernel) rfl rfl (Nat.le_of_ble_eq_true rfl) dX1_giveBack_19 (fun f5 H locs ef5 V hS => ?_)
    have hf6 : f5 o0 = .inr (0, [.int v1_0, .int v1_1, .ref v1_2, .int x4, .int v1_4]) := up_s ef5
    have I := cI_up I t_o0.2 ef5 (mk0 t1_2)
    have hf7 := up_n ef5 t_o0.2 t_o1.2 (by first | decide | omega) hf2
    refine lv_aload_n hx hb dX1_giveBack_22 rfl (lv_at hl 1 rfl) ?_
    refine cGoV (cRunV (As := []) (rest := []) C9 hml hN hNs V I hS t_o1.1 hf7 rfl (c_X8_goOn l D ks τ L A N hN  ψ f5 o1 t_o1 ) gC_X1_39 okC_X8_goOn ⟨rfl, rfl, Nat.le_of_ble_eq_true rfl, Nat.le_of_ble_eq_true rfl⟩ hl.1 rfl (Nat.le_of_ble_eq_true rfl) dX1_giveBack_23 ⟨Nat.zero_le _, Nat.zero_le _⟩) hS (fun p9 f8 H locs hqf8 V I hS => ?_)
    have I : cI ks τ L ψ f8 := by rw [show p9 = ψ from hqf8] at I; exact I
    refine lv_aload_n hx hb dX1_giveBack_26 rfl (lv_at hl 0 rfl) ?_
    obtain ⟨v11_0, v11_1, v11_2, v11_3, v11_4, hf11, t11_2⟩ := op0 I t_o0
    refine cGoV (cRunV (As := []) (rest := []) C9 hml hN hNs V I hS t_o0.1 hf11 rfl (c_X1_rowGoesOn l D ks τ L A N hN κ hN0 ψ f8 o0 t_o0 ) gC_X1_62 okC_X1_rowGoesOn ⟨rfl, rfl, Nat.le_of_ble_eq_true rfl, Nat.le_of_ble_eq_true rfl⟩ hl.1 rfl (Nat.le_of_ble_eq_true rfl) dX1_giveBack_27 ⟨Nat.zero_le _, Nat.zero_le _⟩) hS (fun p13 f12 H locs hqf12 V I hS => ?_)
    have I : cI ks τ L ψ f12 := by rw [show p13 = ψ from hqf12] at I; exact I
    exact cRetV C9 hr hlk hN hNs V I hS (rfl) dX1_giveBack_30
  · refine lv_aload_n hx hb dX1_giveBack_11 rfl (lv_at hl 1 rfl) ?_
    refine lv_iconst (v := 1) hx hb dX1_giveBack_12 (by decide) ?_
    refine cGoV (cRunV (As := [.int 1]) (rest := []) C9 hml hN hNs V I hS t_o1.1 hf2 rfl (c_X8_fail l D ks τ L A N hN  ψ f o1 1 t_o1 ) gC_X1_58 okC_X8_fail ⟨rfl, rfl, Nat.le_of_ble_eq_true rfl, Nat.le_of_ble_eq_true rfl⟩ hl.1 rfl (Nat.le_of_ble_eq_true rfl) dX1_giveBack_13 ⟨Nat.zero_le _, Nat.zero_le _⟩) hS (fun p16 f15 H locs hqf15 V I hS => ?_)
    have I : cI ks τ L ψ f15 := by rw [show p16 = ψ from hqf15] at I; exact I
    exact cRetV C9 hr hlk hN hNs V I hS (rfl) dX1_giveBack_16
set_option maxHeartbeats 200000 in
set_option maxRecDepth 100000 in
theorem c_X1_perform (l : Launch) (D : va_G) (ks : kS) (τ : Nat → Nat) (L : List Nat) (A : Nat → Prop) (N : State → Prop) (hN : cNk A N) (κ : kC) (hN0 : ∀ U, N U → N0 κ A U) (ψ : Int32) (f : Nat → va_E) (o0 : Nat) (o1 : Nat) (o2 : Nat) (t_o0 : ty τ L o0 0) (t_o1 : ty τ L o1 7) (t_o2 : isW κ o2) : Met l yX1_perform (Cond.code yX1_perform cX1_perform 3 none :: tC) ({ frames := 4, cells := 0, slots := 0, locals := 86 }) (va_Pc [.ref o0, .ref o1, .ref o2] (cB D ks τ L A N (ψ, f))) (va_Qv (fun x9 => x9.1 = ψ) (cB D ks τ L A N) A) 0 0 A := by
  refine cMet (own := RX1) (by decide) rfl (Nat.le_of_ble_eq_true rfl) ?_
  intro p e s m below meth c ls C9 hml hr hlk V I hNs hl
  have hx := C9.1
  have hb := C9.2.1
  have hown := C9.2.2.1
  have hts := C9.2.2.2.1
  have h0 := hN0 s hNs
  have hS : va_S A s.heap s.heap [] := va_S.rf
  have hl : lv_has ls 3 [(0, .ref o0), (1, .ref o1), (2, .ref o2)] := hl
  refine cZs C9 h0 hS tCf_X1_15 dX1_perform_0 (fun y1 hy1 => ?_)
  refine lv_aload_n hx hb dX1_perform_3 rfl (lv_at hl 2 rfl) ?_
  refine cGoI (cRunU (As := []) (rest := [.ref y1]) C9 hml hN hNs V I hS (isW_r h0 hS t_o2) (c_Jx29ce0_ordinal_8abf5 l D ks τ L A N hN κ hN0 ψ f o2 t_o2 ) (va_cwU 0 hts gU_X1_21_X11 rfl rfl rfl rfl okU_X1_21 ⟨Nat.le_of_ble_eq_true rfl, Nat.le_of_ble_eq_true rfl⟩) hl.1 rfl (Nat.le_of_ble_eq_true rfl) dX1_perform_4 ⟨Nat.zero_le _, Nat.zero_le _⟩) hS (fun r4 p3 f2 H locs hqf2 V I hS => ?_)
  have V : cV D L f A H := by rw [show f2 = f from congrArg Prod.snd hqf2.1] at V; exact V
  have I : cI ks τ L ψ f := by rw [show f2 = f from congrArg Prod.snd hqf2.1, show p3 = ψ from congrArg Prod.fst hqf2.1] at I; exact I
  refine cLs C9 hy1 hS (cvin (N := 34) rfl (hqf2.2.1) (hqf2.2.2)) dX1_perform_7 (fun x5 => ?_)
  refine cTab hx hb [125, 36, 79, 87] dX1_perform_8 rfl (by decide) ?_
  intro t9 hm6
  rcases List.mem_cons.mp hm6 with rfl | hm6
  · refine lv_aload_n hx hb dX1_perform_125 rfl (lv_at hl 0 rfl) ?_
    refine lv_aload_n hx hb dX1_perform_126 rfl (lv_at hl 1 rfl) ?_
    obtain ⟨v7_0, v7_1, v7_2, v7_3, v7_4, hf7, t7_2⟩ := op0 I t_o0
    refine cGoV (cRunV (As := [.ref o1]) (rest := []) C9 hml hN hNs V I hS t_o0.1 hf7 rfl (c_X1_giveBack l D ks τ L A N hN κ hN0 ψ f o0 o1 t_o0 t_o1 ) gC_X1_55 okC_X1_giveBack ⟨rfl, rfl, Nat.le_of_ble_eq_true rfl, Nat.le_of_ble_eq_true rfl⟩ hl.1 rfl (Nat.le_of_ble_eq_true rfl) dX1_perform_127 ⟨Nat.zero_le _, Nat.zero_le _⟩) hS (fun p9 f8 H locs hqf8 V I hS => ?_)
    have I : cI ks τ L ψ f8 := by rw [show p9 = ψ from hqf8] at I; exact I
    exact cRetV C9 hr hlk hN hNs V I hS (rfl) dX1_perform_130
  rcases List.mem_cons.mp hm6 with rfl | hm6
  · refine lv_aload_n hx hb dX1_perform_36 rfl (lv_at hl 0 rfl) ?_
    obtain ⟨v11_0, v11_1, v11_2, v11_3, v11_4, hf11, t11_2⟩ := op0 I t_o0
    refine cG C9 V t_o0.1 hf11 rfl tC_lay0 3 (by decide) tCf_X1_9 (Or.inl rfl) rfl dX1_perform_37 ?_
    refine lv_iconst (v := (-1)) hx hb dX1_perform_40 (by decide) ?_
    refine lv_icmp_ne (tgt := 71) hx hb dX1_perform_41 (by decide) (fun c12 => ?_) (fun c12 => ?_)
    · refine lv_aload_n hx hb dX1_perform_71 rfl (lv_at hl 0 rfl) ?_
      refine lv_aload_n hx hb dX1_perform_72 rfl (lv_at hl 1 rfl) ?_
      refine cGoV (cRunU (As := [.ref o1]) (rest := []) C9 hml hN hNs V I hS (cRc C9 V t_o0.1 hf11 rfl) (c_X9_holdUp l D ks τ L A N hN  ψ f o0 o1 (tyS_of t_o0 (by decide)) t_o1 ) (va_cwU 1 hts gU_X1_45_X1 rfl rfl rfl rfl okU_X1_45 ⟨Nat.le_of_ble_eq_true rfl, Nat.le_of_ble_eq_true rfl⟩) hl.1 rfl (Nat.le_of_ble_eq_true rfl) dX1_perform_73 ⟨Nat.zero_le _, Nat.zero_le _⟩) hS (fun p14 f13 H locs hqf13 V I hS => ?_)
      have I : cI ks τ L ψ f13 := by rw [show p14 = ψ from hqf13] at I; exact I
      refine lv_goto (tgt := 130) hx hb dX1_perform_76 (by decide) ?_
      exact cRetV C9 hr hlk hN hNs V I hS (rfl) dX1_perform_130
    · refine lv_aload_n hx hb dX1_perform_44 rfl (lv_at hl 0 rfl) ?_
      refine cG C9 V t_o0.1 hf11 rfl tC_lay0 2 (by decide) tCf_X1_27 (Or.inr tCs_X1_row) rfl dX1_perform_45 ?_
      obtain ⟨v16_0, v16_1, hf16, hn16, t16_1⟩ := op5 I t11_2
      refine cG C9 V t11_2.1 hf16 rfl tC_lay5 0 (by decide) tCf_X1_31 (Or.inl rfl) rfl dX1_perform_48 ?_
      refine lv_if_ne (tgt := 71) hx hb dX1_perform_51 (by decide) (fun c17 => ?_) (fun c17 => ?_)
      · refine lv_aload_n hx hb dX1_perform_71 rfl (lv_at hl 0 rfl) ?_
        refine lv_aload_n hx hb dX1_perform_72 rfl (lv_at hl 1 rfl) ?_
        refine cGoV (cRunU (As := [.ref o1]) (rest := []) C9 hml hN hNs V I hS (cRc C9 V t_o0.1 hf11 rfl) (c_X9_holdUp l D ks τ L A N hN  ψ f o0 o1 (tyS_of t_o0 (by decide)) t_o1 ) (va_cwU 1 hts gU_X1_45_X1 rfl rfl rfl rfl okU_X1_45 ⟨Nat.le_of_ble_eq_true rfl, Nat.le_of_ble_eq_true rfl⟩) hl.1 rfl (Nat.le_of_ble_eq_true rfl) dX1_perform_73 ⟨Nat.zero_le _, Nat.zero_le _⟩) hS (fun p19 f18 H locs hqf18 V I hS => ?_)
        have I : cI ks τ L ψ f18 := by rw [show p19 = ψ from hqf18] at I; exact I
        refine lv_goto (tgt := 130) hx hb dX1_perform_76 (by decide) ?_
        exact cRetV C9 hr hlk hN hNs V I hS (rfl) dX1_perform_130
      · refine lv_aload_n hx hb dX1_perform_54 rfl (lv_at hl 0 rfl) ?_
        refine lv_dup hx hb dX1_perform_55 rfl ?_
        refine cG C9 V t_o0.1 hf11 rfl tC_lay0 4 (by decide) tCf_X1_36 (Or.inl rfl) rfl dX1_perform_56 ?_
        refine lv_iconst (v := 1) hx hb dX1_perform_59 (by decide) ?_
        refine lv_iadd hx hb dX1_perform_60 ?_
        refine lv_topi (fun x21 ex21 => ?_)
        refine cP (v := .int x21) (ty := .int) C9 V hS t_o0.1 hf11 rfl tC_lay0 tyX1 tyX1_ok nmX1 4 (by decide) tCf_X1_36 rfl rfl (by decide +kernel) rfl rfl (Nat.le_of_ble_eq_true rfl) dX1_perform_61 (fun f22 H locs ef22 V hS => ?_)
        have hf23 : f22 o0 = .inr (0, [.int v11_0, .int v11_1, .ref v11_2, .int v11_3, .int x21]) := up_s ef22
        have I := cI_up I t_o0.2 ef22 (mk0 t11_2)
        have hf24 := up_n ef22 t_o0.2 t11_2.2 (by first | decide | omega) hf16
        refine lv_aload_n hx hb dX1_perform_64 rfl (lv_at hl 1 rfl) ?_
        obtain ⟨v25_0, v25_1, v25_2, v25_3, v25_4, v25_5, v25_6, v25_7, v25_8, v25_9, v25_10, v25_11, v25_12, hf25, t25_7, t25_8, t25_11⟩ := op7 I t_o1
        refine cGoV (cRunV (As := []) (rest := []) C9 hml hN hNs V I hS t_o1.1 hf25 rfl (c_X8_goOn l D ks τ L A N hN  ψ f22 o1 t_o1 ) gC_X1_39 okC_X8_goOn ⟨rfl, rfl, Nat.le_of_ble_eq_true rfl, Nat.le_of_ble_eq_true rfl⟩ hl.1 rfl (Nat.le_of_ble_eq_true rfl) dX1_perform_65 ⟨Nat.zero_le _, Nat.zero_le _⟩) hS (fun p27 f26 H locs hqf26 V I hS => ?_)
        have I : cI ks τ L ψ f26 := by rw [show p27 = ψ from hqf26] at I; exact I
        refine lv_goto (tgt := 130) hx hb dX1_perform_68 (by decide) ?_
        exact cRetV C9 hr hlk hN hNs V I hS (rfl) dX1_perform_130
  rcases List.mem_cons.mp hm6 with rfl | hm6
  · refine lv_aload_n hx hb dX1_perform_79 rfl (lv_at hl 0 rfl) ?_
    refine lv_aload_n hx hb dX1_perform_80 rfl (lv_at hl 1 rfl) ?_
    obtain ⟨v29_0, v29_1, v29_2, v29_3, v29_4, hf29, t29_2⟩ := op0 I t_o0
    refine cGoV (cRunV (As := [.ref o1]) (rest := []) C9 hml hN hNs V I hS t_o0.1 hf29 rfl (c_X1_leave l D ks τ L A N hN κ hN0 ψ f o0 o1 t_o0 t_o1 ) gC_X1_49 okC_X1_leave ⟨rfl, rfl, Nat.le_of_ble_eq_true rfl, Nat.le_of_ble_eq_true rfl⟩ hl.1 rfl (Nat.le_of_ble_eq_true rfl) dX1_perform_81 ⟨Nat.zero_le _, Nat.zero_le _⟩) hS (fun p31 f30 H locs hqf30 V I hS => ?_)
    have I : cI ks τ L ψ f30 := by rw [show p31 = ψ from hqf30] at I; exact I
    refine lv_goto (tgt := 130) hx hb dX1_perform_84 (by decide) ?_
    exact cRetV C9 hr hlk hN hNs V I hS (rfl) dX1_perform_130
  rcases List.mem_cons.mp hm6 with rfl | hm6
  · refine lv_aload_n hx hb dX1_perform_87 rfl (lv_at hl 0 rfl) ?_
    obtain ⟨v33_0, v33_1, v33_2, v33_3, v33_4, hf33, t33_2⟩ := op0 I t_o0
    refine cG C9 V t_o0.1 hf33 rfl tC_lay0 3 (by decide) tCf_X1_9 (Or.inl rfl) rfl dX1_perform_88 ?_
    refine lv_iconst (v := (-1)) hx hb dX1_perform_91 (by decide) ?_
    refine lv_icmp_ne (tgt := 117) hx hb dX1_perform_92 (by decide) (fun c34 => ?_) (fun c34 => ?_)
    · refine lv_aload_n hx hb dX1_perform_117 rfl (lv_at hl 0 rfl) ?_
      refine lv_aload_n hx hb dX1_perform_118 rfl (lv_at hl 1 rfl) ?_
      refine cGoV (cRunU (As := [.ref o1]) (rest := []) C9 hml hN hNs V I hS (cRc C9 V t_o0.1 hf33 rfl) (c_X9_holdUp l D ks τ L A N hN  ψ f o0 o1 (tyS_of t_o0 (by decide)) t_o1 ) (va_cwU 1 hts gU_X1_45_X1 rfl rfl rfl rfl okU_X1_45 ⟨Nat.le_of_ble_eq_true rfl, Nat.le_of_ble_eq_true rfl⟩) hl.1 rfl (Nat.le_of_ble_eq_true rfl) dX1_perform_119 ⟨Nat.zero_le _, Nat.zero_le _⟩) hS (fun p36 f35 H locs hqf35 V I hS => ?_)
      have I : cI ks τ L ψ f35 := by rw [show p36 = ψ from hqf35] at I; exact I
      refine lv_goto (tgt := 130) hx hb dX1_perform_122 (by decide) ?_
      exact cRetV C9 hr hlk hN hNs V I hS (rfl) dX1_perform_130
    · refine lv_aload_n hx hb dX1_perform_95 rfl (lv_at hl 0 rfl) ?_
      refine cG C9 V t_o0.1 hf33 rfl tC_lay0 4 (by decide) tCf_X1_36 (Or.inl rfl) rfl dX1_perform_96 ?_
      refine lv_if_ne (tgt := 117) hx hb dX1_perform_99 (by decide) (fun c38 => ?_) (fun c38 => ?_)
      · refine lv_aload_n hx hb dX1_perform_117 rfl (lv_at hl 0 rfl) ?_
        refine lv_aload_n hx hb dX1_perform_118 rfl (lv_at hl 1 rfl) ?_
        refine cGoV (cRunU (As := [.ref o1]) (rest := []) C9 hml hN hNs V I hS (cRc C9 V t_o0.1 hf33 rfl) (c_X9_holdUp l D ks τ L A N hN  ψ f o0 o1 (tyS_of t_o0 (by decide)) t_o1 ) (va_cwU 1 hts gU_X1_45_X1 rfl rfl rfl rfl okU_X1_45 ⟨Nat.le_of_ble_eq_true rfl, Nat.le_of_ble_eq_true rfl⟩) hl.1 rfl (Nat.le_of_ble_eq_true rfl) dX1_perform_119 ⟨Nat.zero_le _, Nat.zero_le _⟩) hS (fun p40 f39 H locs hqf39 V I hS => ?_)
        have I : cI ks τ L ψ f39 := by rw [show p40 = ψ from hqf39] at I; exact I
        refine lv_goto (tgt := 130) hx hb dX1_perform_122 (by decide) ?_
        exact cRetV C9 hr hlk hN hNs V I hS (rfl) dX1_perform_130
      · refine lv_aload_n hx hb dX1_perform_102 rfl (lv_at hl 0 rfl) ?_
        refine lv_aload_n hx hb dX1_perform_103 rfl (lv_at hl 1 rfl) ?_
        obtain ⟨v42_0, v42_1, v42_2, v42_3, v42_4, v42_5, v42_6, v42_7, v42_8, v42_9, v42_10, v42_11, v42_12, hf42, t42_7, t42_8, t42_11⟩ := op7 I t_o1
        refine cG C9 V t_o1.1 hf42 rfl tC_lay7 0 (by decide) tCf_X1_52 (Or.inl rfl) rfl dX1_perform_104 ?_
        refine cP (v := .int v42_0) (ty := .int) C9 V hS t_o0.1 hf33 rfl tC_lay0 tyX1 tyX1_ok nmX1 3 (by decide) tCf_X1_9 rfl rfl (by decide +kernel) rfl rfl (Nat.le_of_ble_eq_true rfl) dX1_perform_107 (fun f43 H locs ef43 V hS => ?_)
        have hf44 : f43 o0 = .inr (0, [.int v33_0, .int v33_1, .ref v33_2, .int v42_0, .int v33_4]) := up_s ef43
        have I := cI_up I t_o0.2 ef43 (mk0 t33_2)
        have hf45 := up_n ef43 t_o0.2 t_o1.2 (by first | decide | omega) hf42
        refine lv_aload_n hx hb dX1_perform_110 rfl (lv_at hl 1 rfl) ?_
        refine cGoV (cRunV (As := []) (rest := []) C9 hml hN hNs V I hS t_o1.1 hf45 rfl (c_X8_goOn l D ks τ L A N hN  ψ f43 o1 t_o1 ) gC_X1_39 okC_X8_goOn ⟨rfl, rfl, Nat.le_of_ble_eq_true rfl, Nat.le_of_ble_eq_true rfl⟩ hl.1 rfl (Nat.le_of_ble_eq_true rfl) dX1_perform_111 ⟨Nat.zero_le _, Nat.zero_le _⟩) hS (fun p47 f46 H locs hqf46 V I hS => ?_)
        have I : cI ks τ L ψ f46 := by rw [show p47 = ψ from hqf46] at I; exact I
        refine lv_goto (tgt := 130) hx hb dX1_perform_114 (by decide) ?_
        exact cRetV C9 hr hlk hN hNs V I hS (rfl) dX1_perform_130
  exact absurd hm6 List.not_mem_nil
set_option maxHeartbeats 200000 in
set_option maxRecDepth 100000 in
theorem c_X2_perform (l : Launch) (D : va_G) (ks : kS) (τ : Nat → Nat) (L : List Nat) (A : Nat → Prop) (N : State → Prop) (hN : cNk A N) (κ : kC) (hN0 : ∀ U, N U → N0 κ A U) (ψ : Int32) (f : Nat → va_E) (o0 : Nat) (o1 : Nat) (o2 : Nat) (t_o0 : ty τ L o0 1) (t_o1 : ty τ L o1 7) (t_o2 : isW κ o2) : Met l yX2_perform (Cond.code yX2_perform cX2_perform 4 none :: tC) ({ frames := 4, cells := 0, slots := 0, locals := 87 }) (va_Pc [.ref o0, .ref o1, .ref o2] (cB D ks τ L A N (ψ, f))) (va_Qv (fun x9 => x9.1 = ψ) (cB D ks τ L A N) A) 0 0 A := by
  refine cMet (own := RX2) (by decide) rfl (Nat.le_of_ble_eq_true rfl) ?_
  intro p e s m below meth c ls C9 hml hr hlk V I hNs hl
  have hx := C9.1
  have hb := C9.2.1
  have hown := C9.2.2.1
  have hts := C9.2.2.2.1
  have h0 := hN0 s hNs
  have hS : va_S A s.heap s.heap [] := va_S.rf
  have hl : lv_has ls 4 [(0, .ref o0), (1, .ref o1), (2, .ref o2)] := hl
  refine cZs C9 h0 hS tCf_X2_19 dX2_perform_0 (fun y1 hy1 => ?_)
  refine lv_aload_n hx hb dX2_perform_3 rfl (lv_at hl 2 rfl) ?_
  refine cGoI (cRunU (As := []) (rest := [.ref y1]) C9 hml hN hNs V I hS (isW_r h0 hS t_o2) (c_Jx29ce0_ordinal_8abf5 l D ks τ L A N hN κ hN0 ψ f o2 t_o2 ) (va_cwU 0 hts gU_X2_25_X11 rfl rfl rfl rfl okU_X2_25 ⟨Nat.le_of_ble_eq_true rfl, Nat.le_of_ble_eq_true rfl⟩) hl.1 rfl (Nat.le_of_ble_eq_true rfl) dX2_perform_4 ⟨Nat.zero_le _, Nat.zero_le _⟩) hS (fun r4 p3 f2 H locs hqf2 V I hS => ?_)
  have V : cV D L f A H := by rw [show f2 = f from congrArg Prod.snd hqf2.1] at V; exact V
  have I : cI ks τ L ψ f := by rw [show f2 = f from congrArg Prod.snd hqf2.1, show p3 = ψ from congrArg Prod.fst hqf2.1] at I; exact I
  refine cLs C9 hy1 hS (cvin (N := 34) rfl (hqf2.2.1) (hqf2.2.2)) dX2_perform_7 (fun x5 => ?_)
  refine cTab hx hb [172, 44, 55, 70, 95, 149] dX2_perform_8 rfl (by decide) ?_
  intro t9 hm6
  rcases List.mem_cons.mp hm6 with rfl | hm6
  · refine lv_aload_n hx hb dX2_perform_172 rfl (lv_at hl 0 rfl) ?_
    obtain ⟨v7_0, v7_1, v7_2, v7_3, v7_4, hf7, t7_2⟩ := op1 I t_o0
    refine cG C9 V t_o0.1 hf7 rfl tC_lay1 3 (by decide) tCf_X2_9 (Or.inl rfl) rfl dX2_perform_173 ?_
    refine lv_if_eq (tgt := 190) hx hb dX2_perform_176 (by decide) (fun c8 => ?_) (fun c8 => ?_)
    · refine lv_aload_n hx hb dX2_perform_190 rfl (lv_at hl 0 rfl) ?_
      refine lv_aload_n hx hb dX2_perform_191 rfl (lv_at hl 1 rfl) ?_
      refine cGoV (cRunU (As := [.ref o1]) (rest := []) C9 hml hN hNs V I hS (cRc C9 V t_o0.1 hf7 rfl) (c_X9_holdUp l D ks τ L A N hN  ψ f o0 o1 (tyS_of t_o0 (by decide)) t_o1 ) (va_cwU 1 hts gU_X2_52_X2 rfl rfl rfl rfl okU_X2_52 ⟨Nat.le_of_ble_eq_true rfl, Nat.le_of_ble_eq_true rfl⟩) hl.1 rfl (Nat.le_of_ble_eq_true rfl) dX2_perform_192 ⟨Nat.zero_le _, Nat.zero_le _⟩) hS (fun p10 f9 H locs hqf9 V I hS => ?_)
      have I : cI ks τ L ψ f9 := by rw [show p10 = ψ from hqf9] at I; exact I
      exact cRetV C9 hr hlk hN hNs V I hS (rfl) dX2_perform_195
    · refine lv_aload_n hx hb dX2_perform_179 rfl (lv_at hl 1 rfl) ?_
      refine lv_aload_n hx hb dX2_perform_180 rfl (lv_at hl 0 rfl) ?_
      refine cG C9 V t_o0.1 hf7 rfl tC_lay1 4 (by decide) tCf_X2_15 (Or.inl rfl) rfl dX2_perform_181 ?_
      obtain ⟨v12_0, v12_1, v12_2, v12_3, v12_4, v12_5, v12_6, v12_7, v12_8, v12_9, v12_10, v12_11, v12_12, hf12, t12_7, t12_8, t12_11⟩ := op7 I t_o1
      refine cGoV (cRunV (As := [.int v7_4]) (rest := []) C9 hml hN hNs V I hS t_o1.1 hf12 rfl (c_X8_goOnWith l D ks τ L A N hN  ψ f o1 v7_4 t_o1 ) gC_X2_31 okC_X8_goOnWith ⟨rfl, rfl, Nat.le_of_ble_eq_true rfl, Nat.le_of_ble_eq_true rfl⟩ hl.1 rfl (Nat.le_of_ble_eq_true rfl) dX2_perform_184 ⟨Nat.zero_le _, Nat.zero_le _⟩) hS (fun p14 f13 H locs hqf13 V I hS => ?_)
      have I : cI ks τ L ψ f13 := by rw [show p14 = ψ from hqf13] at I; exact I
      refine lv_goto (tgt := 195) hx hb dX2_perform_187 (by decide) ?_
      exact cRetV C9 hr hlk hN hNs V I hS (rfl) dX2_perform_195
  rcases List.mem_cons.mp hm6 with rfl | hm6
  · refine lv_aload_n hx hb dX2_perform_44 rfl (lv_at hl 1 rfl) ?_
    refine lv_aload_n hx hb dX2_perform_45 rfl (lv_at hl 0 rfl) ?_
    obtain ⟨v16_0, v16_1, v16_2, v16_3, v16_4, hf16, t16_2⟩ := op1 I t_o0
    refine cG C9 V t_o0.1 hf16 rfl tC_lay1 4 (by decide) tCf_X2_15 (Or.inl rfl) rfl dX2_perform_46 ?_
    obtain ⟨v17_0, v17_1, v17_2, v17_3, v17_4, v17_5, v17_6, v17_7, v17_8, v17_9, v17_10, v17_11, v17_12, hf17, t17_7, t17_8, t17_11⟩ := op7 I t_o1
    refine cGoV (cRunV (As := [.int v16_4]) (rest := []) C9 hml hN hNs V I hS t_o1.1 hf17 rfl (c_X8_goOnWith l D ks τ L A N hN  ψ f o1 v16_4 t_o1 ) gC_X2_31 okC_X8_goOnWith ⟨rfl, rfl, Nat.le_of_ble_eq_true rfl, Nat.le_of_ble_eq_true rfl⟩ hl.1 rfl (Nat.le_of_ble_eq_true rfl) dX2_perform_49 ⟨Nat.zero_le _, Nat.zero_le _⟩) hS (fun p19 f18 H locs hqf18 V I hS => ?_)
    have I : cI ks τ L ψ f18 := by rw [show p19 = ψ from hqf18] at I; exact I
    refine lv_goto (tgt := 195) hx hb dX2_perform_52 (by decide) ?_
    exact cRetV C9 hr hlk hN hNs V I hS (rfl) dX2_perform_195
  rcases List.mem_cons.mp hm6 with rfl | hm6
  · refine lv_aload_n hx hb dX2_perform_55 rfl (lv_at hl 0 rfl) ?_
    refine lv_aload_n hx hb dX2_perform_56 rfl (lv_at hl 1 rfl) ?_
    obtain ⟨v21_0, v21_1, v21_2, v21_3, v21_4, v21_5, v21_6, v21_7, v21_8, v21_9, v21_10, v21_11, v21_12, hf21, t21_7, t21_8, t21_11⟩ := op7 I t_o1
    refine cG C9 V t_o1.1 hf21 rfl tC_lay7 2 (by decide) tCf_X2_37 (Or.inl rfl) rfl dX2_perform_57 ?_
    obtain ⟨v22_0, v22_1, v22_2, v22_3, v22_4, hf22, t22_2⟩ := op1 I t_o0
    refine cP (v := .int v21_2) (ty := .int) C9 V hS t_o0.1 hf22 rfl tC_lay1 tyX2 tyX2_ok nmX2 4 (by decide) tCf_X2_15 rfl rfl (by decide +kernel) rfl rfl (Nat.le_of_ble_eq_true rfl) dX2_perform_60 (fun f23 H locs ef23 V hS => ?_)
    have hf24 : f23 o0 = .inr (1, [.int v22_0, .int v22_1, .ref v22_2, .int v22_3, .int v21_2]) := up_s ef23
    have I := cI_up I t_o0.2 ef23 (mk1 t22_2)
    have hf25 := up_n ef23 t_o0.2 t_o1.2 (by first | decide | omega) hf21
    refine lv_aload_n hx hb dX2_perform_63 rfl (lv_at hl 1 rfl) ?_
    refine cGoV (cRunV (As := []) (rest := []) C9 hml hN hNs V I hS t_o1.1 hf25 rfl (c_X8_goOn l D ks τ L A N hN  ψ f23 o1 t_o1 ) gC_X2_40 okC_X8_goOn ⟨rfl, rfl, Nat.le_of_ble_eq_true rfl, Nat.le_of_ble_eq_true rfl⟩ hl.1 rfl (Nat.le_of_ble_eq_true rfl) dX2_perform_64 ⟨Nat.zero_le _, Nat.zero_le _⟩) hS (fun p27 f26 H locs hqf26 V I hS => ?_)
    have I : cI ks τ L ψ f26 := by rw [show p27 = ψ from hqf26] at I; exact I
    refine lv_goto (tgt := 195) hx hb dX2_perform_67 (by decide) ?_
    exact cRetV C9 hr hlk hN hNs V I hS (rfl) dX2_perform_195
  rcases List.mem_cons.mp hm6 with rfl | hm6
  · refine lv_aload_n hx hb dX2_perform_70 rfl (lv_at hl 0 rfl) ?_
    refine lv_dup hx hb dX2_perform_71 rfl ?_
    obtain ⟨v29_0, v29_1, v29_2, v29_3, v29_4, hf29, t29_2⟩ := op1 I t_o0
    refine cG C9 V t_o0.1 hf29 rfl tC_lay1 4 (by decide) tCf_X2_15 (Or.inl rfl) rfl dX2_perform_72 ?_
    refine lv_aload_n hx hb dX2_perform_75 rfl (lv_at hl 1 rfl) ?_
    refine lv_iconst (v := 1) hx hb dX2_perform_76 (by decide) ?_
    obtain ⟨v30_0, v30_1, v30_2, v30_3, v30_4, v30_5, v30_6, v30_7, v30_8, v30_9, v30_10, v30_11, v30_12, hf30, t30_7, t30_8, t30_11⟩ := op7 I t_o1
    refine cGoI (cRunV (As := [.int 1]) (rest := [.int v29_4, .ref o0]) C9 hml hN hNs V I hS t_o1.1 hf30 rfl (c_X8_operand l D ks τ L A N hN  ψ f o1 1 t_o1 ) gC_X2_44 okC_X8_operand ⟨rfl, rfl, Nat.le_of_ble_eq_true rfl, Nat.le_of_ble_eq_true rfl⟩ hl.1 rfl (Nat.le_of_ble_eq_true rfl) dX2_perform_77 ⟨Nat.zero_le _, Nat.zero_le _⟩) hS (fun r33 p32 f31 H locs hqf31 V I hS => ?_)
    have I : cI ks τ L ψ f31 := by rw [show p32 = ψ from hqf31] at I; exact I
    refine lv_iadd hx hb dX2_perform_80 ?_
    obtain ⟨v34_0, v34_1, v34_2, v34_3, v34_4, hf34, t34_2⟩ := op1 I t_o0
    refine lv_topi (fun x35 ex35 => ?_)
    refine cP (v := .int x35) (ty := .int) C9 V hS t_o0.1 hf34 rfl tC_lay1 tyX2 tyX2_ok nmX2 4 (by decide) tCf_X2_15 rfl rfl (by decide +kernel) rfl rfl (Nat.le_of_ble_eq_true rfl) dX2_perform_81 (fun f36 H locs ef36 V hS => ?_)
    have hf37 : f36 o0 = .inr (1, [.int v34_0, .int v34_1, .ref v34_2, .int v34_3, .int x35]) := up_s ef36
    have I := cI_up I t_o0.2 ef36 (mk1 t34_2)
    refine lv_aload_n hx hb dX2_perform_84 rfl (lv_at hl 1 rfl) ?_
    refine lv_aload_n hx hb dX2_perform_85 rfl (lv_at hl 0 rfl) ?_
    refine cG C9 V t_o0.1 hf37 rfl tC_lay1 4 (by decide) tCf_X2_15 (Or.inl rfl) rfl dX2_perform_86 ?_
    obtain ⟨v38_0, v38_1, v38_2, v38_3, v38_4, v38_5, v38_6, v38_7, v38_8, v38_9, v38_10, v38_11, v38_12, hf38, t38_7, t38_8, t38_11⟩ := op7 I t_o1
    refine cGoV (cRunV (As := [.int x35]) (rest := []) C9 hml hN hNs V I hS t_o1.1 hf38 rfl (c_X8_goOnWith l D ks τ L A N hN  ψ f36 o1 x35 t_o1 ) gC_X2_31 okC_X8_goOnWith ⟨rfl, rfl, Nat.le_of_ble_eq_true rfl, Nat.le_of_ble_eq_true rfl⟩ hl.1 rfl (Nat.le_of_ble_eq_true rfl) dX2_perform_89 ⟨Nat.zero_le _, Nat.zero_le _⟩) hS (fun p40 f39 H locs hqf39 V I hS => ?_)
    have I : cI ks τ L ψ f39 := by rw [show p40 = ψ from hqf39] at I; exact I
    refine lv_goto (tgt := 195) hx hb dX2_perform_92 (by decide) ?_
    exact cRetV C9 hr hlk hN hNs V I hS (rfl) dX2_perform_195
  rcases List.mem_cons.mp hm6 with rfl | hm6
  · refine lv_aload_n hx hb dX2_perform_95 rfl (lv_at hl 0 rfl) ?_
    obtain ⟨v42_0, v42_1, v42_2, v42_3, v42_4, hf42, t42_2⟩ := op1 I t_o0
    refine cG C9 V t_o0.1 hf42 rfl tC_lay1 4 (by decide) tCf_X2_15 (Or.inl rfl) rfl dX2_perform_96 ?_
    refine lv_aload_n hx hb dX2_perform_99 rfl (lv_at hl 1 rfl) ?_
    refine lv_iconst (v := 1) hx hb dX2_perform_100 (by decide) ?_
    obtain ⟨v43_0, v43_1, v43_2, v43_3, v43_4, v43_5, v43_6, v43_7, v43_8, v43_9, v43_10, v43_11, v43_12, hf43, t43_7, t43_8, t43_11⟩ := op7 I t_o1
    refine cGoI (cRunV (As := [.int 1]) (rest := [.int v42_4]) C9 hml hN hNs V I hS t_o1.1 hf43 rfl (c_X8_operand l D ks τ L A N hN  ψ f o1 1 t_o1 ) gC_X2_44 okC_X8_operand ⟨rfl, rfl, Nat.le_of_ble_eq_true rfl, Nat.le_of_ble_eq_true rfl⟩ hl.1 rfl (Nat.le_of_ble_eq_true rfl) dX2_perform_101 ⟨Nat.zero_le _, Nat.zero_le _⟩) hS (fun r46 p45 f44 H locs hqf44 V I hS => ?_)
    have I : cI ks τ L ψ f44 := by rw [show p45 = ψ from hqf44] at I; exact I
    refine lv_icmp_ne (tgt := 111) hx hb dX2_perform_104 (by decide) (fun c47 => ?_) (fun c47 => ?_)
    · refine lv_iconst (v := 0) hx hb dX2_perform_111 (by decide) ?_
      refine lv_topi (fun x48 ex48 => ?_)
      refine lv_istore_n (lv' := [(3, .int x48), (0, .ref o0), (1, .ref o1), (2, .ref o2)]) hx hb dX2_perform_112 rfl hl (by decide) rfl (fun ls hl => ?_)
      refine lv_aload_n hx hb dX2_perform_113 rfl (lv_at hl 1 rfl) ?_
      refine lv_iload_n hx hb dX2_perform_114 rfl (lv_at hl 0 rfl) ?_
      refine lv_if_eq (tgt := 126) hx hb dX2_perform_115 (by decide) (fun c49 => ?_) (fun c49 => ?_)
      · refine lv_aload_n hx hb dX2_perform_126 rfl (lv_at hl 1 rfl) ?_
        obtain ⟨v50_0, v50_1, v50_2, v50_3, v50_4, hf50, t50_2⟩ := op1 I t_o0
        refine cG C9 V t_o0.1 hf50 rfl tC_lay1 4 (by decide) tCf_X2_15 (Or.inl rfl) rfl dX2_perform_127 ?_
        refine cP (v := .int v50_4) (ty := .int) C9 V hS t_o0.1 hf50 rfl tC_lay1 tyX2 tyX2_ok nmX2 4 (by decide) tCf_X2_15 rfl rfl (by decide +kernel) rfl rfl (Nat.le_of_ble_eq_true rfl) dX2_perform_130 (fun f51 H locs ef51 V hS => ?_)
        have hf52 : f51 o0 = .inr (1, [.int v50_0, .int v50_1, .ref v50_2, .int v50_3, .int v50_4]) := up_s ef51
        have I := cI_up I t_o0.2 ef51 (mk1 t50_2)
        refine lv_aload_n hx hb dX2_perform_133 rfl (lv_at hl 2 rfl) ?_
        refine lv_iload_n hx hb dX2_perform_134 rfl (lv_at hl 0 rfl) ?_
        refine lv_if_eq (tgt := 142) hx hb dX2_perform_135 (by decide) (fun c53 => ?_) (fun c53 => ?_)
        · refine lv_iconst (v := 0) hx hb dX2_perform_142 (by decide) ?_
          obtain ⟨v54_0, v54_1, v54_2, v54_3, v54_4, v54_5, v54_6, v54_7, v54_8, v54_9, v54_10, v54_11, v54_12, hf54, t54_7, t54_8, t54_11⟩ := op7 I t_o1
          refine cGoV (cRunV (As := [.int 0]) (rest := []) C9 hml hN hNs V I hS t_o1.1 hf54 rfl (c_X8_goOnWith l D ks τ L A N hN  ψ f51 o1 0 t_o1 ) gC_X2_31 okC_X8_goOnWith ⟨rfl, rfl, Nat.le_of_ble_eq_true rfl, Nat.le_of_ble_eq_true rfl⟩ hl.1 rfl (Nat.le_of_ble_eq_true rfl) dX2_perform_143 ⟨Nat.zero_le _, Nat.zero_le _⟩) hS (fun p56 f55 H locs hqf55 V I hS => ?_)
          have I : cI ks τ L ψ f55 := by rw [show p56 = ψ from hqf55] at I; exact I
          refine lv_goto (tgt := 195) hx hb dX2_perform_146 (by decide) ?_
          exact cRetV C9 hr hlk hN hNs V I hS (rfl) dX2_perform_195
        · refine lv_iconst (v := 1) hx hb dX2_perform_138 (by decide) ?_
          refine lv_goto (tgt := 143) hx hb dX2_perform_139 (by decide) ?_
          obtain ⟨v58_0, v58_1, v58_2, v58_3, v58_4, v58_5, v58_6, v58_7, v58_8, v58_9, v58_10, v58_11, v58_12, hf58, t58_7, t58_8, t58_11⟩ := op7 I t_o1
          refine cGoV (cRunV (As := [.int 1]) (rest := []) C9 hml hN hNs V I hS t_o1.1 hf58 rfl (c_X8_goOnWith l D ks τ L A N hN  ψ f51 o1 1 t_o1 ) gC_X2_31 okC_X8_goOnWith ⟨rfl, rfl, Nat.le_of_ble_eq_true rfl, Nat.le_of_ble_eq_true rfl⟩ hl.1 rfl (Nat.le_of_ble_eq_true rfl) dX2_perform_143 ⟨Nat.zero_le _, Nat.zero_le _⟩) hS (fun p60 f59 H locs hqf59 V I hS => ?_)
          have I : cI ks τ L ψ f59 := by rw [show p60 = ψ from hqf59] at I; exact I
          refine lv_goto (tgt := 195) hx hb dX2_perform_146 (by decide) ?_
          exact cRetV C9 hr hlk hN hNs V I hS (rfl) dX2_perform_195
      · refine lv_aload_n hx hb dX2_perform_118 rfl (lv_at hl 2 rfl) ?_
        refine lv_iconst (v := 2) hx hb dX2_perform_119 (by decide) ?_
        obtain ⟨v62_0, v62_1, v62_2, v62_3, v62_4, v62_5, v62_6, v62_7, v62_8, v62_9, v62_10, v62_11, v62_12, hf62, t62_7, t62_8, t62_11⟩ := op7 I t_o1
        refine cGoI (cRunV (As := [.int 2]) (rest := [.ref o0]) C9 hml hN hNs V I hS t_o1.1 hf62 rfl (c_X8_operand l D ks τ L A N hN  ψ f44 o1 2 t_o1 ) gC_X2_44 okC_X8_operand ⟨rfl, rfl, Nat.le_of_ble_eq_true rfl, Nat.le_of_ble_eq_true rfl⟩ hl.1 rfl (Nat.le_of_ble_eq_true rfl) dX2_perform_120 ⟨Nat.zero_le _, Nat.zero_le _⟩) hS (fun r65 p64 f63 H locs hqf63 V I hS => ?_)
        have I : cI ks τ L ψ f63 := by rw [show p64 = ψ from hqf63] at I; exact I
        refine lv_goto (tgt := 130) hx hb dX2_perform_123 (by decide) ?_
        obtain ⟨v66_0, v66_1, v66_2, v66_3, v66_4, hf66, t66_2⟩ := op1 I t_o0
        refine cP (v := .int r65) (ty := .int) C9 V hS t_o0.1 hf66 rfl tC_lay1 tyX2 tyX2_ok nmX2 4 (by decide) tCf_X2_15 rfl rfl (by decide +kernel) rfl rfl (Nat.le_of_ble_eq_true rfl) dX2_perform_130 (fun f67 H locs ef67 V hS => ?_)
        have hf68 : f67 o0 = .inr (1, [.int v66_0, .int v66_1, .ref v66_2, .int v66_3, .int r65]) := up_s ef67
        have I := cI_up I t_o0.2 ef67 (mk1 t66_2)
        refine lv_aload_n hx hb dX2_perform_133 rfl (lv_at hl 2 rfl) ?_
        refine lv_iload_n hx hb dX2_perform_134 rfl (lv_at hl 0 rfl) ?_
        refine lv_if_eq (tgt := 142) hx hb dX2_perform_135 (by decide) (fun c69 => ?_) (fun c69 => ?_)
        · refine lv_iconst (v := 0) hx hb dX2_perform_142 (by decide) ?_
          obtain ⟨v70_0, v70_1, v70_2, v70_3, v70_4, v70_5, v70_6, v70_7, v70_8, v70_9, v70_10, v70_11, v70_12, hf70, t70_7, t70_8, t70_11⟩ := op7 I t_o1
          refine cGoV (cRunV (As := [.int 0]) (rest := []) C9 hml hN hNs V I hS t_o1.1 hf70 rfl (c_X8_goOnWith l D ks τ L A N hN  ψ f67 o1 0 t_o1 ) gC_X2_31 okC_X8_goOnWith ⟨rfl, rfl, Nat.le_of_ble_eq_true rfl, Nat.le_of_ble_eq_true rfl⟩ hl.1 rfl (Nat.le_of_ble_eq_true rfl) dX2_perform_143 ⟨Nat.zero_le _, Nat.zero_le _⟩) hS (fun p72 f71 H locs hqf71 V I hS => ?_)
          have I : cI ks τ L ψ f71 := by rw [show p72 = ψ from hqf71] at I; exact I
          refine lv_goto (tgt := 195) hx hb dX2_perform_146 (by decide) ?_
          exact cRetV C9 hr hlk hN hNs V I hS (rfl) dX2_perform_195
        · refine lv_iconst (v := 1) hx hb dX2_perform_138 (by decide) ?_
          refine lv_goto (tgt := 143) hx hb dX2_perform_139 (by decide) ?_
          obtain ⟨v74_0, v74_1, v74_2, v74_3, v74_4, v74_5, v74_6, v74_7, v74_8, v74_9, v74_10, v74_11, v74_12, hf74, t74_7, t74_8, t74_11⟩ := op7 I t_o1
          refine cGoV (cRunV (As := [.int 1]) (rest := []) C9 hml hN hNs V I hS t_o1.1 hf74 rfl (c_X8_goOnWith l D ks τ L A N hN  ψ f67 o1 1 t_o1 ) gC_X2_31 okC_X8_goOnWith ⟨rfl, rfl, Nat.le_of_ble_eq_true rfl, Nat.le_of_ble_eq_true rfl⟩ hl.1 rfl (Nat.le_of_ble_eq_true rfl) dX2_perform_143 ⟨Nat.zero_le _, Nat.zero_le _⟩) hS (fun p76 f75 H locs hqf75 V I hS => ?_)
          have I : cI ks τ L ψ f75 := by rw [show p76 = ψ from hqf75] at I; exact I
          refine lv_goto (tgt := 195) hx hb dX2_perform_146 (by decide) ?_
          exact cRetV C9 hr hlk hN hNs V I hS (rfl) dX2_perform_195
    · refine lv_iconst (v := 1) hx hb dX2_perform_107 (by decide) ?_
      refine lv_goto (tgt := 112) hx hb dX2_perform_108 (by decide) ?_
      refine lv_topi (fun x78 ex78 => ?_)
      refine lv_istore_n (lv' := [(3, .int x78), (0, .ref o0), (1, .ref o1), (2, .ref o2)]) hx hb dX2_perform_112 rfl hl (by decide) rfl (fun ls hl => ?_)
      refine lv_aload_n hx hb dX2_perform_113 rfl (lv_at hl 1 rfl) ?_
      refine lv_iload_n hx hb dX2_perform_114 rfl (lv_at hl 0 rfl) ?_
      refine lv_if_eq (tgt := 126) hx hb dX2_perform_115 (by decide) (fun c79 => ?_) (fun c79 => ?_)
      · refine lv_aload_n hx hb dX2_perform_126 rfl (lv_at hl 1 rfl) ?_
        obtain ⟨v80_0, v80_1, v80_2, v80_3, v80_4, hf80, t80_2⟩ := op1 I t_o0
        refine cG C9 V t_o0.1 hf80 rfl tC_lay1 4 (by decide) tCf_X2_15 (Or.inl rfl) rfl dX2_perform_127 ?_
        refine cP (v := .int v80_4) (ty := .int) C9 V hS t_o0.1 hf80 rfl tC_lay1 tyX2 tyX2_ok nmX2 4 (by decide) tCf_X2_15 rfl rfl (by decide +kernel) rfl rfl (Nat.le_of_ble_eq_true rfl) dX2_perform_130 (fun f81 H locs ef81 V hS => ?_)
        have hf82 : f81 o0 = .inr (1, [.int v80_0, .int v80_1, .ref v80_2, .int v80_3, .int v80_4]) := up_s ef81
        have I := cI_up I t_o0.2 ef81 (mk1 t80_2)
        refine lv_aload_n hx hb dX2_perform_133 rfl (lv_at hl 2 rfl) ?_
        refine lv_iload_n hx hb dX2_perform_134 rfl (lv_at hl 0 rfl) ?_
        refine lv_if_eq (tgt := 142) hx hb dX2_perform_135 (by decide) (fun c83 => ?_) (fun c83 => ?_)
        · refine lv_iconst (v := 0) hx hb dX2_perform_142 (by decide) ?_
          obtain ⟨v84_0, v84_1, v84_2, v84_3, v84_4, v84_5, v84_6, v84_7, v84_8, v84_9, v84_10, v84_11, v84_12, hf84, t84_7, t84_8, t84_11⟩ := op7 I t_o1
          refine cGoV (cRunV (As := [.int 0]) (rest := []) C9 hml hN hNs V I hS t_o1.1 hf84 rfl (c_X8_goOnWith l D ks τ L A N hN  ψ f81 o1 0 t_o1 ) gC_X2_31 okC_X8_goOnWith ⟨rfl, rfl, Nat.le_of_ble_eq_true rfl, Nat.le_of_ble_eq_true rfl⟩ hl.1 rfl (Nat.le_of_ble_eq_true rfl) dX2_perform_143 ⟨Nat.zero_le _, Nat.zero_le _⟩) hS (fun p86 f85 H locs hqf85 V I hS => ?_)
          have I : cI ks τ L ψ f85 := by rw [show p86 = ψ from hqf85] at I; exact I
          refine lv_goto (tgt := 195) hx hb dX2_perform_146 (by decide) ?_
          exact cRetV C9 hr hlk hN hNs V I hS (rfl) dX2_perform_195
        · refine lv_iconst (v := 1) hx hb dX2_perform_138 (by decide) ?_
          refine lv_goto (tgt := 143) hx hb dX2_perform_139 (by decide) ?_
          obtain ⟨v88_0, v88_1, v88_2, v88_3, v88_4, v88_5, v88_6, v88_7, v88_8, v88_9, v88_10, v88_11, v88_12, hf88, t88_7, t88_8, t88_11⟩ := op7 I t_o1
          refine cGoV (cRunV (As := [.int 1]) (rest := []) C9 hml hN hNs V I hS t_o1.1 hf88 rfl (c_X8_goOnWith l D ks τ L A N hN  ψ f81 o1 1 t_o1 ) gC_X2_31 okC_X8_goOnWith ⟨rfl, rfl, Nat.le_of_ble_eq_true rfl, Nat.le_of_ble_eq_true rfl⟩ hl.1 rfl (Nat.le_of_ble_eq_true rfl) dX2_perform_143 ⟨Nat.zero_le _, Nat.zero_le _⟩) hS (fun p90 f89 H locs hqf89 V I hS => ?_)
          have I : cI ks τ L ψ f89 := by rw [show p90 = ψ from hqf89] at I; exact I
          refine lv_goto (tgt := 195) hx hb dX2_perform_146 (by decide) ?_
          exact cRetV C9 hr hlk hN hNs V I hS (rfl) dX2_perform_195
      · refine lv_aload_n hx hb dX2_perform_118 rfl (lv_at hl 2 rfl) ?_
        refine lv_iconst (v := 2) hx hb dX2_perform_119 (by decide) ?_
        obtain ⟨v92_0, v92_1, v92_2, v92_3, v92_4, v92_5, v92_6, v92_7, v92_8, v92_9, v92_10, v92_11, v92_12, hf92, t92_7, t92_8, t92_11⟩ := op7 I t_o1
        refine cGoI (cRunV (As := [.int 2]) (rest := [.ref o0]) C9 hml hN hNs V I hS t_o1.1 hf92 rfl (c_X8_operand l D ks τ L A N hN  ψ f44 o1 2 t_o1 ) gC_X2_44 okC_X8_operand ⟨rfl, rfl, Nat.le_of_ble_eq_true rfl, Nat.le_of_ble_eq_true rfl⟩ hl.1 rfl (Nat.le_of_ble_eq_true rfl) dX2_perform_120 ⟨Nat.zero_le _, Nat.zero_le _⟩) hS (fun r95 p94 f93 H locs hqf93 V I hS => ?_)
        have I : cI ks τ L ψ f93 := by rw [show p94 = ψ from hqf93] at I; exact I
        refine lv_goto (tgt := 130) hx hb dX2_perform_123 (by decide) ?_
        obtain ⟨v96_0, v96_1, v96_2, v96_3, v96_4, hf96, t96_2⟩ := op1 I t_o0
        refine cP (v := .int r95) (ty := .int) C9 V hS t_o0.1 hf96 rfl tC_lay1 tyX2 tyX2_ok nmX2 4 (by decide) tCf_X2_15 rfl rfl (by decide +kernel) rfl rfl (Nat.le_of_ble_eq_true rfl) dX2_perform_130 (fun f97 H locs ef97 V hS => ?_)
        have hf98 : f97 o0 = .inr (1, [.int v96_0, .int v96_1, .ref v96_2, .int v96_3, .int r95]) := up_s ef97
        have I := cI_up I t_o0.2 ef97 (mk1 t96_2)
        refine lv_aload_n hx hb dX2_perform_133 rfl (lv_at hl 2 rfl) ?_
        refine lv_iload_n hx hb dX2_perform_134 rfl (lv_at hl 0 rfl) ?_
        refine lv_if_eq (tgt := 142) hx hb dX2_perform_135 (by decide) (fun c99 => ?_) (fun c99 => ?_)
        · refine lv_iconst (v := 0) hx hb dX2_perform_142 (by decide) ?_
          obtain ⟨v100_0, v100_1, v100_2, v100_3, v100_4, v100_5, v100_6, v100_7, v100_8, v100_9, v100_10, v100_11, v100_12, hf100, t100_7, t100_8, t100_11⟩ := op7 I t_o1
          refine cGoV (cRunV (As := [.int 0]) (rest := []) C9 hml hN hNs V I hS t_o1.1 hf100 rfl (c_X8_goOnWith l D ks τ L A N hN  ψ f97 o1 0 t_o1 ) gC_X2_31 okC_X8_goOnWith ⟨rfl, rfl, Nat.le_of_ble_eq_true rfl, Nat.le_of_ble_eq_true rfl⟩ hl.1 rfl (Nat.le_of_ble_eq_true rfl) dX2_perform_143 ⟨Nat.zero_le _, Nat.zero_le _⟩) hS (fun p102 f101 H locs hqf101 V I hS => ?_)
          have I : cI ks τ L ψ f101 := by rw [show p102 = ψ from hqf101] at I; exact I
          refine lv_goto (tgt := 195) hx hb dX2_perform_146 (by decide) ?_
          exact cRetV C9 hr hlk hN hNs V I hS (rfl) dX2_perform_195
        · refine lv_iconst (v := 1) hx hb dX2_perform_138 (by decide) ?_
          refine lv_goto (tgt := 143) hx hb dX2_perform_139 (by decide) ?_
          obtain ⟨v104_0, v104_1, v104_2, v104_3, v104_4, v104_5, v104_6, v104_7, v104_8, v104_9, v104_10, v104_11, v104_12, hf104, t104_7, t104_8, t104_11⟩ := op7 I t_o1
          refine cGoV (cRunV (As := [.int 1]) (rest := []) C9 hml hN hNs V I hS t_o1.1 hf104 rfl (c_X8_goOnWith l D ks τ L A N hN  ψ f97 o1 1 t_o1 ) gC_X2_31 okC_X8_goOnWith ⟨rfl, rfl, Nat.le_of_ble_eq_true rfl, Nat.le_of_ble_eq_true rfl⟩ hl.1 rfl (Nat.le_of_ble_eq_true rfl) dX2_perform_143 ⟨Nat.zero_le _, Nat.zero_le _⟩) hS (fun p106 f105 H locs hqf105 V I hS => ?_)
          have I : cI ks τ L ψ f105 := by rw [show p106 = ψ from hqf105] at I; exact I
          refine lv_goto (tgt := 195) hx hb dX2_perform_146 (by decide) ?_
          exact cRetV C9 hr hlk hN hNs V I hS (rfl) dX2_perform_195
  rcases List.mem_cons.mp hm6 with rfl | hm6
  · refine lv_aload_n hx hb dX2_perform_149 rfl (lv_at hl 1 rfl) ?_
    refine lv_aload_n hx hb dX2_perform_150 rfl (lv_at hl 0 rfl) ?_
    refine lv_aload_n hx hb dX2_perform_151 rfl (lv_at hl 1 rfl) ?_
    obtain ⟨v108_0, v108_1, v108_2, v108_3, v108_4, v108_5, v108_6, v108_7, v108_8, v108_9, v108_10, v108_11, v108_12, hf108, t108_7, t108_8, t108_11⟩ := op7 I t_o1
    refine cG C9 V t_o1.1 hf108 rfl tC_lay7 2 (by decide) tCf_X2_37 (Or.inl rfl) rfl dX2_perform_152 ?_
    obtain ⟨v109_0, v109_1, v109_2, v109_3, v109_4, hf109, t109_2⟩ := op1 I t_o0
    refine cGoI (cRunV (As := [.int v108_2]) (rest := [.ref o1]) C9 hml hN hNs V I hS t_o0.1 hf109 rfl (c_X2_isGiven l D ks τ L A N hN  ψ f o0 v108_2 t_o0 ) gC_X2_48 okC_X2_isGiven ⟨rfl, rfl, Nat.le_of_ble_eq_true rfl, Nat.le_of_ble_eq_true rfl⟩ hl.1 rfl (Nat.le_of_ble_eq_true rfl) dX2_perform_155 ⟨Nat.zero_le _, Nat.zero_le _⟩) hS (fun r112 p111 f110 H locs hqf110 V I hS => ?_)
    have I : cI ks τ L ψ f110 := by rw [show p111 = ψ from hqf110] at I; exact I
    refine lv_if_eq (tgt := 165) hx hb dX2_perform_158 (by decide) (fun c113 => ?_) (fun c113 => ?_)
    · refine lv_iconst (v := 0) hx hb dX2_perform_165 (by decide) ?_
      obtain ⟨v114_0, v114_1, v114_2, v114_3, v114_4, v114_5, v114_6, v114_7, v114_8, v114_9, v114_10, v114_11, v114_12, hf114, t114_7, t114_8, t114_11⟩ := op7 I t_o1
      refine cGoV (cRunV (As := [.int 0]) (rest := []) C9 hml hN hNs V I hS t_o1.1 hf114 rfl (c_X8_goOnWith l D ks τ L A N hN  ψ f110 o1 0 t_o1 ) gC_X2_31 okC_X8_goOnWith ⟨rfl, rfl, Nat.le_of_ble_eq_true rfl, Nat.le_of_ble_eq_true rfl⟩ hl.1 rfl (Nat.le_of_ble_eq_true rfl) dX2_perform_166 ⟨Nat.zero_le _, Nat.zero_le _⟩) hS (fun p116 f115 H locs hqf115 V I hS => ?_)
      have I : cI ks τ L ψ f115 := by rw [show p116 = ψ from hqf115] at I; exact I
      refine lv_goto (tgt := 195) hx hb dX2_perform_169 (by decide) ?_
      exact cRetV C9 hr hlk hN hNs V I hS (rfl) dX2_perform_195
    · refine lv_iconst (v := 1) hx hb dX2_perform_161 (by decide) ?_
      refine lv_goto (tgt := 166) hx hb dX2_perform_162 (by decide) ?_
      obtain ⟨v118_0, v118_1, v118_2, v118_3, v118_4, v118_5, v118_6, v118_7, v118_8, v118_9, v118_10, v118_11, v118_12, hf118, t118_7, t118_8, t118_11⟩ := op7 I t_o1
      refine cGoV (cRunV (As := [.int 1]) (rest := []) C9 hml hN hNs V I hS t_o1.1 hf118 rfl (c_X8_goOnWith l D ks τ L A N hN  ψ f110 o1 1 t_o1 ) gC_X2_31 okC_X8_goOnWith ⟨rfl, rfl, Nat.le_of_ble_eq_true rfl, Nat.le_of_ble_eq_true rfl⟩ hl.1 rfl (Nat.le_of_ble_eq_true rfl) dX2_perform_166 ⟨Nat.zero_le _, Nat.zero_le _⟩) hS (fun p120 f119 H locs hqf119 V I hS => ?_)
      have I : cI ks τ L ψ f119 := by rw [show p120 = ψ from hqf119] at I; exact I
      refine lv_goto (tgt := 195) hx hb dX2_perform_169 (by decide) ?_
      exact cRetV C9 hr hlk hN hNs V I hS (rfl) dX2_perform_195
  exact absurd hm6 List.not_mem_nil
set_option maxHeartbeats 200000 in
set_option maxRecDepth 100000 in
theorem c_X3_perform (l : Launch) (D : va_G) (ks : kS) (τ : Nat → Nat) (L : List Nat) (A : Nat → Prop) (N : State → Prop) (hN : cNk A N) (κ : kC) (hN0 : ∀ U, N U → N0 κ A U) (ψ : Int32) (f : Nat → va_E) (o0 : Nat) (o1 : Nat) (o2 : Nat) (t_o0 : ty τ L o0 2) (t_o1 : ty τ L o1 7) (t_o2 : isW κ o2) : Met l yX3_perform (Cond.code yX3_perform cX3_perform 3 none :: tC) ({ frames := 4, cells := 0, slots := 0, locals := 84 }) (va_Pc [.ref o0, .ref o1, .ref o2] (cB D ks τ L A N (ψ, f))) (va_Qv (fun x9 => x9.1 = ψ) (cB D ks τ L A N) A) 0 0 A := by
  refine cMet (own := RX3) (by decide) rfl (Nat.le_of_ble_eq_true rfl) ?_
  intro p e s m below meth c ls C9 hml hr hlk V I hNs hl
  have hx := C9.1
  have hb := C9.2.1
  have hown := C9.2.2.1
  have hts := C9.2.2.2.1
  have h0 := hN0 s hNs
  have hS : va_S A s.heap s.heap [] := va_S.rf
  have hl : lv_has ls 3 [(0, .ref o0), (1, .ref o1), (2, .ref o2)] := hl
  refine cZs C9 h0 hS tCf_X3_15 dX3_perform_0 (fun y1 hy1 => ?_)
  refine lv_aload_n hx hb dX3_perform_3 rfl (lv_at hl 2 rfl) ?_
  refine cGoI (cRunU (As := []) (rest := [.ref y1]) C9 hml hN hNs V I hS (isW_r h0 hS t_o2) (c_Jx29ce0_ordinal_8abf5 l D ks τ L A N hN κ hN0 ψ f o2 t_o2 ) (va_cwU 0 hts gU_X3_21_X11 rfl rfl rfl rfl okU_X3_21 ⟨Nat.le_of_ble_eq_true rfl, Nat.le_of_ble_eq_true rfl⟩) hl.1 rfl (Nat.le_of_ble_eq_true rfl) dX3_perform_4 ⟨Nat.zero_le _, Nat.zero_le _⟩) hS (fun r4 p3 f2 H locs hqf2 V I hS => ?_)
  have V : cV D L f A H := by rw [show f2 = f from congrArg Prod.snd hqf2.1] at V; exact V
  have I : cI ks τ L ψ f := by rw [show f2 = f from congrArg Prod.snd hqf2.1, show p3 = ψ from congrArg Prod.fst hqf2.1] at I; exact I
  refine cLs C9 hy1 hS (cvin (N := 34) rfl (hqf2.2.1) (hqf2.2.2)) dX3_perform_7 (fun x5 => ?_)
  refine cLook hx hb [93, 36, 71] dX3_perform_8 rfl (by decide) ?_
  intro t9 hm6
  rcases List.mem_cons.mp hm6 with rfl | hm6
  · refine lv_aload_n hx hb dX3_perform_93 rfl (lv_at hl 1 rfl) ?_
    refine lv_aload_n hx hb dX3_perform_94 rfl (lv_at hl 0 rfl) ?_
    obtain ⟨v7_0, v7_1, v7_2, v7_3, hf7, t7_2⟩ := op2 I t_o0
    refine cG C9 V t_o0.1 hf7 rfl tC_lay2 3 (by decide) tCf_X3_9 (Or.inl rfl) rfl dX3_perform_95 ?_
    refine lv_aload_n hx hb dX3_perform_98 rfl (lv_at hl 0 rfl) ?_
    refine cG C9 V t_o0.1 hf7 rfl tC_lay2 2 (by decide) tCf_X3_40 (Or.inr tCs_X3_row) rfl dX3_perform_99 ?_
    obtain ⟨v8_0, v8_1, hf8, hn8, t8_1⟩ := op5 I t7_2
    refine cG C9 V t7_2.1 hf8 rfl tC_lay5 0 (by decide) tCf_X3_44 (Or.inl rfl) rfl dX3_perform_102 ?_
    refine lv_isub hx hb dX3_perform_105 ?_
    refine lv_iconst (v := 1) hx hb dX3_perform_106 (by decide) ?_
    refine lv_isub hx hb dX3_perform_107 ?_
    obtain ⟨v9_0, v9_1, v9_2, v9_3, v9_4, v9_5, v9_6, v9_7, v9_8, v9_9, v9_10, v9_11, v9_12, hf9, t9_7, t9_8, t9_11⟩ := op7 I t_o1
    refine lv_topi (fun x10 ex10 => ?_)
    refine cP (v := .int x10) (ty := .int) C9 V hS t_o1.1 hf9 rfl tC_lay7 tyX8 tyX8_ok nmX8 2 (by decide) tCf_X3_49 rfl rfl (by decide +kernel) rfl rfl (Nat.le_of_ble_eq_true rfl) dX3_perform_108 (fun f11 H locs ef11 V hS => ?_)
    have hf12 : f11 o1 = .inr (7, [.int v9_0, .int v9_1, .int x10, .int v9_3, .int v9_4, .int v9_5, .long v9_6, va_rf v9_7, va_rf v9_8, .int v9_9, .int v9_10, .ref v9_11, .int v9_12]) := up_s ef11
    have I := cI_up I t_o1.2 ef11 (mk7 t9_7 t9_8 t9_11)
    have hf13 := up_n ef11 t_o1.2 t_o0.2 (by first | decide | omega) hf7
    have hf14 := up_n ef11 t_o1.2 t7_2.2 (by first | decide | omega) hf8
    refine lv_aload_n hx hb dX3_perform_111 rfl (lv_at hl 1 rfl) ?_
    refine cG C9 V t_o1.1 hf12 rfl tC_lay7 2 (by decide) tCf_X3_49 (Or.inl rfl) rfl dX3_perform_112 ?_
    refine lv_if_ne (tgt := 129) hx hb dX3_perform_115 (by decide) (fun c15 => ?_) (fun c15 => ?_)
    · refine lv_aload_n hx hb dX3_perform_129 rfl (lv_at hl 0 rfl) ?_
      refine lv_aload_n hx hb dX3_perform_130 rfl (lv_at hl 1 rfl) ?_
      refine cGoV (cRunU (As := [.ref o1]) (rest := []) C9 hml hN hNs V I hS (cRc C9 V t_o0.1 hf13 rfl) (c_X9_holdUp l D ks τ L A N hN  ψ f11 o0 o1 (tyS_of t_o0 (by decide)) t_o1 ) (va_cwU 1 hts gU_X3_36_X3 rfl rfl rfl rfl okU_X3_36 ⟨Nat.le_of_ble_eq_true rfl, Nat.le_of_ble_eq_true rfl⟩) hl.1 rfl (Nat.le_of_ble_eq_true rfl) dX3_perform_131 ⟨Nat.zero_le _, Nat.zero_le _⟩) hS (fun p17 f16 H locs hqf16 V I hS => ?_)
      have I : cI ks τ L ψ f16 := by rw [show p17 = ψ from hqf16] at I; exact I
      exact cRetV C9 hr hlk hN hNs V I hS (rfl) dX3_perform_134
    · refine lv_aload_n hx hb dX3_perform_118 rfl (lv_at hl 0 rfl) ?_
      refine cGoV (cRunU (As := []) (rest := []) C9 hml hN hNs V I hS (cRc C9 V t_o0.1 hf13 rfl) (c_X9_allGoOn l D ks τ L A N hN  ψ f11 o0 (tyS_of t_o0 (by decide)) ) (va_cwU 0 hts gU_X3_33_X3 rfl rfl rfl rfl okU_X3_33 ⟨Nat.le_of_ble_eq_true rfl, Nat.le_of_ble_eq_true rfl⟩) hl.1 rfl (Nat.le_of_ble_eq_true rfl) dX3_perform_119 ⟨Nat.zero_le _, Nat.zero_le _⟩) hS (fun p20 f19 H locs hqf19 V I hS => ?_)
      have I : cI ks τ L ψ f19 := by rw [show p20 = ψ from hqf19] at I; exact I
      refine lv_aload_n hx hb dX3_perform_122 rfl (lv_at hl 1 rfl) ?_
      obtain ⟨v22_0, v22_1, v22_2, v22_3, v22_4, v22_5, v22_6, v22_7, v22_8, v22_9, v22_10, v22_11, v22_12, hf22, t22_7, t22_8, t22_11⟩ := op7 I t_o1
      refine cGoV (cRunV (As := []) (rest := []) C9 hml hN hNs V I hS t_o1.1 hf22 rfl (c_X8_goOn l D ks τ L A N hN  ψ f19 o1 t_o1 ) gC_X3_27 okC_X8_goOn ⟨rfl, rfl, Nat.le_of_ble_eq_true rfl, Nat.le_of_ble_eq_true rfl⟩ hl.1 rfl (Nat.le_of_ble_eq_true rfl) dX3_perform_123 ⟨Nat.zero_le _, Nat.zero_le _⟩) hS (fun p24 f23 H locs hqf23 V I hS => ?_)
      have I : cI ks τ L ψ f23 := by rw [show p24 = ψ from hqf23] at I; exact I
      refine lv_goto (tgt := 134) hx hb dX3_perform_126 (by decide) ?_
      exact cRetV C9 hr hlk hN hNs V I hS (rfl) dX3_perform_134
  rcases List.mem_cons.mp hm6 with rfl | hm6
  · refine lv_aload_n hx hb dX3_perform_36 rfl (lv_at hl 1 rfl) ?_
    obtain ⟨v26_0, v26_1, v26_2, v26_3, v26_4, v26_5, v26_6, v26_7, v26_8, v26_9, v26_10, v26_11, v26_12, hf26, t26_7, t26_8, t26_11⟩ := op7 I t_o1
    refine cGoV (cRunV (As := []) (rest := []) C9 hml hN hNs V I hS t_o1.1 hf26 rfl (c_X8_goOn l D ks τ L A N hN  ψ f o1 t_o1 ) gC_X3_27 okC_X8_goOn ⟨rfl, rfl, Nat.le_of_ble_eq_true rfl, Nat.le_of_ble_eq_true rfl⟩ hl.1 rfl (Nat.le_of_ble_eq_true rfl) dX3_perform_37 ⟨Nat.zero_le _, Nat.zero_le _⟩) hS (fun p28 f27 H locs hqf27 V I hS => ?_)
    have I : cI ks τ L ψ f27 := by rw [show p28 = ψ from hqf27] at I; exact I
    refine lv_aload_n hx hb dX3_perform_40 rfl (lv_at hl 0 rfl) ?_
    obtain ⟨v30_0, v30_1, v30_2, v30_3, hf30, t30_2⟩ := op2 I t_o0
    refine cG C9 V t_o0.1 hf30 rfl tC_lay2 3 (by decide) tCf_X3_9 (Or.inl rfl) rfl dX3_perform_41 ?_
    refine lv_if_le (tgt := 57) hx hb dX3_perform_44 (by decide) (fun c31 => ?_) (fun c31 => ?_)
    · refine lv_aload_n hx hb dX3_perform_57 rfl (lv_at hl 0 rfl) ?_
      refine cG C9 V t_o0.1 hf30 rfl tC_lay2 3 (by decide) tCf_X3_9 (Or.inl rfl) rfl dX3_perform_58 ?_
      refine lv_if_ne (tgt := 134) hx hb dX3_perform_61 (by decide) (fun c32 => ?_) (fun c32 => ?_)
      · exact cRetV C9 hr hlk hN hNs V I hS (rfl) dX3_perform_134
      · refine lv_aload_n hx hb dX3_perform_64 rfl (lv_at hl 0 rfl) ?_
        refine cGoV (cRunU (As := []) (rest := []) C9 hml hN hNs V I hS (cRc C9 V t_o0.1 hf30 rfl) (c_X9_allGoOn l D ks τ L A N hN  ψ f27 o0 (tyS_of t_o0 (by decide)) ) (va_cwU 0 hts gU_X3_33_X3 rfl rfl rfl rfl okU_X3_33 ⟨Nat.le_of_ble_eq_true rfl, Nat.le_of_ble_eq_true rfl⟩) hl.1 rfl (Nat.le_of_ble_eq_true rfl) dX3_perform_65 ⟨Nat.zero_le _, Nat.zero_le _⟩) hS (fun p34 f33 H locs hqf33 V I hS => ?_)
        have I : cI ks τ L ψ f33 := by rw [show p34 = ψ from hqf33] at I; exact I
        refine lv_goto (tgt := 134) hx hb dX3_perform_68 (by decide) ?_
        exact cRetV C9 hr hlk hN hNs V I hS (rfl) dX3_perform_134
    · refine lv_aload_n hx hb dX3_perform_47 rfl (lv_at hl 0 rfl) ?_
      refine lv_dup hx hb dX3_perform_48 rfl ?_
      refine cG C9 V t_o0.1 hf30 rfl tC_lay2 3 (by decide) tCf_X3_9 (Or.inl rfl) rfl dX3_perform_49 ?_
      refine lv_iconst (v := 1) hx hb dX3_perform_52 (by decide) ?_
      refine lv_isub hx hb dX3_perform_53 ?_
      refine lv_topi (fun x36 ex36 => ?_)
      refine cP (v := .int x36) (ty := .int) C9 V hS t_o0.1 hf30 rfl tC_lay2 tyX3 tyX3_ok nmX3 3 (by decide) tCf_X3_9 rfl rfl (by decide +kernel) rfl rfl (Nat.le_of_ble_eq_true rfl) dX3_perform_54 (fun f37 H locs ef37 V hS => ?_)
      have hf38 : f37 o0 = .inr (2, [.int v30_0, .int v30_1, .ref v30_2, .int x36]) := up_s ef37
      have I := cI_up I t_o0.2 ef37 (mk2 t30_2)
      refine lv_aload_n hx hb dX3_perform_57 rfl (lv_at hl 0 rfl) ?_
      refine cG C9 V t_o0.1 hf38 rfl tC_lay2 3 (by decide) tCf_X3_9 (Or.inl rfl) rfl dX3_perform_58 ?_
      refine lv_if_ne (tgt := 134) hx hb dX3_perform_61 (by decide) (fun c39 => ?_) (fun c39 => ?_)
      · exact cRetV C9 hr hlk hN hNs V I hS (rfl) dX3_perform_134
      · refine lv_aload_n hx hb dX3_perform_64 rfl (lv_at hl 0 rfl) ?_
        refine cGoV (cRunU (As := []) (rest := []) C9 hml hN hNs V I hS (cRc C9 V t_o0.1 hf38 rfl) (c_X9_allGoOn l D ks τ L A N hN  ψ f37 o0 (tyS_of t_o0 (by decide)) ) (va_cwU 0 hts gU_X3_33_X3 rfl rfl rfl rfl okU_X3_33 ⟨Nat.le_of_ble_eq_true rfl, Nat.le_of_ble_eq_true rfl⟩) hl.1 rfl (Nat.le_of_ble_eq_true rfl) dX3_perform_65 ⟨Nat.zero_le _, Nat.zero_le _⟩) hS (fun p41 f40 H locs hqf40 V I hS => ?_)
        have I : cI ks τ L ψ f40 := by rw [show p41 = ψ from hqf40] at I; exact I
        refine lv_goto (tgt := 134) hx hb dX3_perform_68 (by decide) ?_
        exact cRetV C9 hr hlk hN hNs V I hS (rfl) dX3_perform_134
  rcases List.mem_cons.mp hm6 with rfl | hm6
  · refine lv_aload_n hx hb dX3_perform_71 rfl (lv_at hl 0 rfl) ?_
    obtain ⟨v43_0, v43_1, v43_2, v43_3, hf43, t43_2⟩ := op2 I t_o0
    refine cG C9 V t_o0.1 hf43 rfl tC_lay2 3 (by decide) tCf_X3_9 (Or.inl rfl) rfl dX3_perform_72 ?_
    refine lv_if_ne (tgt := 85) hx hb dX3_perform_75 (by decide) (fun c44 => ?_) (fun c44 => ?_)
    · refine lv_aload_n hx hb dX3_perform_85 rfl (lv_at hl 0 rfl) ?_
      refine lv_aload_n hx hb dX3_perform_86 rfl (lv_at hl 1 rfl) ?_
      refine cGoV (cRunU (As := [.ref o1]) (rest := []) C9 hml hN hNs V I hS (cRc C9 V t_o0.1 hf43 rfl) (c_X9_holdUp l D ks τ L A N hN  ψ f o0 o1 (tyS_of t_o0 (by decide)) t_o1 ) (va_cwU 1 hts gU_X3_36_X3 rfl rfl rfl rfl okU_X3_36 ⟨Nat.le_of_ble_eq_true rfl, Nat.le_of_ble_eq_true rfl⟩) hl.1 rfl (Nat.le_of_ble_eq_true rfl) dX3_perform_87 ⟨Nat.zero_le _, Nat.zero_le _⟩) hS (fun p46 f45 H locs hqf45 V I hS => ?_)
      have I : cI ks τ L ψ f45 := by rw [show p46 = ψ from hqf45] at I; exact I
      refine lv_goto (tgt := 134) hx hb dX3_perform_90 (by decide) ?_
      exact cRetV C9 hr hlk hN hNs V I hS (rfl) dX3_perform_134
    · refine lv_aload_n hx hb dX3_perform_78 rfl (lv_at hl 1 rfl) ?_
      obtain ⟨v48_0, v48_1, v48_2, v48_3, v48_4, v48_5, v48_6, v48_7, v48_8, v48_9, v48_10, v48_11, v48_12, hf48, t48_7, t48_8, t48_11⟩ := op7 I t_o1
      refine cGoV (cRunV (As := []) (rest := []) C9 hml hN hNs V I hS t_o1.1 hf48 rfl (c_X8_goOn l D ks τ L A N hN  ψ f o1 t_o1 ) gC_X3_27 okC_X8_goOn ⟨rfl, rfl, Nat.le_of_ble_eq_true rfl, Nat.le_of_ble_eq_true rfl⟩ hl.1 rfl (Nat.le_of_ble_eq_true rfl) dX3_perform_79 ⟨Nat.zero_le _, Nat.zero_le _⟩) hS (fun p50 f49 H locs hqf49 V I hS => ?_)
      have I : cI ks τ L ψ f49 := by rw [show p50 = ψ from hqf49] at I; exact I
      refine lv_goto (tgt := 134) hx hb dX3_perform_82 (by decide) ?_
      exact cRetV C9 hr hlk hN hNs V I hS (rfl) dX3_perform_134
  exact absurd hm6 List.not_mem_nil
set_option maxHeartbeats 200000 in
set_option maxRecDepth 100000 in
theorem c_X5_perform (l : Launch) (D : va_G) (ks : kS) (τ : Nat → Nat) (L : List Nat) (A : Nat → Prop) (N : State → Prop) (hN : cNk A N) (κ : kC) (hN0 : ∀ U, N U → N0 κ A U) (ψ : Int32) (f : Nat → va_E) (o0 : Nat) (o1 : Nat) (o2 : Nat) (t_o0 : ty τ L o0 4) (t_o1 : ty τ L o1 7) (t_o2 : isW κ o2) : Met l yX5_perform (Cond.code yX5_perform cX5_perform 3 none :: tC) ({ frames := 4, cells := 0, slots := 0, locals := 86 }) (va_Pc [.ref o0, .ref o1, .ref o2] (cB D ks τ L A N (ψ, f))) (va_Qv (fun x9 => x9.1 = ψ) (cB D ks τ L A N) A) 0 0 A := by
  refine cMet (own := RX5) (by decide) rfl (Nat.le_of_ble_eq_true rfl) ?_
  intro p e s m below meth c ls C9 hml hr hlk V I hNs hl
  have hx := C9.1
  have hb := C9.2.1
  have hown := C9.2.2.1
  have hts := C9.2.2.2.1
  have h0 := hN0 s hNs
  have hS : va_S A s.heap s.heap [] := va_S.rf
  have hl : lv_has ls 3 [(0, .ref o0), (1, .ref o1), (2, .ref o2)] := hl
  refine cZs C9 h0 hS tCf_X5_15 dX5_perform_0 (fun y1 hy1 => ?_)
  refine lv_aload_n hx hb dX5_perform_3 rfl (lv_at hl 2 rfl) ?_
  refine cGoI (cRunU (As := []) (rest := [.ref y1]) C9 hml hN hNs V I hS (isW_r h0 hS t_o2) (c_Jx29ce0_ordinal_8abf5 l D ks τ L A N hN κ hN0 ψ f o2 t_o2 ) (va_cwU 0 hts gU_X5_20_X11 rfl rfl rfl rfl okU_X5_20 ⟨Nat.le_of_ble_eq_true rfl, Nat.le_of_ble_eq_true rfl⟩) hl.1 rfl (Nat.le_of_ble_eq_true rfl) dX5_perform_4 ⟨Nat.zero_le _, Nat.zero_le _⟩) hS (fun r4 p3 f2 H locs hqf2 V I hS => ?_)
  have V : cV D L f A H := by rw [show f2 = f from congrArg Prod.snd hqf2.1] at V; exact V
  have I : cI ks τ L ψ f := by rw [show f2 = f from congrArg Prod.snd hqf2.1, show p3 = ψ from congrArg Prod.fst hqf2.1] at I; exact I
  refine cLs C9 hy1 hS (cvin (N := 34) rfl (hqf2.2.1) (hqf2.2.2)) dX5_perform_7 (fun x5 => ?_)
  refine cTab hx hb [111, 36, 62, 85] dX5_perform_8 rfl (by decide) ?_
  intro t9 hm6
  rcases List.mem_cons.mp hm6 with rfl | hm6
  · refine lv_aload_n hx hb dX5_perform_111 rfl (lv_at hl 1 rfl) ?_
    refine lv_aload_n hx hb dX5_perform_112 rfl (lv_at hl 0 rfl) ?_
    obtain ⟨v7_0, v7_1, v7_2, v7_3, v7_4, v7_5, c7, hf7, t7_2, t7_3, hc7, h07, h17⟩ := op4 I t_o0
    refine cG C9 V t_o0.1 hf7 rfl tC_lay4 5 (by decide) tCf_X5_48 (Or.inl rfl) rfl dX5_perform_113 ?_
    refine lv_if_le (tgt := 126) hx hb dX5_perform_116 (by decide) (fun c8 => ?_) (fun c8 => ?_)
    · refine lv_iconst (v := (-1)) hx hb dX5_perform_126 (by decide) ?_
      obtain ⟨v9_0, v9_1, v9_2, v9_3, v9_4, v9_5, v9_6, v9_7, v9_8, v9_9, v9_10, v9_11, v9_12, hf9, t9_7, t9_8, t9_11⟩ := op7 I t_o1
      refine cGoV (cRunV (As := [.int (-1)]) (rest := []) C9 hml hN hNs V I hS t_o1.1 hf9 rfl (c_X8_goOnWith l D ks τ L A N hN  ψ f o1 (-1) t_o1 ) gC_X5_44 okC_X8_goOnWith ⟨rfl, rfl, Nat.le_of_ble_eq_true rfl, Nat.le_of_ble_eq_true rfl⟩ hl.1 rfl (Nat.le_of_ble_eq_true rfl) dX5_perform_127 ⟨Nat.zero_le _, Nat.zero_le _⟩) hS (fun p11 f10 H locs hqf10 V I hS => ?_)
      have I : cI ks τ L ψ f10 := by rw [show p11 = ψ from hqf10] at I; exact I
      exact cRetV C9 hr hlk hN hNs V I hS (rfl) dX5_perform_130
    · refine lv_aload_n hx hb dX5_perform_119 rfl (lv_at hl 0 rfl) ?_
      refine cGoI (cRunV (As := []) (rest := [.ref o1]) C9 hml hN hNs V I hS t_o0.1 hf7 rfl (c_X5_takenOut l D ks τ L A N hN  ψ f o0 t_o0 ) gC_X5_51 okC_X5_takenOut ⟨rfl, rfl, Nat.le_of_ble_eq_true rfl, Nat.le_of_ble_eq_true rfl⟩ hl.1 rfl (Nat.le_of_ble_eq_true rfl) dX5_perform_120 ⟨Nat.zero_le _, Nat.zero_le _⟩) hS (fun r15 p14 f13 H locs hqf13 V I hS => ?_)
      have I : cI ks τ L ψ f13 := by rw [show p14 = ψ from hqf13] at I; exact I
      refine lv_goto (tgt := 127) hx hb dX5_perform_123 (by decide) ?_
      obtain ⟨v16_0, v16_1, v16_2, v16_3, v16_4, v16_5, v16_6, v16_7, v16_8, v16_9, v16_10, v16_11, v16_12, hf16, t16_7, t16_8, t16_11⟩ := op7 I t_o1
      refine cGoV (cRunV (As := [.int r15]) (rest := []) C9 hml hN hNs V I hS t_o1.1 hf16 rfl (c_X8_goOnWith l D ks τ L A N hN  ψ f13 o1 r15 t_o1 ) gC_X5_44 okC_X8_goOnWith ⟨rfl, rfl, Nat.le_of_ble_eq_true rfl, Nat.le_of_ble_eq_true rfl⟩ hl.1 rfl (Nat.le_of_ble_eq_true rfl) dX5_perform_127 ⟨Nat.zero_le _, Nat.zero_le _⟩) hS (fun p18 f17 H locs hqf17 V I hS => ?_)
      have I : cI ks τ L ψ f17 := by rw [show p18 = ψ from hqf17] at I; exact I
      exact cRetV C9 hr hlk hN hNs V I hS (rfl) dX5_perform_130
  rcases List.mem_cons.mp hm6 with rfl | hm6
  · refine lv_aload_n hx hb dX5_perform_36 rfl (lv_at hl 0 rfl) ?_
    refine lv_aload_n hx hb dX5_perform_37 rfl (lv_at hl 1 rfl) ?_
    obtain ⟨v20_0, v20_1, v20_2, v20_3, v20_4, v20_5, v20_6, v20_7, v20_8, v20_9, v20_10, v20_11, v20_12, hf20, t20_7, t20_8, t20_11⟩ := op7 I t_o1
    refine cG C9 V t_o1.1 hf20 rfl tC_lay7 2 (by decide) tCf_X5_26 (Or.inl rfl) rfl dX5_perform_38 ?_
    obtain ⟨v21_0, v21_1, v21_2, v21_3, v21_4, v21_5, c21, hf21, t21_2, t21_3, hc21, h021, h121⟩ := op4 I t_o0
    refine cGoI (cRunV (As := [.int v20_2]) (rest := []) C9 hml hN hNs V I hS t_o0.1 hf21 rfl (c_X5_isAccepted l D ks τ L A N hN  ψ f o0 v20_2 t_o0 ) gC_X5_32 okC_X5_isAccepted ⟨rfl, rfl, Nat.le_of_ble_eq_true rfl, Nat.le_of_ble_eq_true rfl⟩ hl.1 rfl (Nat.le_of_ble_eq_true rfl) dX5_perform_41 ⟨Nat.zero_le _, Nat.zero_le _⟩) hS (fun r24 p23 f22 H locs hqf22 V I hS => ?_)
    have I : cI ks τ L ψ f22 := by rw [show p23 = ψ from hqf22] at I; exact I
    refine lv_if_eq (tgt := 54) hx hb dX5_perform_44 (by decide) (fun c25 => ?_) (fun c25 => ?_)
    · refine lv_aload_n hx hb dX5_perform_54 rfl (lv_at hl 0 rfl) ?_
      refine lv_aload_n hx hb dX5_perform_55 rfl (lv_at hl 1 rfl) ?_
      obtain ⟨v26_0, v26_1, v26_2, v26_3, v26_4, v26_5, c26, hf26, t26_2, t26_3, hc26, h026, h126⟩ := op4 I t_o0
      refine cGoV (cRunU (As := [.ref o1]) (rest := []) C9 hml hN hNs V I hS (cRc C9 V t_o0.1 hf26 rfl) (c_X9_holdUp l D ks τ L A N hN  ψ f22 o0 o1 (tyS_of t_o0 (by decide)) t_o1 ) (va_cwU 1 hts gU_X5_40_X5 rfl rfl rfl rfl okU_X5_40 ⟨Nat.le_of_ble_eq_true rfl, Nat.le_of_ble_eq_true rfl⟩) hl.1 rfl (Nat.le_of_ble_eq_true rfl) dX5_perform_56 ⟨Nat.zero_le _, Nat.zero_le _⟩) hS (fun p28 f27 H locs hqf27 V I hS => ?_)
      have I : cI ks τ L ψ f27 := by rw [show p28 = ψ from hqf27] at I; exact I
      refine lv_goto (tgt := 130) hx hb dX5_perform_59 (by decide) ?_
      exact cRetV C9 hr hlk hN hNs V I hS (rfl) dX5_perform_130
    · refine lv_aload_n hx hb dX5_perform_47 rfl (lv_at hl 1 rfl) ?_
      obtain ⟨v30_0, v30_1, v30_2, v30_3, v30_4, v30_5, v30_6, v30_7, v30_8, v30_9, v30_10, v30_11, v30_12, hf30, t30_7, t30_8, t30_11⟩ := op7 I t_o1
      refine cGoV (cRunV (As := []) (rest := []) C9 hml hN hNs V I hS t_o1.1 hf30 rfl (c_X8_goOn l D ks τ L A N hN  ψ f22 o1 t_o1 ) gC_X5_36 okC_X8_goOn ⟨rfl, rfl, Nat.le_of_ble_eq_true rfl, Nat.le_of_ble_eq_true rfl⟩ hl.1 rfl (Nat.le_of_ble_eq_true rfl) dX5_perform_48 ⟨Nat.zero_le _, Nat.zero_le _⟩) hS (fun p32 f31 H locs hqf31 V I hS => ?_)
      have I : cI ks τ L ψ f31 := by rw [show p32 = ψ from hqf31] at I; exact I
      refine lv_goto (tgt := 130) hx hb dX5_perform_51 (by decide) ?_
      exact cRetV C9 hr hlk hN hNs V I hS (rfl) dX5_perform_130
  rcases List.mem_cons.mp hm6 with rfl | hm6
  · refine lv_aload_n hx hb dX5_perform_62 rfl (lv_at hl 1 rfl) ?_
    refine lv_aload_n hx hb dX5_perform_63 rfl (lv_at hl 0 rfl) ?_
    refine lv_aload_n hx hb dX5_perform_64 rfl (lv_at hl 1 rfl) ?_
    obtain ⟨v34_0, v34_1, v34_2, v34_3, v34_4, v34_5, v34_6, v34_7, v34_8, v34_9, v34_10, v34_11, v34_12, hf34, t34_7, t34_8, t34_11⟩ := op7 I t_o1
    refine cG C9 V t_o1.1 hf34 rfl tC_lay7 2 (by decide) tCf_X5_26 (Or.inl rfl) rfl dX5_perform_65 ?_
    obtain ⟨v35_0, v35_1, v35_2, v35_3, v35_4, v35_5, c35, hf35, t35_2, t35_3, hc35, h035, h135⟩ := op4 I t_o0
    refine cGoI (cRunV (As := [.int v34_2]) (rest := [.ref o1]) C9 hml hN hNs V I hS t_o0.1 hf35 rfl (c_X5_isAccepted l D ks τ L A N hN  ψ f o0 v34_2 t_o0 ) gC_X5_32 okC_X5_isAccepted ⟨rfl, rfl, Nat.le_of_ble_eq_true rfl, Nat.le_of_ble_eq_true rfl⟩ hl.1 rfl (Nat.le_of_ble_eq_true rfl) dX5_perform_68 ⟨Nat.zero_le _, Nat.zero_le _⟩) hS (fun r38 p37 f36 H locs hqf36 V I hS => ?_)
    have I : cI ks τ L ψ f36 := by rw [show p37 = ψ from hqf36] at I; exact I
    refine lv_if_eq (tgt := 78) hx hb dX5_perform_71 (by decide) (fun c39 => ?_) (fun c39 => ?_)
    · refine lv_iconst (v := 0) hx hb dX5_perform_78 (by decide) ?_
      obtain ⟨v40_0, v40_1, v40_2, v40_3, v40_4, v40_5, v40_6, v40_7, v40_8, v40_9, v40_10, v40_11, v40_12, hf40, t40_7, t40_8, t40_11⟩ := op7 I t_o1
      refine cGoV (cRunV (As := [.int 0]) (rest := []) C9 hml hN hNs V I hS t_o1.1 hf40 rfl (c_X8_goOnWith l D ks τ L A N hN  ψ f36 o1 0 t_o1 ) gC_X5_44 okC_X8_goOnWith ⟨rfl, rfl, Nat.le_of_ble_eq_true rfl, Nat.le_of_ble_eq_true rfl⟩ hl.1 rfl (Nat.le_of_ble_eq_true rfl) dX5_perform_79 ⟨Nat.zero_le _, Nat.zero_le _⟩) hS (fun p42 f41 H locs hqf41 V I hS => ?_)
      have I : cI ks τ L ψ f41 := by rw [show p42 = ψ from hqf41] at I; exact I
      refine lv_goto (tgt := 130) hx hb dX5_perform_82 (by decide) ?_
      exact cRetV C9 hr hlk hN hNs V I hS (rfl) dX5_perform_130
    · refine lv_iconst (v := 1) hx hb dX5_perform_74 (by decide) ?_
      refine lv_goto (tgt := 79) hx hb dX5_perform_75 (by decide) ?_
      obtain ⟨v44_0, v44_1, v44_2, v44_3, v44_4, v44_5, v44_6, v44_7, v44_8, v44_9, v44_10, v44_11, v44_12, hf44, t44_7, t44_8, t44_11⟩ := op7 I t_o1
      refine cGoV (cRunV (As := [.int 1]) (rest := []) C9 hml hN hNs V I hS t_o1.1 hf44 rfl (c_X8_goOnWith l D ks τ L A N hN  ψ f36 o1 1 t_o1 ) gC_X5_44 okC_X8_goOnWith ⟨rfl, rfl, Nat.le_of_ble_eq_true rfl, Nat.le_of_ble_eq_true rfl⟩ hl.1 rfl (Nat.le_of_ble_eq_true rfl) dX5_perform_79 ⟨Nat.zero_le _, Nat.zero_le _⟩) hS (fun p46 f45 H locs hqf45 V I hS => ?_)
      have I : cI ks τ L ψ f45 := by rw [show p46 = ψ from hqf45] at I; exact I
      refine lv_goto (tgt := 130) hx hb dX5_perform_82 (by decide) ?_
      exact cRetV C9 hr hlk hN hNs V I hS (rfl) dX5_perform_130
  rcases List.mem_cons.mp hm6 with rfl | hm6
  · refine lv_aload_n hx hb dX5_perform_85 rfl (lv_at hl 0 rfl) ?_
    obtain ⟨v48_0, v48_1, v48_2, v48_3, v48_4, v48_5, c48, hf48, t48_2, t48_3, hc48, h048, h148⟩ := op4 I t_o0
    refine cG C9 V t_o0.1 hf48 rfl tC_lay4 5 (by decide) tCf_X5_48 (Or.inl rfl) rfl dX5_perform_86 ?_
    refine lv_if_le (tgt := 103) hx hb dX5_perform_89 (by decide) (fun c49 => ?_) (fun c49 => ?_)
    · refine lv_aload_n hx hb dX5_perform_103 rfl (lv_at hl 0 rfl) ?_
      refine lv_aload_n hx hb dX5_perform_104 rfl (lv_at hl 1 rfl) ?_
      refine cGoV (cRunU (As := [.ref o1]) (rest := []) C9 hml hN hNs V I hS (cRc C9 V t_o0.1 hf48 rfl) (c_X9_holdUp l D ks τ L A N hN  ψ f o0 o1 (tyS_of t_o0 (by decide)) t_o1 ) (va_cwU 1 hts gU_X5_40_X5 rfl rfl rfl rfl okU_X5_40 ⟨Nat.le_of_ble_eq_true rfl, Nat.le_of_ble_eq_true rfl⟩) hl.1 rfl (Nat.le_of_ble_eq_true rfl) dX5_perform_105 ⟨Nat.zero_le _, Nat.zero_le _⟩) hS (fun p51 f50 H locs hqf50 V I hS => ?_)
      have I : cI ks τ L ψ f50 := by rw [show p51 = ψ from hqf50] at I; exact I
      refine lv_goto (tgt := 130) hx hb dX5_perform_108 (by decide) ?_
      exact cRetV C9 hr hlk hN hNs V I hS (rfl) dX5_perform_130
    · refine lv_aload_n hx hb dX5_perform_92 rfl (lv_at hl 1 rfl) ?_
      refine lv_aload_n hx hb dX5_perform_93 rfl (lv_at hl 0 rfl) ?_
      refine cGoI (cRunV (As := []) (rest := [.ref o1]) C9 hml hN hNs V I hS t_o0.1 hf48 rfl (c_X5_takenOut l D ks τ L A N hN  ψ f o0 t_o0 ) gC_X5_51 okC_X5_takenOut ⟨rfl, rfl, Nat.le_of_ble_eq_true rfl, Nat.le_of_ble_eq_true rfl⟩ hl.1 rfl (Nat.le_of_ble_eq_true rfl) dX5_perform_94 ⟨Nat.zero_le _, Nat.zero_le _⟩) hS (fun r55 p54 f53 H locs hqf53 V I hS => ?_)
      have I : cI ks τ L ψ f53 := by rw [show p54 = ψ from hqf53] at I; exact I
      obtain ⟨v56_0, v56_1, v56_2, v56_3, v56_4, v56_5, v56_6, v56_7, v56_8, v56_9, v56_10, v56_11, v56_12, hf56, t56_7, t56_8, t56_11⟩ := op7 I t_o1
      refine cGoV (cRunV (As := [.int r55]) (rest := []) C9 hml hN hNs V I hS t_o1.1 hf56 rfl (c_X8_goOnWith l D ks τ L A N hN  ψ f53 o1 r55 t_o1 ) gC_X5_44 okC_X8_goOnWith ⟨rfl, rfl, Nat.le_of_ble_eq_true rfl, Nat.le_of_ble_eq_true rfl⟩ hl.1 rfl (Nat.le_of_ble_eq_true rfl) dX5_perform_97 ⟨Nat.zero_le _, Nat.zero_le _⟩) hS (fun p58 f57 H locs hqf57 V I hS => ?_)
      have I : cI ks τ L ψ f57 := by rw [show p58 = ψ from hqf57] at I; exact I
      refine lv_goto (tgt := 130) hx hb dX5_perform_100 (by decide) ?_
      exact cRetV C9 hr hlk hN hNs V I hS (rfl) dX5_perform_130
  exact absurd hm6 List.not_mem_nil
set_option maxHeartbeats 200000 in
set_option maxRecDepth 100000 in
theorem c_X7_perform (l : Launch) (D : va_G) (ks : kS) (τ : Nat → Nat) (L : List Nat) (A : Nat → Prop) (N : State → Prop) (hN : cNk A N) (κ : kC) (hN0 : ∀ U, N U → N0 κ A U) (ψ : Int32) (f : Nat → va_E) (o0 : Nat) (o1 : Nat) (o2 : Nat) (t_o0 : ty τ L o0 6) (t_o1 : ty τ L o1 7) (t_o2 : isW κ o2) : Met l yX7_perform (Cond.code yX7_perform cX7_perform 4 none :: tC) ({ frames := 4, cells := 0, slots := 0, locals := 84 }) (va_Pc [.ref o0, .ref o1, .ref o2] (cB D ks τ L A N (ψ, f))) (va_Qv (fun x9 => x9.1 = ψ) (cB D ks τ L A N) A) 0 0 A := by
  refine cMet (own := RX7) (by decide) rfl (Nat.le_of_ble_eq_true rfl) ?_
  intro p e s m below meth c ls C9 hml hr hlk V I hNs hl
  have hx := C9.1
  have hb := C9.2.1
  have hown := C9.2.2.1
  have hts := C9.2.2.2.1
  have h0 := hN0 s hNs
  have hS : va_S A s.heap s.heap [] := va_S.rf
  have hl : lv_has ls 4 [(0, .ref o0), (1, .ref o1), (2, .ref o2)] := hl
  refine cZs C9 h0 hS tCf_X7_15 dX7_perform_0 (fun y1 hy1 => ?_)
  refine lv_aload_n hx hb dX7_perform_3 rfl (lv_at hl 2 rfl) ?_
  refine cGoI (cRunU (As := []) (rest := [.ref y1]) C9 hml hN hNs V I hS (isW_r h0 hS t_o2) (c_Jx29ce0_ordinal_8abf5 l D ks τ L A N hN κ hN0 ψ f o2 t_o2 ) (va_cwU 0 hts gU_X7_21_X11 rfl rfl rfl rfl okU_X7_21 ⟨Nat.le_of_ble_eq_true rfl, Nat.le_of_ble_eq_true rfl⟩) hl.1 rfl (Nat.le_of_ble_eq_true rfl) dX7_perform_4 ⟨Nat.zero_le _, Nat.zero_le _⟩) hS (fun r4 p3 f2 H locs hqf2 V I hS => ?_)
  have V : cV D L f A H := by rw [show f2 = f from congrArg Prod.snd hqf2.1] at V; exact V
  have I : cI ks τ L ψ f := by rw [show f2 = f from congrArg Prod.snd hqf2.1, show p3 = ψ from congrArg Prod.fst hqf2.1] at I; exact I
  refine cLs C9 hy1 hS (cvin (N := 34) rfl (hqf2.2.1) (hqf2.2.2)) dX7_perform_7 (fun x5 => ?_)
  refine cLook hx hb [112, 36, 87] dX7_perform_8 rfl (by decide) ?_
  intro t9 hm6
  rcases List.mem_cons.mp hm6 with rfl | hm6
  · refine lv_aload_n hx hb dX7_perform_112 rfl (lv_at hl 0 rfl) ?_
    obtain ⟨v7_0, v7_1, v7_2, v7_3, hf7, t7_2⟩ := op6 I t_o0
    refine cG C9 V t_o0.1 hf7 rfl tC_lay6 3 (by decide) tCf_X7_9 (Or.inl rfl) rfl dX7_perform_113 ?_
    refine lv_if_le (tgt := 126) hx hb dX7_perform_116 (by decide) (fun c8 => ?_) (fun c8 => ?_)
    · refine lv_iconst (v := 0) hx hb dX7_perform_126 (by decide) ?_
      refine lv_topi (fun x9 ex9 => ?_)
      refine lv_istore_n (lv' := [(3, .int x9), (0, .ref o0), (1, .ref o1), (2, .ref o2)]) hx hb dX7_perform_127 rfl hl (by decide) rfl (fun ls hl => ?_)
      refine lv_aload_n hx hb dX7_perform_128 rfl (lv_at hl 1 rfl) ?_
      refine lv_dup hx hb dX7_perform_129 rfl ?_
      refine cG C9 V t_o0.1 hf7 rfl tC_lay6 3 (by decide) tCf_X7_9 (Or.inl rfl) rfl dX7_perform_130 ?_
      refine lv_iload_n hx hb dX7_perform_133 rfl (lv_at hl 0 rfl) ?_
      refine lv_isub hx hb dX7_perform_134 ?_
      refine lv_topi (fun x10 ex10 => ?_)
      refine cP (v := .int x10) (ty := .int) C9 V hS t_o0.1 hf7 rfl tC_lay6 tyX7 tyX7_ok nmX7 3 (by decide) tCf_X7_9 rfl rfl (by decide +kernel) rfl rfl (Nat.le_of_ble_eq_true rfl) dX7_perform_135 (fun f11 H locs ef11 V hS => ?_)
      have hf12 : f11 o0 = .inr (6, [.int v7_0, .int v7_1, .ref v7_2, .int x10]) := up_s ef11
      have I := cI_up I t_o0.2 ef11 (mk6 t7_2)
      refine lv_aload_n hx hb dX7_perform_138 rfl (lv_at hl 2 rfl) ?_
      refine lv_iload_n hx hb dX7_perform_139 rfl (lv_at hl 0 rfl) ?_
      obtain ⟨v13_0, v13_1, v13_2, v13_3, v13_4, v13_5, v13_6, v13_7, v13_8, v13_9, v13_10, v13_11, v13_12, hf13, t13_7, t13_8, t13_11⟩ := op7 I t_o1
      refine cGoV (cRunV (As := [.int x9]) (rest := []) C9 hml hN hNs V I hS t_o1.1 hf13 rfl (c_X8_goOnWith l D ks τ L A N hN  ψ f11 o1 x9 t_o1 ) gC_X7_53 okC_X8_goOnWith ⟨rfl, rfl, Nat.le_of_ble_eq_true rfl, Nat.le_of_ble_eq_true rfl⟩ hl.1 rfl (Nat.le_of_ble_eq_true rfl) dX7_perform_140 ⟨Nat.zero_le _, Nat.zero_le _⟩) hS (fun p15 f14 H locs hqf14 V I hS => ?_)
      have I : cI ks τ L ψ f14 := by rw [show p15 = ψ from hqf14] at I; exact I
      exact cRetV C9 hr hlk hN hNs V I hS (rfl) dX7_perform_143
    · refine lv_aload_n hx hb dX7_perform_119 rfl (lv_at hl 0 rfl) ?_
      refine cG C9 V t_o0.1 hf7 rfl tC_lay6 3 (by decide) tCf_X7_9 (Or.inl rfl) rfl dX7_perform_120 ?_
      refine lv_goto (tgt := 127) hx hb dX7_perform_123 (by decide) ?_
      refine lv_istore_n (lv' := [(3, .int v7_3), (0, .ref o0), (1, .ref o1), (2, .ref o2)]) hx hb dX7_perform_127 rfl hl (by decide) rfl (fun ls hl => ?_)
      refine lv_aload_n hx hb dX7_perform_128 rfl (lv_at hl 1 rfl) ?_
      refine lv_dup hx hb dX7_perform_129 rfl ?_
      refine cG C9 V t_o0.1 hf7 rfl tC_lay6 3 (by decide) tCf_X7_9 (Or.inl rfl) rfl dX7_perform_130 ?_
      refine lv_iload_n hx hb dX7_perform_133 rfl (lv_at hl 0 rfl) ?_
      refine lv_isub hx hb dX7_perform_134 ?_
      refine lv_topi (fun x17 ex17 => ?_)
      refine cP (v := .int x17) (ty := .int) C9 V hS t_o0.1 hf7 rfl tC_lay6 tyX7 tyX7_ok nmX7 3 (by decide) tCf_X7_9 rfl rfl (by decide +kernel) rfl rfl (Nat.le_of_ble_eq_true rfl) dX7_perform_135 (fun f18 H locs ef18 V hS => ?_)
      have hf19 : f18 o0 = .inr (6, [.int v7_0, .int v7_1, .ref v7_2, .int x17]) := up_s ef18
      have I := cI_up I t_o0.2 ef18 (mk6 t7_2)
      refine lv_aload_n hx hb dX7_perform_138 rfl (lv_at hl 2 rfl) ?_
      refine lv_iload_n hx hb dX7_perform_139 rfl (lv_at hl 0 rfl) ?_
      obtain ⟨v20_0, v20_1, v20_2, v20_3, v20_4, v20_5, v20_6, v20_7, v20_8, v20_9, v20_10, v20_11, v20_12, hf20, t20_7, t20_8, t20_11⟩ := op7 I t_o1
      refine cGoV (cRunV (As := [.int v7_3]) (rest := []) C9 hml hN hNs V I hS t_o1.1 hf20 rfl (c_X8_goOnWith l D ks τ L A N hN  ψ f18 o1 v7_3 t_o1 ) gC_X7_53 okC_X8_goOnWith ⟨rfl, rfl, Nat.le_of_ble_eq_true rfl, Nat.le_of_ble_eq_true rfl⟩ hl.1 rfl (Nat.le_of_ble_eq_true rfl) dX7_perform_140 ⟨Nat.zero_le _, Nat.zero_le _⟩) hS (fun p22 f21 H locs hqf21 V I hS => ?_)
      have I : cI ks τ L ψ f21 := by rw [show p22 = ψ from hqf21] at I; exact I
      exact cRetV C9 hr hlk hN hNs V I hS (rfl) dX7_perform_143
  rcases List.mem_cons.mp hm6 with rfl | hm6
  · refine lv_aload_n hx hb dX7_perform_36 rfl (lv_at hl 0 rfl) ?_
    obtain ⟨v24_0, v24_1, v24_2, v24_3, hf24, t24_2⟩ := op6 I t_o0
    refine cG C9 V t_o0.1 hf24 rfl tC_lay6 2 (by decide) tCf_X7_27 (Or.inr tCs_X7_row) rfl dX7_perform_37 ?_
    obtain ⟨v25_0, v25_1, hf25, hn25, t25_1⟩ := op5 I t24_2
    refine cG C9 V t24_2.1 hf25 rfl tC_lay5 0 (by decide) tCf_X7_31 (Or.inl rfl) rfl dX7_perform_40 ?_
    refine lv_if_ne (tgt := 79) hx hb dX7_perform_43 (by decide) (fun c26 => ?_) (fun c26 => ?_)
    · refine lv_aload_n hx hb dX7_perform_79 rfl (lv_at hl 0 rfl) ?_
      refine lv_aload_n hx hb dX7_perform_80 rfl (lv_at hl 1 rfl) ?_
      refine cGoV (cRunU (As := [.ref o1]) (rest := []) C9 hml hN hNs V I hS (cRc C9 V t_o0.1 hf24 rfl) (c_X9_holdUp l D ks τ L A N hN  ψ f o0 o1 (tyS_of t_o0 (by decide)) t_o1 ) (va_cwU 1 hts gU_X7_46_X7 rfl rfl rfl rfl okU_X7_46 ⟨Nat.le_of_ble_eq_true rfl, Nat.le_of_ble_eq_true rfl⟩) hl.1 rfl (Nat.le_of_ble_eq_true rfl) dX7_perform_81 ⟨Nat.zero_le _, Nat.zero_le _⟩) hS (fun p28 f27 H locs hqf27 V I hS => ?_)
      have I : cI ks τ L ψ f27 := by rw [show p28 = ψ from hqf27] at I; exact I
      refine lv_goto (tgt := 143) hx hb dX7_perform_84 (by decide) ?_
      exact cRetV C9 hr hlk hN hNs V I hS (rfl) dX7_perform_143
    · refine lv_aload_n hx hb dX7_perform_46 rfl (lv_at hl 0 rfl) ?_
      refine cG C9 V t_o0.1 hf24 rfl tC_lay6 3 (by decide) tCf_X7_9 (Or.inl rfl) rfl dX7_perform_47 ?_
      refine lv_aload_n hx hb dX7_perform_50 rfl (lv_at hl 1 rfl) ?_
      refine lv_iconst (v := 1) hx hb dX7_perform_51 (by decide) ?_
      obtain ⟨v30_0, v30_1, v30_2, v30_3, v30_4, v30_5, v30_6, v30_7, v30_8, v30_9, v30_10, v30_11, v30_12, hf30, t30_7, t30_8, t30_11⟩ := op7 I t_o1
      refine cGoI (cRunV (As := [.int 1]) (rest := [.int v24_3]) C9 hml hN hNs V I hS t_o1.1 hf30 rfl (c_X8_operand l D ks τ L A N hN  ψ f o1 1 t_o1 ) gC_X7_36 okC_X8_operand ⟨rfl, rfl, Nat.le_of_ble_eq_true rfl, Nat.le_of_ble_eq_true rfl⟩ hl.1 rfl (Nat.le_of_ble_eq_true rfl) dX7_perform_52 ⟨Nat.zero_le _, Nat.zero_le _⟩) hS (fun r33 p32 f31 H locs hqf31 V I hS => ?_)
      have I : cI ks τ L ψ f31 := by rw [show p32 = ψ from hqf31] at I; exact I
      refine lv_icmp_lt (tgt := 79) hx hb dX7_perform_55 (by decide) (fun c34 => ?_) (fun c34 => ?_)
      · refine lv_aload_n hx hb dX7_perform_79 rfl (lv_at hl 0 rfl) ?_
        refine lv_aload_n hx hb dX7_perform_80 rfl (lv_at hl 1 rfl) ?_
        obtain ⟨v35_0, v35_1, v35_2, v35_3, hf35, t35_2⟩ := op6 I t_o0
        refine cGoV (cRunU (As := [.ref o1]) (rest := []) C9 hml hN hNs V I hS (cRc C9 V t_o0.1 hf35 rfl) (c_X9_holdUp l D ks τ L A N hN  ψ f31 o0 o1 (tyS_of t_o0 (by decide)) t_o1 ) (va_cwU 1 hts gU_X7_46_X7 rfl rfl rfl rfl okU_X7_46 ⟨Nat.le_of_ble_eq_true rfl, Nat.le_of_ble_eq_true rfl⟩) hl.1 rfl (Nat.le_of_ble_eq_true rfl) dX7_perform_81 ⟨Nat.zero_le _, Nat.zero_le _⟩) hS (fun p37 f36 H locs hqf36 V I hS => ?_)
        have I : cI ks τ L ψ f36 := by rw [show p37 = ψ from hqf36] at I; exact I
        refine lv_goto (tgt := 143) hx hb dX7_perform_84 (by decide) ?_
        exact cRetV C9 hr hlk hN hNs V I hS (rfl) dX7_perform_143
      · refine lv_aload_n hx hb dX7_perform_58 rfl (lv_at hl 0 rfl) ?_
        refine lv_dup hx hb dX7_perform_59 rfl ?_
        obtain ⟨v39_0, v39_1, v39_2, v39_3, hf39, t39_2⟩ := op6 I t_o0
        refine cG C9 V t_o0.1 hf39 rfl tC_lay6 3 (by decide) tCf_X7_9 (Or.inl rfl) rfl dX7_perform_60 ?_
        refine lv_aload_n hx hb dX7_perform_63 rfl (lv_at hl 1 rfl) ?_
        refine lv_iconst (v := 1) hx hb dX7_perform_64 (by decide) ?_
        obtain ⟨v40_0, v40_1, v40_2, v40_3, v40_4, v40_5, v40_6, v40_7, v40_8, v40_9, v40_10, v40_11, v40_12, hf40, t40_7, t40_8, t40_11⟩ := op7 I t_o1
        refine cGoI (cRunV (As := [.int 1]) (rest := [.int v39_3, .ref o0]) C9 hml hN hNs V I hS t_o1.1 hf40 rfl (c_X8_operand l D ks τ L A N hN  ψ f31 o1 1 t_o1 ) gC_X7_36 okC_X8_operand ⟨rfl, rfl, Nat.le_of_ble_eq_true rfl, Nat.le_of_ble_eq_true rfl⟩ hl.1 rfl (Nat.le_of_ble_eq_true rfl) dX7_perform_65 ⟨Nat.zero_le _, Nat.zero_le _⟩) hS (fun r43 p42 f41 H locs hqf41 V I hS => ?_)
        have I : cI ks τ L ψ f41 := by rw [show p42 = ψ from hqf41] at I; exact I
        refine lv_isub hx hb dX7_perform_68 ?_
        obtain ⟨v44_0, v44_1, v44_2, v44_3, hf44, t44_2⟩ := op6 I t_o0
        refine lv_topi (fun x45 ex45 => ?_)
        refine cP (v := .int x45) (ty := .int) C9 V hS t_o0.1 hf44 rfl tC_lay6 tyX7 tyX7_ok nmX7 3 (by decide) tCf_X7_9 rfl rfl (by decide +kernel) rfl rfl (Nat.le_of_ble_eq_true rfl) dX7_perform_69 (fun f46 H locs ef46 V hS => ?_)
        have hf47 : f46 o0 = .inr (6, [.int v44_0, .int v44_1, .ref v44_2, .int x45]) := up_s ef46
        have I := cI_up I t_o0.2 ef46 (mk6 t44_2)
        refine lv_aload_n hx hb dX7_perform_72 rfl (lv_at hl 1 rfl) ?_
        obtain ⟨v48_0, v48_1, v48_2, v48_3, v48_4, v48_5, v48_6, v48_7, v48_8, v48_9, v48_10, v48_11, v48_12, hf48, t48_7, t48_8, t48_11⟩ := op7 I t_o1
        refine cGoV (cRunV (As := []) (rest := []) C9 hml hN hNs V I hS t_o1.1 hf48 rfl (c_X8_goOn l D ks τ L A N hN  ψ f46 o1 t_o1 ) gC_X7_42 okC_X8_goOn ⟨rfl, rfl, Nat.le_of_ble_eq_true rfl, Nat.le_of_ble_eq_true rfl⟩ hl.1 rfl (Nat.le_of_ble_eq_true rfl) dX7_perform_73 ⟨Nat.zero_le _, Nat.zero_le _⟩) hS (fun p50 f49 H locs hqf49 V I hS => ?_)
        have I : cI ks τ L ψ f49 := by rw [show p50 = ψ from hqf49] at I; exact I
        refine lv_goto (tgt := 143) hx hb dX7_perform_76 (by decide) ?_
        exact cRetV C9 hr hlk hN hNs V I hS (rfl) dX7_perform_143
  rcases List.mem_cons.mp hm6 with rfl | hm6
  · refine lv_aload_n hx hb dX7_perform_87 rfl (lv_at hl 0 rfl) ?_
    refine lv_dup hx hb dX7_perform_88 rfl ?_
    obtain ⟨v52_0, v52_1, v52_2, v52_3, hf52, t52_2⟩ := op6 I t_o0
    refine cG C9 V t_o0.1 hf52 rfl tC_lay6 3 (by decide) tCf_X7_9 (Or.inl rfl) rfl dX7_perform_89 ?_
    refine lv_aload_n hx hb dX7_perform_92 rfl (lv_at hl 1 rfl) ?_
    refine lv_iconst (v := 1) hx hb dX7_perform_93 (by decide) ?_
    obtain ⟨v53_0, v53_1, v53_2, v53_3, v53_4, v53_5, v53_6, v53_7, v53_8, v53_9, v53_10, v53_11, v53_12, hf53, t53_7, t53_8, t53_11⟩ := op7 I t_o1
    refine cGoI (cRunV (As := [.int 1]) (rest := [.int v52_3, .ref o0]) C9 hml hN hNs V I hS t_o1.1 hf53 rfl (c_X8_operand l D ks τ L A N hN  ψ f o1 1 t_o1 ) gC_X7_36 okC_X8_operand ⟨rfl, rfl, Nat.le_of_ble_eq_true rfl, Nat.le_of_ble_eq_true rfl⟩ hl.1 rfl (Nat.le_of_ble_eq_true rfl) dX7_perform_94 ⟨Nat.zero_le _, Nat.zero_le _⟩) hS (fun r56 p55 f54 H locs hqf54 V I hS => ?_)
    have I : cI ks τ L ψ f54 := by rw [show p55 = ψ from hqf54] at I; exact I
    refine lv_iadd hx hb dX7_perform_97 ?_
    obtain ⟨v57_0, v57_1, v57_2, v57_3, hf57, t57_2⟩ := op6 I t_o0
    refine lv_topi (fun x58 ex58 => ?_)
    refine cP (v := .int x58) (ty := .int) C9 V hS t_o0.1 hf57 rfl tC_lay6 tyX7 tyX7_ok nmX7 3 (by decide) tCf_X7_9 rfl rfl (by decide +kernel) rfl rfl (Nat.le_of_ble_eq_true rfl) dX7_perform_98 (fun f59 H locs ef59 V hS => ?_)
    have hf60 : f59 o0 = .inr (6, [.int v57_0, .int v57_1, .ref v57_2, .int x58]) := up_s ef59
    have I := cI_up I t_o0.2 ef59 (mk6 t57_2)
    refine lv_aload_n hx hb dX7_perform_101 rfl (lv_at hl 1 rfl) ?_
    obtain ⟨v61_0, v61_1, v61_2, v61_3, v61_4, v61_5, v61_6, v61_7, v61_8, v61_9, v61_10, v61_11, v61_12, hf61, t61_7, t61_8, t61_11⟩ := op7 I t_o1
    refine cGoV (cRunV (As := []) (rest := []) C9 hml hN hNs V I hS t_o1.1 hf61 rfl (c_X8_goOn l D ks τ L A N hN  ψ f59 o1 t_o1 ) gC_X7_42 okC_X8_goOn ⟨rfl, rfl, Nat.le_of_ble_eq_true rfl, Nat.le_of_ble_eq_true rfl⟩ hl.1 rfl (Nat.le_of_ble_eq_true rfl) dX7_perform_102 ⟨Nat.zero_le _, Nat.zero_le _⟩) hS (fun p63 f62 H locs hqf62 V I hS => ?_)
    have I : cI ks τ L ψ f62 := by rw [show p63 = ψ from hqf62] at I; exact I
    refine lv_aload_n hx hb dX7_perform_105 rfl (lv_at hl 0 rfl) ?_
    obtain ⟨v65_0, v65_1, v65_2, v65_3, hf65, t65_2⟩ := op6 I t_o0
    refine cGoV (cRunV (As := []) (rest := []) C9 hml hN hNs V I hS t_o0.1 hf65 rfl (c_X7_handOut l D ks τ L A N hN  ψ f62 o0 t_o0 ) gC_X7_50 okC_X7_handOut ⟨rfl, rfl, Nat.le_of_ble_eq_true rfl, Nat.le_of_ble_eq_true rfl⟩ hl.1 rfl (Nat.le_of_ble_eq_true rfl) dX7_perform_106 ⟨Nat.zero_le _, Nat.zero_le _⟩) hS (fun p67 f66 H locs hqf66 V I hS => ?_)
    have I : cI ks τ L ψ f66 := by rw [show p67 = ψ from hqf66] at I; exact I
    refine lv_goto (tgt := 143) hx hb dX7_perform_109 (by decide) ?_
    exact cRetV C9 hr hlk hN hNs V I hS (rfl) dX7_perform_143
  exact absurd hm6 List.not_mem_nil
set_option maxHeartbeats 200000 in
set_option maxRecDepth 100000 in
theorem c_X4_perform (l : Launch) (D : va_G) (ks : kS) (τ : Nat → Nat) (L : List Nat) (A : Nat → Prop) (N : State → Prop) (hN : cNk A N) (κ : kC) (hN0 : ∀ U, N U → N0 κ A U) (ψ : Int32) (f : Nat → va_E) (o0 : Nat) (o1 : Nat) (o2 : Nat) (t_o0 : ty τ L o0 3) (t_o1 : ty τ L o1 7) (t_o2 : isW κ o2) : Met l yX4_perform (Cond.code yX4_perform cX4_perform 3 none :: tC) ({ frames := 4, cells := 0, slots := 0, locals := 88 }) (va_Pc [.ref o0, .ref o1, .ref o2] (cB D ks τ L A N (ψ, f))) (va_Qv (fun x9 => x9.1 = ψ) (cB D ks τ L A N) A) 0 0 A := by
  refine cMet (own := RX4) (by decide) rfl (Nat.le_of_ble_eq_true rfl) ?_
  intro p e s m below meth c ls C9 hml hr hlk V I hNs hl
  have hx := C9.1
  have hb := C9.2.1
  have hown := C9.2.2.1
  have hts := C9.2.2.2.1
  have h0 := hN0 s hNs
  have hS : va_S A s.heap s.heap [] := va_S.rf
  have hl : lv_has ls 3 [(0, .ref o0), (1, .ref o1), (2, .ref o2)] := hl
  refine lv_aload_n hx hb dX4_perform_0 rfl (lv_at hl 2 rfl) ?_
  refine cZn C9 h0 hS (by simp [wNm]) tCf_X4_28 dX4_perform_1 (fun y1 hy1 => ?_)
  refine lv_acmp_ne (rx := (some o2)) (ry := (some y1)) (tgt := 15) hx hb dX4_perform_4 (by decide) (fun c2 => ?_) (fun c2 => ?_)
  · refine lv_aload_n hx hb dX4_perform_15 rfl (lv_at hl 2 rfl) ?_
    refine cZn C9 h0 hS (by simp [wNm]) tCf_X4_38 dX4_perform_16 (fun y3 hy3 => ?_)
    refine lv_acmp_ne (rx := (some o2)) (ry := (some y3)) (tgt := 42) hx hb dX4_perform_19 (by decide) (fun c4 => ?_) (fun c4 => ?_)
    · refine lv_aload_n hx hb dX4_perform_42 rfl (lv_at hl 0 rfl) ?_
      obtain ⟨v5_0, v5_1, v5_2, v5_3, v5_4, v5_5, v5_6, hf5, t5_2, t5_6⟩ := op3 I t_o0
      refine cG C9 V t_o0.1 hf5 rfl tC_lay3 3 (by decide) tCf_X4_9 (Or.inl rfl) rfl dX4_perform_43 ?_
      refine lv_aload_n hx hb dX4_perform_46 rfl (lv_at hl 1 rfl) ?_
      obtain ⟨v6_0, v6_1, v6_2, v6_3, v6_4, v6_5, v6_6, v6_7, v6_8, v6_9, v6_10, v6_11, v6_12, hf6, t6_7, t6_8, t6_11⟩ := op7 I t_o1
      refine cG C9 V t_o1.1 hf6 rfl tC_lay7 0 (by decide) tCf_X4_51 (Or.inl rfl) rfl dX4_perform_47 ?_
      refine lv_icmp_eq (tgt := 61) hx hb dX4_perform_50 (by decide) (fun c7 => ?_) (fun c7 => ?_)
      · refine lv_aload_n hx hb dX4_perform_61 rfl (lv_at hl 2 rfl) ?_
        refine cZn C9 h0 hS (by simp [wNm]) tCf_X4_57 dX4_perform_62 (fun y8 hy8 => ?_)
        refine lv_acmp_ne (rx := (some o2)) (ry := (some y8)) (tgt := 96) hx hb dX4_perform_65 (by decide) (fun c9 => ?_) (fun c9 => ?_)
        · refine lv_aload_n hx hb dX4_perform_96 rfl (lv_at hl 2 rfl) ?_
          refine cZn C9 h0 hS (by simp [wNm]) tCf_X4_69 dX4_perform_97 (fun y10 hy10 => ?_)
          refine lv_acmp_eq (rx := (some o2)) (ry := (some y10)) (tgt := 110) hx hb dX4_perform_100 (by decide) (fun c11 => ?_) (fun c11 => ?_)
          · refine lv_aload_n hx hb dX4_perform_110 rfl (lv_at hl 1 rfl) ?_
            refine cGoV (cRunV (As := []) (rest := []) C9 hml hN hNs V I hS t_o1.1 hf6 rfl (c_X8_goOn l D ks τ L A N hN  ψ f o1 t_o1 ) gC_X4_60 okC_X8_goOn ⟨rfl, rfl, Nat.le_of_ble_eq_true rfl, Nat.le_of_ble_eq_true rfl⟩ hl.1 rfl (Nat.le_of_ble_eq_true rfl) dX4_perform_111 ⟨Nat.zero_le _, Nat.zero_le _⟩) hS (fun p13 f12 H locs hqf12 V I hS => ?_)
            have I : cI ks τ L ψ f12 := by rw [show p13 = ψ from hqf12] at I; exact I
            refine lv_aload_n hx hb dX4_perform_114 rfl (lv_at hl 0 rfl) ?_
            refine lv_aload_n hx hb dX4_perform_115 rfl (lv_at hl 2 rfl) ?_
            refine cZn C9 h0 hS (by simp [wNm]) tCf_X4_72 dX4_perform_116 (fun y15 hy15 => ?_)
            refine lv_acmp_ne (rx := (some o2)) (ry := (some y15)) (tgt := 132) hx hb dX4_perform_119 (by decide) (fun c16 => ?_) (fun c16 => ?_)
            · refine lv_iconst (v := 1) hx hb dX4_perform_132 (by decide) ?_
              obtain ⟨v17_0, v17_1, v17_2, v17_3, v17_4, v17_5, v17_6, hf17, t17_2, t17_6⟩ := op3 I t_o0
              refine cGoV (cRunV (As := [.int 1]) (rest := []) C9 hml hN hNs V I hS t_o0.1 hf17 rfl (c_X4_callUp l D ks τ L A N hN  ψ f12 o0 1 t_o0 ) gC_X4_78 okC_X4_callUp ⟨rfl, rfl, Nat.le_of_ble_eq_true rfl, Nat.le_of_ble_eq_true rfl⟩ hl.1 rfl (Nat.le_of_ble_eq_true rfl) dX4_perform_133 ⟨Nat.zero_le _, Nat.zero_le _⟩) hS (fun p19 f18 H locs hqf18 V I hS => ?_)
              have I : cI ks τ L ψ f18 := by rw [show p19 = ψ from hqf18] at I; exact I
              refine lv_goto (tgt := 167) hx hb dX4_perform_136 (by decide) ?_
              exact cRetV C9 hr hlk hN hNs V I hS (rfl) dX4_perform_167
            · refine lv_aload_n hx hb dX4_perform_122 rfl (lv_at hl 0 rfl) ?_
              obtain ⟨v21_0, v21_1, v21_2, v21_3, v21_4, v21_5, v21_6, hf21, t21_2, t21_6⟩ := op3 I t_o0
              refine cG C9 V t_o0.1 hf21 rfl tC_lay3 6 (by decide) tCf_X4_20 (Or.inl rfl) rfl dX4_perform_123 ?_
              obtain ⟨v22_0, v22_1, hf22, hn22, t22_1⟩ := op5 I t21_6
              refine cG C9 V t21_6.1 hf22 rfl tC_lay5 0 (by decide) tCf_X4_75 (Or.inl rfl) rfl dX4_perform_126 ?_
              refine lv_goto (tgt := 133) hx hb dX4_perform_129 (by decide) ?_
              refine cGoV (cRunV (As := [.int v22_0]) (rest := []) C9 hml hN hNs V I hS t_o0.1 hf21 rfl (c_X4_callUp l D ks τ L A N hN  ψ f12 o0 v22_0 t_o0 ) gC_X4_78 okC_X4_callUp ⟨rfl, rfl, Nat.le_of_ble_eq_true rfl, Nat.le_of_ble_eq_true rfl⟩ hl.1 rfl (Nat.le_of_ble_eq_true rfl) dX4_perform_133 ⟨Nat.zero_le _, Nat.zero_le _⟩) hS (fun p24 f23 H locs hqf23 V I hS => ?_)
              have I : cI ks τ L ψ f23 := by rw [show p24 = ψ from hqf23] at I; exact I
              refine lv_goto (tgt := 167) hx hb dX4_perform_136 (by decide) ?_
              exact cRetV C9 hr hlk hN hNs V I hS (rfl) dX4_perform_167
          · refine lv_aload_n hx hb dX4_perform_103 rfl (lv_at hl 2 rfl) ?_
            refine cZn C9 h0 hS (by simp [wNm]) tCf_X4_72 dX4_perform_104 (fun y26 hy26 => ?_)
            refine lv_acmp_ne (rx := (some o2)) (ry := (some y26)) (tgt := 139) hx hb dX4_perform_107 (by decide) (fun c27 => ?_) (fun c27 => ?_)
            · refine lv_aload_n hx hb dX4_perform_139 rfl (lv_at hl 1 rfl) ?_
              refine cGoI (cRunV (As := []) (rest := []) C9 hml hN hNs V I hS t_o1.1 hf6 rfl (c_X8_refusesToWait l D ks τ L A N hN  ψ f o1 t_o1 ) gC_X4_81 okC_X8_refusesToWait ⟨rfl, rfl, Nat.le_of_ble_eq_true rfl, Nat.le_of_ble_eq_true rfl⟩ hl.1 rfl (Nat.le_of_ble_eq_true rfl) dX4_perform_140 ⟨Nat.zero_le _, Nat.zero_le _⟩) hS (fun r30 p29 f28 H locs hqf28 V I hS => ?_)
              have I : cI ks τ L ψ f28 := by rw [show p29 = ψ from hqf28] at I; exact I
              refine lv_if_ne (tgt := 167) hx hb dX4_perform_143 (by decide) (fun c31 => ?_) (fun c31 => ?_)
              · exact cRetV C9 hr hlk hN hNs V I hS (rfl) dX4_perform_167
              · refine lv_aload_n hx hb dX4_perform_146 rfl (lv_at hl 1 rfl) ?_
                refine lv_aload_n hx hb dX4_perform_147 rfl (lv_at hl 0 rfl) ?_
                obtain ⟨v32_0, v32_1, v32_2, v32_3, v32_4, v32_5, v32_6, hf32, t32_2, t32_6⟩ := op3 I t_o0
                refine cG C9 V t_o0.1 hf32 rfl tC_lay3 5 (by decide) tCf_X4_63 (Or.inl rfl) rfl dX4_perform_148 ?_
                obtain ⟨v33_0, v33_1, v33_2, v33_3, v33_4, v33_5, v33_6, v33_7, v33_8, v33_9, v33_10, v33_11, v33_12, hf33, t33_7, t33_8, t33_11⟩ := op7 I t_o1
                refine cP (v := .int v32_5) (ty := .int) C9 V hS t_o1.1 hf33 rfl tC_lay7 tyX8 tyX8_ok nmX8 9 (by decide) tCf_X4_85 rfl rfl (by decide +kernel) rfl rfl (Nat.le_of_ble_eq_true rfl) dX4_perform_151 (fun f34 H locs ef34 V hS => ?_)
                have hf35 : f34 o1 = .inr (7, [.int v33_0, .int v33_1, .int v33_2, .int v33_3, .int v33_4, .int v33_5, .long v33_6, va_rf v33_7, va_rf v33_8, .int v32_5, .int v33_10, .ref v33_11, .int v33_12]) := up_s ef34
                have I := cI_up I t_o1.2 ef34 (mk7 t33_7 t33_8 t33_11)
                have hf36 := up_n ef34 t_o1.2 t_o0.2 (by first | decide | omega) hf32
                refine lv_aload_n hx hb dX4_perform_154 rfl (lv_at hl 1 rfl) ?_
                refine lv_aload_n hx hb dX4_perform_155 rfl (lv_at hl 0 rfl) ?_
                refine cG C9 V t_o0.1 hf36 rfl tC_lay3 6 (by decide) tCf_X4_20 (Or.inl rfl) rfl dX4_perform_156 ?_
                refine lv_aload_n hx hb dX4_perform_159 rfl (lv_at hl 0 rfl) ?_
                refine cGoV (cRunV (As := [.ref v32_6, .ref o0]) (rest := []) C9 hml hN hNs V I hS t_o1.1 hf35 rfl (c_X8_standIn l D ks τ L A N hN  ψ f34 o1 v32_6 o0 t_o1 t32_6 (tyS_of t_o0 (by decide)) ) gC_X4_88 okC_X8_standIn ⟨rfl, rfl, Nat.le_of_ble_eq_true rfl, Nat.le_of_ble_eq_true rfl⟩ hl.1 rfl (Nat.le_of_ble_eq_true rfl) dX4_perform_160 ⟨Nat.zero_le _, Nat.zero_le _⟩) hS (fun p38 f37 H locs hqf37 V I hS => ?_)
                have I : cI ks τ L ψ f37 := by rw [show p38 = ψ from hqf37] at I; exact I
                refine lv_aload_n hx hb dX4_perform_163 rfl (lv_at hl 0 rfl) ?_
                obtain ⟨v40_0, v40_1, v40_2, v40_3, v40_4, v40_5, v40_6, hf40, t40_2, t40_6⟩ := op3 I t_o0
                refine cGoV (cRunV (As := []) (rest := []) C9 hml hN hNs V I hS t_o0.1 hf40 rfl (c_X4_free l D ks τ L A N hN  ψ f37 o0 t_o0 ) gC_X4_66 okC_X4_free ⟨rfl, rfl, Nat.le_of_ble_eq_true rfl, Nat.le_of_ble_eq_true rfl⟩ hl.1 rfl (Nat.le_of_ble_eq_true rfl) dX4_perform_164 ⟨Nat.zero_le _, Nat.zero_le _⟩) hS (fun p42 f41 H locs hqf41 V I hS => ?_)
                have I : cI ks τ L ψ f41 := by rw [show p42 = ψ from hqf41] at I; exact I
                exact cRetV C9 hr hlk hN hNs V I hS (rfl) dX4_perform_167
            · refine lv_aload_n hx hb dX4_perform_110 rfl (lv_at hl 1 rfl) ?_
              refine cGoV (cRunV (As := []) (rest := []) C9 hml hN hNs V I hS t_o1.1 hf6 rfl (c_X8_goOn l D ks τ L A N hN  ψ f o1 t_o1 ) gC_X4_60 okC_X8_goOn ⟨rfl, rfl, Nat.le_of_ble_eq_true rfl, Nat.le_of_ble_eq_true rfl⟩ hl.1 rfl (Nat.le_of_ble_eq_true rfl) dX4_perform_111 ⟨Nat.zero_le _, Nat.zero_le _⟩) hS (fun p45 f44 H locs hqf44 V I hS => ?_)
              have I : cI ks τ L ψ f44 := by rw [show p45 = ψ from hqf44] at I; exact I
              refine lv_aload_n hx hb dX4_perform_114 rfl (lv_at hl 0 rfl) ?_
              refine lv_aload_n hx hb dX4_perform_115 rfl (lv_at hl 2 rfl) ?_
              refine cZn C9 h0 hS (by simp [wNm]) tCf_X4_72 dX4_perform_116 (fun y47 hy47 => ?_)
              refine lv_acmp_ne (rx := (some o2)) (ry := (some y47)) (tgt := 132) hx hb dX4_perform_119 (by decide) (fun c48 => ?_) (fun c48 => ?_)
              · refine lv_iconst (v := 1) hx hb dX4_perform_132 (by decide) ?_
                obtain ⟨v49_0, v49_1, v49_2, v49_3, v49_4, v49_5, v49_6, hf49, t49_2, t49_6⟩ := op3 I t_o0
                refine cGoV (cRunV (As := [.int 1]) (rest := []) C9 hml hN hNs V I hS t_o0.1 hf49 rfl (c_X4_callUp l D ks τ L A N hN  ψ f44 o0 1 t_o0 ) gC_X4_78 okC_X4_callUp ⟨rfl, rfl, Nat.le_of_ble_eq_true rfl, Nat.le_of_ble_eq_true rfl⟩ hl.1 rfl (Nat.le_of_ble_eq_true rfl) dX4_perform_133 ⟨Nat.zero_le _, Nat.zero_le _⟩) hS (fun p51 f50 H locs hqf50 V I hS => ?_)
                have I : cI ks τ L ψ f50 := by rw [show p51 = ψ from hqf50] at I; exact I
                refine lv_goto (tgt := 167) hx hb dX4_perform_136 (by decide) ?_
                exact cRetV C9 hr hlk hN hNs V I hS (rfl) dX4_perform_167
              · refine lv_aload_n hx hb dX4_perform_122 rfl (lv_at hl 0 rfl) ?_
                obtain ⟨v53_0, v53_1, v53_2, v53_3, v53_4, v53_5, v53_6, hf53, t53_2, t53_6⟩ := op3 I t_o0
                refine cG C9 V t_o0.1 hf53 rfl tC_lay3 6 (by decide) tCf_X4_20 (Or.inl rfl) rfl dX4_perform_123 ?_
                obtain ⟨v54_0, v54_1, hf54, hn54, t54_1⟩ := op5 I t53_6
                refine cG C9 V t53_6.1 hf54 rfl tC_lay5 0 (by decide) tCf_X4_75 (Or.inl rfl) rfl dX4_perform_126 ?_
                refine lv_goto (tgt := 133) hx hb dX4_perform_129 (by decide) ?_
                refine cGoV (cRunV (As := [.int v54_0]) (rest := []) C9 hml hN hNs V I hS t_o0.1 hf53 rfl (c_X4_callUp l D ks τ L A N hN  ψ f44 o0 v54_0 t_o0 ) gC_X4_78 okC_X4_callUp ⟨rfl, rfl, Nat.le_of_ble_eq_true rfl, Nat.le_of_ble_eq_true rfl⟩ hl.1 rfl (Nat.le_of_ble_eq_true rfl) dX4_perform_133 ⟨Nat.zero_le _, Nat.zero_le _⟩) hS (fun p56 f55 H locs hqf55 V I hS => ?_)
                have I : cI ks τ L ψ f55 := by rw [show p56 = ψ from hqf55] at I; exact I
                refine lv_goto (tgt := 167) hx hb dX4_perform_136 (by decide) ?_
                exact cRetV C9 hr hlk hN hNs V I hS (rfl) dX4_perform_167
        · refine lv_aload_n hx hb dX4_perform_68 rfl (lv_at hl 1 rfl) ?_
          refine cGoV (cRunV (As := []) (rest := []) C9 hml hN hNs V I hS t_o1.1 hf6 rfl (c_X8_goOn l D ks τ L A N hN  ψ f o1 t_o1 ) gC_X4_60 okC_X8_goOn ⟨rfl, rfl, Nat.le_of_ble_eq_true rfl, Nat.le_of_ble_eq_true rfl⟩ hl.1 rfl (Nat.le_of_ble_eq_true rfl) dX4_perform_69 ⟨Nat.zero_le _, Nat.zero_le _⟩) hS (fun p59 f58 H locs hqf58 V I hS => ?_)
          have I : cI ks τ L ψ f58 := by rw [show p59 = ψ from hqf58] at I; exact I
          refine lv_aload_n hx hb dX4_perform_72 rfl (lv_at hl 0 rfl) ?_
          refine lv_dup hx hb dX4_perform_73 rfl ?_
          obtain ⟨v61_0, v61_1, v61_2, v61_3, v61_4, v61_5, v61_6, hf61, t61_2, t61_6⟩ := op3 I t_o0
          refine cG C9 V t_o0.1 hf61 rfl tC_lay3 5 (by decide) tCf_X4_63 (Or.inl rfl) rfl dX4_perform_74 ?_
          refine lv_iconst (v := 1) hx hb dX4_perform_77 (by decide) ?_
          refine lv_isub hx hb dX4_perform_78 ?_
          refine lv_topi (fun x62 ex62 => ?_)
          refine cP (v := .int x62) (ty := .int) C9 V hS t_o0.1 hf61 rfl tC_lay3 tyX4 tyX4_ok nmX4 5 (by decide) tCf_X4_63 rfl rfl (by decide +kernel) rfl rfl (Nat.le_of_ble_eq_true rfl) dX4_perform_79 (fun f63 H locs ef63 V hS => ?_)
          have hf64 : f63 o0 = .inr (3, [.int v61_0, .int v61_1, .ref v61_2, .int v61_3, .int v61_4, .int x62, .ref v61_6]) := up_s ef63
          have I := cI_up I t_o0.2 ef63 (mk3 t61_2 t61_6)
          refine lv_aload_n hx hb dX4_perform_82 rfl (lv_at hl 0 rfl) ?_
          refine cG C9 V t_o0.1 hf64 rfl tC_lay3 5 (by decide) tCf_X4_63 (Or.inl rfl) rfl dX4_perform_83 ?_
          refine lv_if_ne (tgt := 167) hx hb dX4_perform_86 (by decide) (fun c65 => ?_) (fun c65 => ?_)
          · exact cRetV C9 hr hlk hN hNs V I hS (rfl) dX4_perform_167
          · refine lv_aload_n hx hb dX4_perform_89 rfl (lv_at hl 0 rfl) ?_
            refine cGoV (cRunV (As := []) (rest := []) C9 hml hN hNs V I hS t_o0.1 hf64 rfl (c_X4_free l D ks τ L A N hN  ψ f63 o0 t_o0 ) gC_X4_66 okC_X4_free ⟨rfl, rfl, Nat.le_of_ble_eq_true rfl, Nat.le_of_ble_eq_true rfl⟩ hl.1 rfl (Nat.le_of_ble_eq_true rfl) dX4_perform_90 ⟨Nat.zero_le _, Nat.zero_le _⟩) hS (fun p67 f66 H locs hqf66 V I hS => ?_)
            have I : cI ks τ L ψ f66 := by rw [show p67 = ψ from hqf66] at I; exact I
            refine lv_goto (tgt := 167) hx hb dX4_perform_93 (by decide) ?_
            exact cRetV C9 hr hlk hN hNs V I hS (rfl) dX4_perform_167
      · refine lv_aload_n hx hb dX4_perform_53 rfl (lv_at hl 1 rfl) ?_
        refine lv_iconst (v := 1) hx hb dX4_perform_54 (by decide) ?_
        refine cGoV (cRunV (As := [.int 1]) (rest := []) C9 hml hN hNs V I hS t_o1.1 hf6 rfl (c_X8_fail l D ks τ L A N hN  ψ f o1 1 t_o1 ) gC_X4_54 okC_X8_fail ⟨rfl, rfl, Nat.le_of_ble_eq_true rfl, Nat.le_of_ble_eq_true rfl⟩ hl.1 rfl (Nat.le_of_ble_eq_true rfl) dX4_perform_55 ⟨Nat.zero_le _, Nat.zero_le _⟩) hS (fun p70 f69 H locs hqf69 V I hS => ?_)
        have I : cI ks τ L ψ f69 := by rw [show p70 = ψ from hqf69] at I; exact I
        refine lv_goto (tgt := 167) hx hb dX4_perform_58 (by decide) ?_
        exact cRetV C9 hr hlk hN hNs V I hS (rfl) dX4_perform_167
    · refine lv_aload_n hx hb dX4_perform_22 rfl (lv_at hl 1 rfl) ?_
      refine lv_aload_n hx hb dX4_perform_23 rfl (lv_at hl 0 rfl) ?_
      refine lv_aload_n hx hb dX4_perform_24 rfl (lv_at hl 1 rfl) ?_
      obtain ⟨v72_0, v72_1, v72_2, v72_3, v72_4, v72_5, v72_6, hf72, t72_2, t72_6⟩ := op3 I t_o0
      refine cGoI (cRunV (As := [.ref o1]) (rest := [.ref o1]) C9 hml hN hNs V I hS t_o0.1 hf72 rfl (c_X4_isGrabbed l D ks τ L A N hN  ψ f o0 o1 t_o0 t_o1 ) gC_X4_41 okC_X4_isGrabbed ⟨rfl, rfl, Nat.le_of_ble_eq_true rfl, Nat.le_of_ble_eq_true rfl⟩ hl.1 rfl (Nat.le_of_ble_eq_true rfl) dX4_perform_25 ⟨Nat.zero_le _, Nat.zero_le _⟩) hS (fun r75 p74 f73 H locs hqf73 V I hS => ?_)
      have I : cI ks τ L ψ f73 := by rw [show p74 = ψ from hqf73] at I; exact I
      refine lv_if_eq (tgt := 35) hx hb dX4_perform_28 (by decide) (fun c76 => ?_) (fun c76 => ?_)
      · refine lv_iconst (v := 0) hx hb dX4_perform_35 (by decide) ?_
        obtain ⟨v77_0, v77_1, v77_2, v77_3, v77_4, v77_5, v77_6, v77_7, v77_8, v77_9, v77_10, v77_11, v77_12, hf77, t77_7, t77_8, t77_11⟩ := op7 I t_o1
        refine cGoV (cRunV (As := [.int 0]) (rest := []) C9 hml hN hNs V I hS t_o1.1 hf77 rfl (c_X8_goOnWith l D ks τ L A N hN  ψ f73 o1 0 t_o1 ) gC_X4_45 okC_X8_goOnWith ⟨rfl, rfl, Nat.le_of_ble_eq_true rfl, Nat.le_of_ble_eq_true rfl⟩ hl.1 rfl (Nat.le_of_ble_eq_true rfl) dX4_perform_36 ⟨Nat.zero_le _, Nat.zero_le _⟩) hS (fun p79 f78 H locs hqf78 V I hS => ?_)
        have I : cI ks τ L ψ f78 := by rw [show p79 = ψ from hqf78] at I; exact I
        refine lv_goto (tgt := 167) hx hb dX4_perform_39 (by decide) ?_
        exact cRetV C9 hr hlk hN hNs V I hS (rfl) dX4_perform_167
      · refine lv_iconst (v := 1) hx hb dX4_perform_31 (by decide) ?_
        refine lv_goto (tgt := 36) hx hb dX4_perform_32 (by decide) ?_
        obtain ⟨v81_0, v81_1, v81_2, v81_3, v81_4, v81_5, v81_6, v81_7, v81_8, v81_9, v81_10, v81_11, v81_12, hf81, t81_7, t81_8, t81_11⟩ := op7 I t_o1
        refine cGoV (cRunV (As := [.int 1]) (rest := []) C9 hml hN hNs V I hS t_o1.1 hf81 rfl (c_X8_goOnWith l D ks τ L A N hN  ψ f73 o1 1 t_o1 ) gC_X4_45 okC_X8_goOnWith ⟨rfl, rfl, Nat.le_of_ble_eq_true rfl, Nat.le_of_ble_eq_true rfl⟩ hl.1 rfl (Nat.le_of_ble_eq_true rfl) dX4_perform_36 ⟨Nat.zero_le _, Nat.zero_le _⟩) hS (fun p83 f82 H locs hqf82 V I hS => ?_)
        have I : cI ks τ L ψ f82 := by rw [show p83 = ψ from hqf82] at I; exact I
        refine lv_goto (tgt := 167) hx hb dX4_perform_39 (by decide) ?_
        exact cRetV C9 hr hlk hN hNs V I hS (rfl) dX4_perform_167
  · refine lv_aload_n hx hb dX4_perform_7 rfl (lv_at hl 0 rfl) ?_
    refine lv_aload_n hx hb dX4_perform_8 rfl (lv_at hl 1 rfl) ?_
    obtain ⟨v85_0, v85_1, v85_2, v85_3, v85_4, v85_5, v85_6, hf85, t85_2, t85_6⟩ := op3 I t_o0
    refine cGoV (cRunV (As := [.ref o1]) (rest := []) C9 hml hN hNs V I hS t_o0.1 hf85 rfl (c_X4_grabOrStandIn l D ks τ L A N hN  ψ f o0 o1 t_o0 t_o1 ) gC_X4_34 okC_X4_grabOrStandIn ⟨rfl, rfl, Nat.le_of_ble_eq_true rfl, Nat.le_of_ble_eq_true rfl⟩ hl.1 rfl (Nat.le_of_ble_eq_true rfl) dX4_perform_9 ⟨Nat.zero_le _, Nat.zero_le _⟩) hS (fun p87 f86 H locs hqf86 V I hS => ?_)
    have I : cI ks τ L ψ f86 := by rw [show p87 = ψ from hqf86] at I; exact I
    refine lv_goto (tgt := 167) hx hb dX4_perform_12 (by decide) ?_
    exact cRetV C9 hr hlk hN hNs V I hS (rfl) dX4_perform_167
set_option maxHeartbeats 200000 in
set_option maxRecDepth 100000 in
theorem c_X12_doAlone (l : Launch) (D : va_G) (ks : kS) (τ : Nat → Nat) (L : List Nat) (A : Nat → Prop) (N : State → Prop) (hN : cNk A N) (κ : kC) (hN0 : ∀ U, N U → N0 κ A U) (ψ : Int32) (f : Nat → va_E) (o0 : Nat) (o1 : Nat) (o2 : Nat) (t_o0 : ty τ L o0 9) (t_o1 : ty τ L o1 7) (t_o2 : isW κ o2) : Met l yX12_doAlone (Cond.code yX12_doAlone cX12_doAlone 4 none :: tC) ({ frames := 4, cells := 0, slots := 0, locals := 85 }) (va_Pc [.ref o0, .ref o1, .ref o2] (cB D ks τ L A N (ψ, f))) (va_Qv (fun x9 => x9.1 = ψ) (cB D ks τ L A N) A) 0 0 A := by
  refine cMet (own := RX12) (by decide) rfl (Nat.le_of_ble_eq_true rfl) ?_
  intro p e s m below meth c ls C9 hml hr hlk V I hNs hl
  have hx := C9.1
  have hb := C9.2.1
  have hown := C9.2.2.1
  have hts := C9.2.2.2.1
  have h0 := hN0 s hNs
  have hS : va_S A s.heap s.heap [] := va_S.rf
  have hl : lv_has ls 4 [(0, .ref o0), (1, .ref o1), (2, .ref o2)] := hl
  refine lv_aload_n hx hb dX12_doAlone_0 rfl (lv_at hl 1 rfl) ?_
  refine lv_iconst (v := 0) hx hb dX12_doAlone_1 (by decide) ?_
  obtain ⟨v1_0, v1_1, v1_2, v1_3, v1_4, v1_5, v1_6, v1_7, v1_8, v1_9, v1_10, v1_11, v1_12, hf1, t1_7, t1_8, t1_11⟩ := op7 I t_o1
  refine cGoI (cRunV (As := [.int 0]) (rest := []) C9 hml hN hNs V I hS t_o1.1 hf1 rfl (c_X8_operand l D ks τ L A N hN  ψ f o1 0 t_o1 ) gC_X12_253 okC_X8_operand ⟨rfl, rfl, Nat.le_of_ble_eq_true rfl, Nat.le_of_ble_eq_true rfl⟩ hl.1 rfl (Nat.le_of_ble_eq_true rfl) dX12_doAlone_2 ⟨Nat.zero_le _, Nat.zero_le _⟩) hS (fun r4 p3 f2 H locs hqf2 V I hS => ?_)
  have I : cI ks τ L ψ f2 := by rw [show p3 = ψ from hqf2] at I; exact I
  refine lv_istore_n (lv' := [(3, .int r4), (0, .ref o0), (1, .ref o1), (2, .ref o2)]) hx hb dX12_doAlone_5 rfl hl (by decide) rfl (fun ls hl => ?_)
  refine cZs C9 h0 hS tCf_X12_262 dX12_doAlone_6 (fun y5 hy5 => ?_)
  refine lv_aload_n hx hb dX12_doAlone_9 rfl (lv_at hl 3 rfl) ?_
  refine cGoI (cRunU (As := []) (rest := [.ref y5]) C9 hml hN hNs V I hS (isW_r h0 hS t_o2) (c_Jx29ce0_ordinal_8abf5 l D ks τ L A N hN κ hN0 ψ f2 o2 t_o2 ) (va_cwU 0 hts gU_X12_267_X11 rfl rfl rfl rfl okU_X12_267 ⟨Nat.le_of_ble_eq_true rfl, Nat.le_of_ble_eq_true rfl⟩) hl.1 rfl (Nat.le_of_ble_eq_true rfl) dX12_doAlone_10 ⟨Nat.zero_le _, Nat.zero_le _⟩) hS (fun r8 p7 f6 H locs hqf6 V I hS => ?_)
  have V : cV D L f2 A H := by rw [show f6 = f2 from congrArg Prod.snd hqf6.1] at V; exact V
  have I : cI ks τ L ψ f2 := by rw [show f6 = f2 from congrArg Prod.snd hqf6.1, show p7 = ψ from congrArg Prod.fst hqf6.1] at I; exact I
  refine cLs C9 hy5 hS (cvin (N := 34) rfl (hqf6.2.1) (hqf6.2.2)) dX12_doAlone_13 (fun x9 => ?_)
  refine cTab hx hb [154, 56, 64, 77, 89, 97, 121, 145] dX12_doAlone_14 rfl (by decide) ?_
  intro t9 hm10
  rcases List.mem_cons.mp hm10 with rfl | hm10
  · refine lv_aload_n hx hb dX12_doAlone_154 rfl (lv_at hl 2 rfl) ?_
    refine lv_iconst (v := 4) hx hb dX12_doAlone_155 (by decide) ?_
    obtain ⟨v11_0, v11_1, v11_2, v11_3, v11_4, v11_5, v11_6, v11_7, v11_8, v11_9, v11_10, v11_11, v11_12, hf11, t11_7, t11_8, t11_11⟩ := op7 I t_o1
    refine cP (v := .int 4) (ty := .int) C9 V hS t_o1.1 hf11 rfl tC_lay7 tyX8 tyX8_ok nmX8 1 (by decide) tCf_X12_112 rfl rfl (by decide +kernel) rfl rfl (Nat.le_of_ble_eq_true rfl) dX12_doAlone_156 (fun f12 H locs ef12 V hS => ?_)
    have hf13 : f12 o1 = .inr (7, [.int v11_0, .int 4, .int v11_2, .int v11_3, .int v11_4, .int v11_5, .long v11_6, va_rf v11_7, va_rf v11_8, .int v11_9, .int v11_10, .ref v11_11, .int v11_12]) := up_s ef12
    have I := cI_up I t_o1.2 ef12 (mk7 t11_7 t11_8 t11_11)
    exact cRetV C9 hr hlk hN hNs V I hS (rfl) dX12_doAlone_159
  rcases List.mem_cons.mp hm10 with rfl | hm10
  · refine lv_aload_n hx hb dX12_doAlone_56 rfl (lv_at hl 2 rfl) ?_
    refine lv_iload_n hx hb dX12_doAlone_57 rfl (lv_at hl 0 rfl) ?_
    obtain ⟨v14_0, v14_1, v14_2, v14_3, v14_4, v14_5, v14_6, v14_7, v14_8, v14_9, v14_10, v14_11, v14_12, hf14, t14_7, t14_8, t14_11⟩ := op7 I t_o1
    refine cGoV (cRunV (As := [.int r4]) (rest := []) C9 hml hN hNs V I hS t_o1.1 hf14 rfl (c_X8_goOnWith l D ks τ L A N hN  ψ f2 o1 r4 t_o1 ) gC_X12_155 okC_X8_goOnWith ⟨rfl, rfl, Nat.le_of_ble_eq_true rfl, Nat.le_of_ble_eq_true rfl⟩ hl.1 rfl (Nat.le_of_ble_eq_true rfl) dX12_doAlone_58 ⟨Nat.zero_le _, Nat.zero_le _⟩) hS (fun p16 f15 H locs hqf15 V I hS => ?_)
    have I : cI ks τ L ψ f15 := by rw [show p16 = ψ from hqf15] at I; exact I
    refine lv_goto (tgt := 159) hx hb dX12_doAlone_61 (by decide) ?_
    exact cRetV C9 hr hlk hN hNs V I hS (rfl) dX12_doAlone_159
  rcases List.mem_cons.mp hm10 with rfl | hm10
  · refine lv_aload_n hx hb dX12_doAlone_64 rfl (lv_at hl 2 rfl) ?_
    refine lv_aload_n hx hb dX12_doAlone_65 rfl (lv_at hl 2 rfl) ?_
    obtain ⟨v18_0, v18_1, v18_2, v18_3, v18_4, v18_5, v18_6, v18_7, v18_8, v18_9, v18_10, v18_11, v18_12, hf18, t18_7, t18_8, t18_11⟩ := op7 I t_o1
    refine cG C9 V t_o1.1 hf18 rfl tC_lay7 2 (by decide) tCf_X12_160 (Or.inl rfl) rfl dX12_doAlone_66 ?_
    refine lv_iload_n hx hb dX12_doAlone_69 rfl (lv_at hl 0 rfl) ?_
    refine lv_iadd hx hb dX12_doAlone_70 ?_
    refine cGoV (cRunV (As := [.int (v18_2 + r4)]) (rest := []) C9 hml hN hNs V I hS t_o1.1 hf18 rfl (c_X8_goOnWith l D ks τ L A N hN  ψ f2 o1 (v18_2 + r4) t_o1 ) gC_X12_155 okC_X8_goOnWith ⟨rfl, rfl, Nat.le_of_ble_eq_true rfl, Nat.le_of_ble_eq_true rfl⟩ hl.1 rfl (Nat.le_of_ble_eq_true rfl) dX12_doAlone_71 ⟨Nat.zero_le _, Nat.zero_le _⟩) hS (fun p20 f19 H locs hqf19 V I hS => ?_)
    have I : cI ks τ L ψ f19 := by rw [show p20 = ψ from hqf19] at I; exact I
    refine lv_goto (tgt := 159) hx hb dX12_doAlone_74 (by decide) ?_
    exact cRetV C9 hr hlk hN hNs V I hS (rfl) dX12_doAlone_159
  rcases List.mem_cons.mp hm10 with rfl | hm10
  · refine lv_aload_n hx hb dX12_doAlone_77 rfl (lv_at hl 2 rfl) ?_
    refine lv_aload_n hx hb dX12_doAlone_78 rfl (lv_at hl 1 rfl) ?_
    obtain ⟨v22_0, v22_1, v22_2, v22_3, v22_4, v22_5, hf22, t22_0, t22_1, t22_2⟩ := op9 I t_o0
    refine cG C9 V t_o0.1 hf22 rfl tC_lay9 3 (by decide) tCf_X12_129 (Or.inl rfl) rfl dX12_doAlone_79 ?_
    refine lv_l2i hx hb dX12_doAlone_82 rfl ?_
    obtain ⟨v23_0, v23_1, v23_2, v23_3, v23_4, v23_5, v23_6, v23_7, v23_8, v23_9, v23_10, v23_11, v23_12, hf23, t23_7, t23_8, t23_11⟩ := op7 I t_o1
    refine cGoV (cRunV (As := [.int (Int64.toInt32 v22_3)]) (rest := []) C9 hml hN hNs V I hS t_o1.1 hf23 rfl (c_X8_goOnWith l D ks τ L A N hN  ψ f2 o1 (Int64.toInt32 v22_3) t_o1 ) gC_X12_155 okC_X8_goOnWith ⟨rfl, rfl, Nat.le_of_ble_eq_true rfl, Nat.le_of_ble_eq_true rfl⟩ hl.1 rfl (Nat.le_of_ble_eq_true rfl) dX12_doAlone_83 ⟨Nat.zero_le _, Nat.zero_le _⟩) hS (fun p25 f24 H locs hqf24 V I hS => ?_)
    have I : cI ks τ L ψ f24 := by rw [show p25 = ψ from hqf24] at I; exact I
    refine lv_goto (tgt := 159) hx hb dX12_doAlone_86 (by decide) ?_
    exact cRetV C9 hr hlk hN hNs V I hS (rfl) dX12_doAlone_159
  rcases List.mem_cons.mp hm10 with rfl | hm10
  · refine lv_aload_n hx hb dX12_doAlone_89 rfl (lv_at hl 2 rfl) ?_
    refine lv_iload_n hx hb dX12_doAlone_90 rfl (lv_at hl 0 rfl) ?_
    obtain ⟨v27_0, v27_1, v27_2, v27_3, v27_4, v27_5, v27_6, v27_7, v27_8, v27_9, v27_10, v27_11, v27_12, hf27, t27_7, t27_8, t27_11⟩ := op7 I t_o1
    refine cGoV (cRunV (As := [.int r4]) (rest := []) C9 hml hN hNs V I hS t_o1.1 hf27 rfl (c_X8_goTo l D ks τ L A N hN  ψ f2 o1 r4 t_o1 ) gC_X12_270 okC_X8_goTo ⟨rfl, rfl, Nat.le_of_ble_eq_true rfl, Nat.le_of_ble_eq_true rfl⟩ hl.1 rfl (Nat.le_of_ble_eq_true rfl) dX12_doAlone_91 ⟨Nat.zero_le _, Nat.zero_le _⟩) hS (fun p29 f28 H locs hqf28 V I hS => ?_)
    have I : cI ks τ L ψ f28 := by rw [show p29 = ψ from hqf28] at I; exact I
    refine lv_goto (tgt := 159) hx hb dX12_doAlone_94 (by decide) ?_
    exact cRetV C9 hr hlk hN hNs V I hS (rfl) dX12_doAlone_159
  rcases List.mem_cons.mp hm10 with rfl | hm10
  · refine lv_aload_n hx hb dX12_doAlone_97 rfl (lv_at hl 2 rfl) ?_
    refine lv_aload_n hx hb dX12_doAlone_98 rfl (lv_at hl 2 rfl) ?_
    obtain ⟨v31_0, v31_1, v31_2, v31_3, v31_4, v31_5, v31_6, v31_7, v31_8, v31_9, v31_10, v31_11, v31_12, hf31, t31_7, t31_8, t31_11⟩ := op7 I t_o1
    refine cG C9 V t_o1.1 hf31 rfl tC_lay7 2 (by decide) tCf_X12_160 (Or.inl rfl) rfl dX12_doAlone_99 ?_
    refine lv_if_ne (tgt := 109) hx hb dX12_doAlone_102 (by decide) (fun c32 => ?_) (fun c32 => ?_)
    · refine lv_aload_n hx hb dX12_doAlone_109 rfl (lv_at hl 2 rfl) ?_
      refine cG C9 V t_o1.1 hf31 rfl tC_lay7 3 (by decide) tCf_X12_163 (Or.inl rfl) rfl dX12_doAlone_110 ?_
      refine lv_iconst (v := 1) hx hb dX12_doAlone_113 (by decide) ?_
      refine lv_iadd hx hb dX12_doAlone_114 ?_
      refine cGoV (cRunV (As := [.int (v31_3 + 1)]) (rest := []) C9 hml hN hNs V I hS t_o1.1 hf31 rfl (c_X8_goTo l D ks τ L A N hN  ψ f2 o1 (v31_3 + 1) t_o1 ) gC_X12_270 okC_X8_goTo ⟨rfl, rfl, Nat.le_of_ble_eq_true rfl, Nat.le_of_ble_eq_true rfl⟩ hl.1 rfl (Nat.le_of_ble_eq_true rfl) dX12_doAlone_115 ⟨Nat.zero_le _, Nat.zero_le _⟩) hS (fun p34 f33 H locs hqf33 V I hS => ?_)
      have I : cI ks τ L ψ f33 := by rw [show p34 = ψ from hqf33] at I; exact I
      refine lv_goto (tgt := 159) hx hb dX12_doAlone_118 (by decide) ?_
      exact cRetV C9 hr hlk hN hNs V I hS (rfl) dX12_doAlone_159
    · refine lv_iload_n hx hb dX12_doAlone_105 rfl (lv_at hl 0 rfl) ?_
      refine lv_goto (tgt := 115) hx hb dX12_doAlone_106 (by decide) ?_
      refine cGoV (cRunV (As := [.int r4]) (rest := []) C9 hml hN hNs V I hS t_o1.1 hf31 rfl (c_X8_goTo l D ks τ L A N hN  ψ f2 o1 r4 t_o1 ) gC_X12_270 okC_X8_goTo ⟨rfl, rfl, Nat.le_of_ble_eq_true rfl, Nat.le_of_ble_eq_true rfl⟩ hl.1 rfl (Nat.le_of_ble_eq_true rfl) dX12_doAlone_115 ⟨Nat.zero_le _, Nat.zero_le _⟩) hS (fun p37 f36 H locs hqf36 V I hS => ?_)
      have I : cI ks τ L ψ f36 := by rw [show p37 = ψ from hqf36] at I; exact I
      refine lv_goto (tgt := 159) hx hb dX12_doAlone_118 (by decide) ?_
      exact cRetV C9 hr hlk hN hNs V I hS (rfl) dX12_doAlone_159
  rcases List.mem_cons.mp hm10 with rfl | hm10
  · refine lv_aload_n hx hb dX12_doAlone_121 rfl (lv_at hl 2 rfl) ?_
    refine lv_aload_n hx hb dX12_doAlone_122 rfl (lv_at hl 2 rfl) ?_
    obtain ⟨v39_0, v39_1, v39_2, v39_3, v39_4, v39_5, v39_6, v39_7, v39_8, v39_9, v39_10, v39_11, v39_12, hf39, t39_7, t39_8, t39_11⟩ := op7 I t_o1
    refine cG C9 V t_o1.1 hf39 rfl tC_lay7 2 (by decide) tCf_X12_160 (Or.inl rfl) rfl dX12_doAlone_123 ?_
    refine lv_if_ge (tgt := 133) hx hb dX12_doAlone_126 (by decide) (fun c40 => ?_) (fun c40 => ?_)
    · refine lv_aload_n hx hb dX12_doAlone_133 rfl (lv_at hl 2 rfl) ?_
      refine cG C9 V t_o1.1 hf39 rfl tC_lay7 3 (by decide) tCf_X12_163 (Or.inl rfl) rfl dX12_doAlone_134 ?_
      refine lv_iconst (v := 1) hx hb dX12_doAlone_137 (by decide) ?_
      refine lv_iadd hx hb dX12_doAlone_138 ?_
      refine cGoV (cRunV (As := [.int (v39_3 + 1)]) (rest := []) C9 hml hN hNs V I hS t_o1.1 hf39 rfl (c_X8_goTo l D ks τ L A N hN  ψ f2 o1 (v39_3 + 1) t_o1 ) gC_X12_270 okC_X8_goTo ⟨rfl, rfl, Nat.le_of_ble_eq_true rfl, Nat.le_of_ble_eq_true rfl⟩ hl.1 rfl (Nat.le_of_ble_eq_true rfl) dX12_doAlone_139 ⟨Nat.zero_le _, Nat.zero_le _⟩) hS (fun p42 f41 H locs hqf41 V I hS => ?_)
      have I : cI ks τ L ψ f41 := by rw [show p42 = ψ from hqf41] at I; exact I
      refine lv_goto (tgt := 159) hx hb dX12_doAlone_142 (by decide) ?_
      exact cRetV C9 hr hlk hN hNs V I hS (rfl) dX12_doAlone_159
    · refine lv_iload_n hx hb dX12_doAlone_129 rfl (lv_at hl 0 rfl) ?_
      refine lv_goto (tgt := 139) hx hb dX12_doAlone_130 (by decide) ?_
      refine cGoV (cRunV (As := [.int r4]) (rest := []) C9 hml hN hNs V I hS t_o1.1 hf39 rfl (c_X8_goTo l D ks τ L A N hN  ψ f2 o1 r4 t_o1 ) gC_X12_270 okC_X8_goTo ⟨rfl, rfl, Nat.le_of_ble_eq_true rfl, Nat.le_of_ble_eq_true rfl⟩ hl.1 rfl (Nat.le_of_ble_eq_true rfl) dX12_doAlone_139 ⟨Nat.zero_le _, Nat.zero_le _⟩) hS (fun p45 f44 H locs hqf44 V I hS => ?_)
      have I : cI ks τ L ψ f44 := by rw [show p45 = ψ from hqf44] at I; exact I
      refine lv_goto (tgt := 159) hx hb dX12_doAlone_142 (by decide) ?_
      exact cRetV C9 hr hlk hN hNs V I hS (rfl) dX12_doAlone_159
  rcases List.mem_cons.mp hm10 with rfl | hm10
  · refine lv_aload_n hx hb dX12_doAlone_145 rfl (lv_at hl 1 rfl) ?_
    refine lv_aload_n hx hb dX12_doAlone_146 rfl (lv_at hl 2 rfl) ?_
    refine lv_iload_n hx hb dX12_doAlone_147 rfl (lv_at hl 0 rfl) ?_
    obtain ⟨v47_0, v47_1, v47_2, v47_3, v47_4, v47_5, hf47, t47_0, t47_1, t47_2⟩ := op9 I t_o0
    refine cGoV (cRunV (As := [.ref o1, .int r4]) (rest := []) C9 hml hN hNs V I hS t_o0.1 hf47 rfl (c_X12_fallAsleep l D ks τ L A N hN  ψ f2 o0 o1 r4 t_o0 t_o1 ) gC_X12_273 okC_X12_fallAsleep ⟨rfl, rfl, Nat.le_of_ble_eq_true rfl, Nat.le_of_ble_eq_true rfl⟩ hl.1 rfl (Nat.le_of_ble_eq_true rfl) dX12_doAlone_148 ⟨Nat.zero_le _, Nat.zero_le _⟩) hS (fun p49 f48 H locs hqf48 V I hS => ?_)
    have I : cI ks τ L ψ f48 := by rw [show p49 = ψ from hqf48] at I; exact I
    refine lv_goto (tgt := 159) hx hb dX12_doAlone_151 (by decide) ?_
    exact cRetV C9 hr hlk hN hNs V I hS (rfl) dX12_doAlone_159
  exact absurd hm10 List.not_mem_nil

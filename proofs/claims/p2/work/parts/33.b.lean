set_option maxHeartbeats 200000 in
set_option maxRecDepth 100000 in
theorem c_X6_add (l : Launch) (D : va_G) (ks : kS) (τ : Nat → Nat) (L : List Nat) (A : Nat → Prop) (N : State → Prop) (hN : cNk A N) (ψ : Int32) (f : Nat → va_E) (o0 : Nat) (o1 : Nat) (t_o0 : ty τ L o0 5) (t_o1 : ty τ L o1 7) : Met l yX6_add (Cond.code yX6_add cX6_add 2 none :: tC) ({ frames := 0, cells := 0, slots := 0, locals := 0 }) (va_Pc [.ref o0, .ref o1] (cB D ks τ L A N (ψ, f))) (va_Qv (fun x9 => x9.1 = ψ) (cB D ks τ L A N) A) 0 0 A := by
  refine cMet (own := RX6) (by decide) rfl (Nat.le_of_ble_eq_true rfl) ?_
  intro p e s m below meth c ls C9 hml hr hlk V I hNs hl
  have hx := C9.1
  have hb := C9.2.1
  have hown := C9.2.2.1
  have hts := C9.2.2.2.1
  have hS : va_S A s.heap s.heap [] := va_S.rf
  have hl : lv_has ls 2 [(0, .ref o0), (1, .ref o1)] := hl
  refine lv_aload_n hx hb dX6_add_0 rfl (lv_at hl 0 rfl) ?_
  obtain ⟨v1_0, v1_1, hf1, hn1, t1_1⟩ := op5 I t_o0
  refine cG C9 V t_o0.1 hf1 rfl tC_lay5 0 (by decide) tCf_X6_17 (Or.inl rfl) rfl dX6_add_1 ?_
  refine lv_aload_n hx hb dX6_add_4 rfl (lv_at hl 0 rfl) ?_
  refine cG C9 V t_o0.1 hf1 rfl tC_lay5 1 (by decide) tCf_X6_11 (Or.inl rfl) rfl dX6_add_5 ?_
  obtain ⟨g2, hf2, hg2⟩ := op13 I t1_1
  refine cAl (t0 := 2) (v := 8) C9 V t1_1.1 hf2 rfl (by first | rfl | decide) dX6_add_8 ?_
  refine lv_icmp_ge (tgt := 32) hx hb dX6_add_9 (by decide) (fun c3 => ?_) (fun c3 => ?_)
  · exact cRetV C9 hr hlk hN hNs V I hS (rfl) dX6_add_32
  · refine lv_aload_n hx hb dX6_add_12 rfl (lv_at hl 0 rfl) ?_
    refine cG C9 V t_o0.1 hf1 rfl tC_lay5 1 (by decide) tCf_X6_11 (Or.inl rfl) rfl dX6_add_13 ?_
    refine lv_aload_n hx hb dX6_add_16 rfl (lv_at hl 0 rfl) ?_
    refine cG C9 V t_o0.1 hf1 rfl tC_lay5 0 (by decide) tCf_X6_17 (Or.inl rfl) rfl dX6_add_17 ?_
    refine lv_aload_n hx hb dX6_add_20 rfl (lv_at hl 1 rfl) ?_
    obtain ⟨v5_0, v5_1, v5_2, v5_3, v5_4, v5_5, v5_6, v5_7, v5_8, v5_9, v5_10, v5_11, v5_12, hf5, t5_7, t5_8, t5_11⟩ := op7 I t_o1
    refine cSr C9 V hS t1_1.1 hf2 t_o1.1 hf5 (cvin (N := 8) rfl (hn1.1) (ci_lt c3)) dX6_add_21 (fun f4 H locs ef4 V hS => ?_)
    have hgg6 := tyO_up (i := Int32.toNatClampNeg v1_0) hg2 (tyO_s t_o1)
    obtain ⟨g6, eg6⟩ : ∃ z, z = va_up g2 (Int32.toNatClampNeg v1_0) (some o1) := ⟨_, rfl⟩
    rw [← eg6] at ef4 hgg6
    have hf7 := up_s ef4
    have I := cI_up I t1_1.2 ef4 (mk13 hgg6)
    have hf8 := up_n ef4 t1_1.2 t_o0.2 (by first | decide | omega) hf1
    have hf9 := up_n ef4 t1_1.2 t_o1.2 (by first | decide | omega) hf5
    refine lv_aload_n hx hb dX6_add_22 rfl (lv_at hl 0 rfl) ?_
    refine lv_dup hx hb dX6_add_23 rfl ?_
    refine cG C9 V t_o0.1 hf8 rfl tC_lay5 0 (by decide) tCf_X6_17 (Or.inl rfl) rfl dX6_add_24 ?_
    refine lv_iconst (v := 1) hx hb dX6_add_27 (by decide) ?_
    refine lv_iadd hx hb dX6_add_28 ?_
    refine lv_topi (fun x10 ex10 => ?_)
    refine cP (v := .int x10) (ty := .int) C9 V hS t_o0.1 hf8 rfl tC_lay5 tyX6 tyX6_ok nmX6 0 (by decide) tCf_X6_17 rfl rfl (by decide +kernel) rfl rfl (Nat.le_of_ble_eq_true rfl) dX6_add_29 (fun f11 H locs ef11 V hS => ?_)
    have hf12 : f11 o0 = .inr (5, [.int x10, .ref v1_1]) := up_s ef11
    have hn13 := ca_up ex10 hn1.1 (ci_lt c3)
    have I := cI_up I t_o0.2 ef11 (mk5 hn13 t1_1)
    have hf14 := up_n ef11 t_o0.2 t1_1.2 (by first | decide | omega) hf7
    have hf15 := up_n ef11 t_o0.2 t_o1.2 (by first | decide | omega) hf9
    exact cRetV C9 hr hlk hN hNs V I hS (rfl) dX6_add_32
theorem rm_0 {n i : Int32} (h : 0 ≤ n ∧ n ≤ i ∧ i ≤ 8) : 0 ≤ i := by grind
theorem rm_1 {n i : Int32} (h : 0 ≤ n ∧ n ≤ i ∧ i ≤ 8) (hi : i < 8) : n < 8 := by grind
theorem rm_8 {n i : Int32} (h : 0 ≤ n ∧ n ≤ i ∧ i ≤ 8) : 0 ≤ n ∧ n ≤ 8 := by grind
theorem rm_s {n i j : Int32} (h : 0 ≤ n ∧ n ≤ i ∧ i ≤ 8) (e : j = i + 1) (hi : i < 8) : 0 ≤ n ∧ n ≤ j ∧ j ≤ 8 := by grind
theorem rm_k {n i j k : Int32} (h : 0 ≤ n ∧ n ≤ i ∧ i ≤ 8) (e1 : k = n + 1) (e : j = i + 1) (hi : i < 8) : 0 ≤ k ∧ k ≤ j ∧ j ≤ 8 := by grind

set_option maxHeartbeats 200000 in
set_option maxRecDepth 100000 in
theorem c_X6_remove (l : Launch) (D : va_G) (ks : kS) (τ : Nat → Nat) (L : List Nat) (A : Nat → Prop) (N : State → Prop) (hN : cNk A N) (ψ : Int32) (f : Nat → va_E) (o0 : Nat) (o1 : Nat) (t_o0 : ty τ L o0 5) (t_o1 : ty τ L o1 7) : Met l yX6_remove (Cond.code yX6_remove cX6_remove 4 none :: tC) ({ frames := 0, cells := 0, slots := 0, locals := 0 }) (va_Pc [.ref o0, .ref o1] (cB D ks τ L A N (ψ, f))) (va_Qv (fun x9 => x9.1 = ψ) (cB D ks τ L A N) A) 0 0 A := by
  refine cMet (own := RX6) (by decide) rfl (Nat.le_of_ble_eq_true rfl) ?_
  intro p e s m below meth c ls C9 hml hr hlk V I hNs hl
  have hx := C9.1
  have hb := C9.2.1
  have hown := C9.2.2.1
  have hts := C9.2.2.2.1
  have hS : va_S A s.heap s.heap [] := va_S.rf
  have hl : lv_has ls 4 [(0, .ref o0), (1, .ref o1)] := hl
  refine lv_iconst (v := 0) hx hb dX6_remove_0 (by decide) ?_
  refine lv_topi (fun x1 ex1 => ?_)
  refine lv_istore_n (lv' := [(2, .int x1), (0, .ref o0), (1, .ref o1)]) hx hb dX6_remove_1 rfl hl (by decide) rfl (fun ls hl => ?_)
  refine lv_iconst (v := 0) hx hb dX6_remove_2 (by decide) ?_
  refine lv_topi (fun x2 ex2 => ?_)
  refine lv_istore_n (lv' := [(3, .int x2), (2, .int x1), (0, .ref o0), (1, .ref o1)]) hx hb dX6_remove_3 rfl hl (by decide) rfl (fun ls hl => ?_)
  have loop4 : ∀ (N9 : Nat) (w4_2 : Int32) (w4_3 : Int32) (F4 : Nat → va_E) (H : Heap) (locs : List Loc) (ls : Array Slot), cI ks τ L ψ F4 → (0 ≤ w4_2 ∧ w4_2 ≤ w4_3 ∧ w4_3 ≤ 8) → ((8 - w4_3).toInt.toNat) < N9 → cV D L F4 A H → va_S A s.heap H locs → lv_has ls 4 [(0, .ref o0), (1, .ref o1), (2, .int w4_2), (3, .int w4_3)] → W p l e ({ frames := 0, cells := 0, slots := 0, locals := 0 } : Room) s m ([.ref o0, .ref o1] : List Value).toArray below meth c H locs 0 0 (MQ below (va_Qv (fun x9 => x9.1 = ψ) (cB D ks τ L A N) A) ([.ref o0, .ref o1] : List Value).toArray s 0 0 A) (F0 m 4 ls []) := by
    intro N9
    induction N9 with
    | zero => intro w4_2 w4_3 F4 H locs ls I hi4 hm4; exact absurd hm4 (Nat.not_lt_zero _)
    | succ N9 ih4 =>
      intro w4_2 w4_3 F4 H locs ls I hi4 hm4 V hS hl
      refine lv_iload_n hx hb dX6_remove_4 rfl (lv_at hl 3 rfl) ?_
      refine lv_aload_n hx hb dX6_remove_5 rfl (lv_at hl 0 rfl) ?_
      obtain ⟨v3_0, v3_1, hf3, hn3, t3_1⟩ := op5 I t_o0
      refine cG C9 V t_o0.1 hf3 rfl tC_lay5 0 (by decide) tCf_X6_17 (Or.inl rfl) rfl dX6_remove_6 ?_
      refine lv_icmp_ge (tgt := 52) hx hb dX6_remove_9 (by decide) (fun c4 => ?_) (fun c4 => ?_)
      · refine lv_aload_n hx hb dX6_remove_52 rfl (lv_at hl 0 rfl) ?_
        refine lv_iload_n hx hb dX6_remove_53 rfl (lv_at hl 2 rfl) ?_
        refine cP (v := .int w4_2) (ty := .int) C9 V hS t_o0.1 hf3 rfl tC_lay5 tyX6 tyX6_ok nmX6 0 (by decide) tCf_X6_17 rfl rfl (by decide +kernel) rfl rfl (Nat.le_of_ble_eq_true rfl) dX6_remove_54 (fun f5 H locs ef5 V hS => ?_)
        have hf6 : f5 o0 = .inr (5, [.int w4_2, .ref v3_1]) := up_s ef5
        have hn7 := rm_8 hi4
        have I := cI_up I t_o0.2 ef5 (mk5 hn7 t3_1)
        exact cRetV C9 hr hlk hN hNs V I hS (rfl) dX6_remove_57
      · refine lv_iload_n hx hb dX6_remove_12 rfl (lv_at hl 3 rfl) ?_
        refine lv_aload_n hx hb dX6_remove_13 rfl (lv_at hl 0 rfl) ?_
        refine cG C9 V t_o0.1 hf3 rfl tC_lay5 1 (by decide) tCf_X6_11 (Or.inl rfl) rfl dX6_remove_14 ?_
        obtain ⟨g8, hf8, hg8⟩ := op13 I t3_1
        refine cAl (t0 := 2) (v := 8) C9 V t3_1.1 hf8 rfl (by first | rfl | decide) dX6_remove_17 ?_
        refine lv_icmp_ge (tgt := 52) hx hb dX6_remove_18 (by decide) (fun c9 => ?_) (fun c9 => ?_)
        · refine lv_aload_n hx hb dX6_remove_52 rfl (lv_at hl 0 rfl) ?_
          refine lv_iload_n hx hb dX6_remove_53 rfl (lv_at hl 2 rfl) ?_
          refine cP (v := .int w4_2) (ty := .int) C9 V hS t_o0.1 hf3 rfl tC_lay5 tyX6 tyX6_ok nmX6 0 (by decide) tCf_X6_17 rfl rfl (by decide +kernel) rfl rfl (Nat.le_of_ble_eq_true rfl) dX6_remove_54 (fun f10 H locs ef10 V hS => ?_)
          have hf11 : f10 o0 = .inr (5, [.int w4_2, .ref v3_1]) := up_s ef10
          have hn12 := rm_8 hi4
          have I := cI_up I t_o0.2 ef10 (mk5 hn12 t3_1)
          have hf13 := up_n ef10 t_o0.2 t3_1.2 (by first | decide | omega) hf8
          exact cRetV C9 hr hlk hN hNs V I hS (rfl) dX6_remove_57
        · refine lv_aload_n hx hb dX6_remove_21 rfl (lv_at hl 0 rfl) ?_
          refine cG C9 V t_o0.1 hf3 rfl tC_lay5 1 (by decide) tCf_X6_11 (Or.inl rfl) rfl dX6_remove_22 ?_
          refine lv_iload_n hx hb dX6_remove_25 rfl (lv_at hl 3 rfl) ?_
          refine cLr (t0 := 2) C9 V t3_1.1 hf8 rfl (cvin (N := 8) rfl (rm_0 hi4) (ci_lt c9)) dX6_remove_26 ?_
          obtain ⟨r14, er14⟩ : ∃ z, z = g8 (Int32.toNatClampNeg w4_3) := ⟨_, rfl⟩
          rw [← er14]
          have tr14 : tyO τ L r14 7 := by rw [er14]; exact hg8 _
          rcases r14 with _ | y15
          · refine W.eq (g2 := F0 m 27 ls [.null]) rfl ?_
            refine lv_aload_n hx hb dX6_remove_27 rfl (lv_at hl 1 rfl) ?_
            refine lv_acmp_eq (rx := none) (ry := (some o1)) (tgt := 46) hx hb dX6_remove_28 (by decide) (fun c16 => ?_) (fun c16 => ?_)
            · obtain ⟨x17, ex17⟩ : ∃ y : Int32, y = w4_3 + (1) := ⟨_, rfl⟩
              refine lv_iinc (v := x17) (lv' := [(3, .int x17), (0, .ref o0), (1, .ref o1), (2, .int w4_2)]) hx hb dX6_remove_46 hl (k := 3) rfl (by rw [ex17]; rfl) (by decide) rfl (fun ls hl => ?_)
              refine lv_goto (tgt := 4) hx hb dX6_remove_49 (by decide) ?_
              exact ih4 w4_2 x17 F4 _ _ _ I (by clear V hS hl C9 hts hown hx hb hml hr hlk; first | exact rm_k hi4 nope9 ex17 (ci_lt c9) | exact rm_s hi4 ex17 (ci_lt c9)) (cmsd hm4 (ca_dec ex17 (rm_0 hi4) (ci_lt c9)).1 (ca_dec ex17 (rm_0 hi4) (ci_lt c9)).2) V hS (lv_sub hl [1, 2, 3, 0] rfl)
            · refine lv_aload_n hx hb dX6_remove_31 rfl (lv_at hl 0 rfl) ?_
              refine cG C9 V t_o0.1 hf3 rfl tC_lay5 1 (by decide) tCf_X6_11 (Or.inl rfl) rfl dX6_remove_32 ?_
              refine lv_iload_n hx hb dX6_remove_35 rfl (lv_at hl 2 rfl) ?_
              refine lv_aload_n hx hb dX6_remove_36 rfl (lv_at hl 0 rfl) ?_
              refine cG C9 V t_o0.1 hf3 rfl tC_lay5 1 (by decide) tCf_X6_11 (Or.inl rfl) rfl dX6_remove_37 ?_
              refine lv_iload_n hx hb dX6_remove_40 rfl (lv_at hl 3 rfl) ?_
              refine cLr (t0 := 2) C9 V t3_1.1 hf8 rfl (cvin (N := 8) rfl (rm_0 hi4) (ci_lt c9)) dX6_remove_41 ?_
              obtain ⟨r18, er18⟩ : ∃ z, z = g8 (Int32.toNatClampNeg w4_3) := ⟨_, rfl⟩
              rw [← er18]
              have tr18 : tyO τ L r18 7 := by rw [er18]; exact hg8 _
              rcases r18 with _ | y19
              · refine W.eq (g2 := F0 m 42 ls [.null, .int w4_2, .ref v3_1]) rfl ?_
                refine cSn (t0 := 2) C9 V hS t3_1.1 hf8 rfl (cvin (N := 8) rfl (hi4.1) (rm_1 hi4 (ci_lt c9))) dX6_remove_42 (fun f20 H locs ef20 V hS => ?_)
                have hgg21 := tyO_up (i := Int32.toNatClampNeg w4_2) (v := none) hg8 tyO_n
                obtain ⟨g21, eg21⟩ : ∃ z, z = va_up g8 (Int32.toNatClampNeg w4_2) none := ⟨_, rfl⟩
                rw [← eg21] at ef20 hgg21
                have hf22 := up_s ef20
                have I := cI_up I t3_1.2 ef20 (mk13 hgg21)
                have hf23 := up_n ef20 t3_1.2 t_o0.2 (by first | decide | omega) hf3
                obtain ⟨x24, ex24⟩ : ∃ y : Int32, y = w4_2 + (1) := ⟨_, rfl⟩
                refine lv_iinc (v := x24) (lv' := [(2, .int x24), (0, .ref o0), (1, .ref o1), (3, .int w4_3)]) hx hb dX6_remove_43 hl (k := 2) rfl (by rw [ex24]; rfl) (by decide) rfl (fun ls hl => ?_)
                obtain ⟨x25, ex25⟩ : ∃ y : Int32, y = w4_3 + (1) := ⟨_, rfl⟩
                refine lv_iinc (v := x25) (lv' := [(3, .int x25), (2, .int x24), (0, .ref o0), (1, .ref o1)]) hx hb dX6_remove_46 hl (k := 3) rfl (by rw [ex25]; rfl) (by decide) rfl (fun ls hl => ?_)
                refine lv_goto (tgt := 4) hx hb dX6_remove_49 (by decide) ?_
                exact ih4 x24 x25 f20 _ _ _ I (by clear V hS hl C9 hts hown hx hb hml hr hlk; first | exact rm_k hi4 ex24 ex25 (ci_lt c9) | exact rm_s hi4 ex25 (ci_lt c9)) (cmsd hm4 (ca_dec ex25 (rm_0 hi4) (ci_lt c9)).1 (ca_dec ex25 (rm_0 hi4) (ci_lt c9)).2) V hS (lv_sub hl [2, 3, 1, 0] rfl)
              · have hy19 := tr18 y19 rfl
                refine W.eq (g2 := F0 m 42 ls [.ref y19, .int w4_2, .ref v3_1]) rfl ?_
                obtain ⟨v27_0, v27_1, v27_2, v27_3, v27_4, v27_5, v27_6, v27_7, v27_8, v27_9, v27_10, v27_11, v27_12, hf27, t27_7, t27_8, t27_11⟩ := op7 I hy19
                refine cSr C9 V hS t3_1.1 hf8 hy19.1 hf27 (cvin (N := 8) rfl (hi4.1) (rm_1 hi4 (ci_lt c9))) dX6_remove_42 (fun f26 H locs ef26 V hS => ?_)
                have hgg28 := tyO_up (i := Int32.toNatClampNeg w4_2) hg8 (tyO_s hy19)
                obtain ⟨g28, eg28⟩ : ∃ z, z = va_up g8 (Int32.toNatClampNeg w4_2) (some y19) := ⟨_, rfl⟩
                rw [← eg28] at ef26 hgg28
                have hf29 := up_s ef26
                have I := cI_up I t3_1.2 ef26 (mk13 hgg28)
                have hf30 := up_n ef26 t3_1.2 t_o0.2 (by first | decide | omega) hf3
                have hf31 := up_n ef26 t3_1.2 hy19.2 (by first | decide | omega) hf27
                obtain ⟨x32, ex32⟩ : ∃ y : Int32, y = w4_2 + (1) := ⟨_, rfl⟩
                refine lv_iinc (v := x32) (lv' := [(2, .int x32), (0, .ref o0), (1, .ref o1), (3, .int w4_3)]) hx hb dX6_remove_43 hl (k := 2) rfl (by rw [ex32]; rfl) (by decide) rfl (fun ls hl => ?_)
                obtain ⟨x33, ex33⟩ : ∃ y : Int32, y = w4_3 + (1) := ⟨_, rfl⟩
                refine lv_iinc (v := x33) (lv' := [(3, .int x33), (2, .int x32), (0, .ref o0), (1, .ref o1)]) hx hb dX6_remove_46 hl (k := 3) rfl (by rw [ex33]; rfl) (by decide) rfl (fun ls hl => ?_)
                refine lv_goto (tgt := 4) hx hb dX6_remove_49 (by decide) ?_
                exact ih4 x32 x33 f26 _ _ _ I (by clear V hS hl C9 hts hown hx hb hml hr hlk; first | exact rm_k hi4 ex32 ex33 (ci_lt c9) | exact rm_s hi4 ex33 (ci_lt c9)) (cmsd hm4 (ca_dec ex33 (rm_0 hi4) (ci_lt c9)).1 (ca_dec ex33 (rm_0 hi4) (ci_lt c9)).2) V hS (lv_sub hl [2, 3, 1, 0] rfl)
          · have hy15 := tr14 y15 rfl
            refine W.eq (g2 := F0 m 27 ls [.ref y15]) rfl ?_
            refine lv_aload_n hx hb dX6_remove_27 rfl (lv_at hl 1 rfl) ?_
            refine lv_acmp_eq (rx := (some y15)) (ry := (some o1)) (tgt := 46) hx hb dX6_remove_28 (by decide) (fun c34 => ?_) (fun c34 => ?_)
            · obtain ⟨x35, ex35⟩ : ∃ y : Int32, y = w4_3 + (1) := ⟨_, rfl⟩
              refine lv_iinc (v := x35) (lv' := [(3, .int x35), (0, .ref o0), (1, .ref o1), (2, .int w4_2)]) hx hb dX6_remove_46 hl (k := 3) rfl (by rw [ex35]; rfl) (by decide) rfl (fun ls hl => ?_)
              refine lv_goto (tgt := 4) hx hb dX6_remove_49 (by decide) ?_
              exact ih4 w4_2 x35 F4 _ _ _ I (by clear V hS hl C9 hts hown hx hb hml hr hlk; first | exact rm_k hi4 nope9 ex35 (ci_lt c9) | exact rm_s hi4 ex35 (ci_lt c9)) (cmsd hm4 (ca_dec ex35 (rm_0 hi4) (ci_lt c9)).1 (ca_dec ex35 (rm_0 hi4) (ci_lt c9)).2) V hS (lv_sub hl [1, 2, 3, 0] rfl)
            · refine lv_aload_n hx hb dX6_remove_31 rfl (lv_at hl 0 rfl) ?_
              refine cG C9 V t_o0.1 hf3 rfl tC_lay5 1 (by decide) tCf_X6_11 (Or.inl rfl) rfl dX6_remove_32 ?_
              refine lv_iload_n hx hb dX6_remove_35 rfl (lv_at hl 2 rfl) ?_
              refine lv_aload_n hx hb dX6_remove_36 rfl (lv_at hl 0 rfl) ?_
              refine cG C9 V t_o0.1 hf3 rfl tC_lay5 1 (by decide) tCf_X6_11 (Or.inl rfl) rfl dX6_remove_37 ?_
              refine lv_iload_n hx hb dX6_remove_40 rfl (lv_at hl 3 rfl) ?_
              refine cLr (t0 := 2) C9 V t3_1.1 hf8 rfl (cvin (N := 8) rfl (rm_0 hi4) (ci_lt c9)) dX6_remove_41 ?_
              obtain ⟨r36, er36⟩ : ∃ z, z = g8 (Int32.toNatClampNeg w4_3) := ⟨_, rfl⟩
              rw [← er36]
              have tr36 : tyO τ L r36 7 := by rw [er36]; exact hg8 _
              rcases r36 with _ | y37
              · refine W.eq (g2 := F0 m 42 ls [.null, .int w4_2, .ref v3_1]) rfl ?_
                refine cSn (t0 := 2) C9 V hS t3_1.1 hf8 rfl (cvin (N := 8) rfl (hi4.1) (rm_1 hi4 (ci_lt c9))) dX6_remove_42 (fun f38 H locs ef38 V hS => ?_)
                have hgg39 := tyO_up (i := Int32.toNatClampNeg w4_2) (v := none) hg8 tyO_n
                obtain ⟨g39, eg39⟩ : ∃ z, z = va_up g8 (Int32.toNatClampNeg w4_2) none := ⟨_, rfl⟩
                rw [← eg39] at ef38 hgg39
                have hf40 := up_s ef38
                have I := cI_up I t3_1.2 ef38 (mk13 hgg39)
                have hf41 := up_n ef38 t3_1.2 t_o0.2 (by first | decide | omega) hf3
                obtain ⟨x42, ex42⟩ : ∃ y : Int32, y = w4_2 + (1) := ⟨_, rfl⟩
                refine lv_iinc (v := x42) (lv' := [(2, .int x42), (0, .ref o0), (1, .ref o1), (3, .int w4_3)]) hx hb dX6_remove_43 hl (k := 2) rfl (by rw [ex42]; rfl) (by decide) rfl (fun ls hl => ?_)
                obtain ⟨x43, ex43⟩ : ∃ y : Int32, y = w4_3 + (1) := ⟨_, rfl⟩
                refine lv_iinc (v := x43) (lv' := [(3, .int x43), (2, .int x42), (0, .ref o0), (1, .ref o1)]) hx hb dX6_remove_46 hl (k := 3) rfl (by rw [ex43]; rfl) (by decide) rfl (fun ls hl => ?_)
                refine lv_goto (tgt := 4) hx hb dX6_remove_49 (by decide) ?_
                exact ih4 x42 x43 f38 _ _ _ I (by clear V hS hl C9 hts hown hx hb hml hr hlk; first | exact rm_k hi4 ex42 ex43 (ci_lt c9) | exact rm_s hi4 ex43 (ci_lt c9)) (cmsd hm4 (ca_dec ex43 (rm_0 hi4) (ci_lt c9)).1 (ca_dec ex43 (rm_0 hi4) (ci_lt c9)).2) V hS (lv_sub hl [2, 3, 1, 0] rfl)
              · have hy37 := tr36 y37 rfl
                refine W.eq (g2 := F0 m 42 ls [.ref y37, .int w4_2, .ref v3_1]) rfl ?_
                obtain ⟨v45_0, v45_1, v45_2, v45_3, v45_4, v45_5, v45_6, v45_7, v45_8, v45_9, v45_10, v45_11, v45_12, hf45, t45_7, t45_8, t45_11⟩ := op7 I hy37
                refine cSr C9 V hS t3_1.1 hf8 hy37.1 hf45 (cvin (N := 8) rfl (hi4.1) (rm_1 hi4 (ci_lt c9))) dX6_remove_42 (fun f44 H locs ef44 V hS => ?_)
                have hgg46 := tyO_up (i := Int32.toNatClampNeg w4_2) hg8 (tyO_s hy37)
                obtain ⟨g46, eg46⟩ : ∃ z, z = va_up g8 (Int32.toNatClampNeg w4_2) (some y37) := ⟨_, rfl⟩
                rw [← eg46] at ef44 hgg46
                have hf47 := up_s ef44
                have I := cI_up I t3_1.2 ef44 (mk13 hgg46)
                have hf48 := up_n ef44 t3_1.2 t_o0.2 (by first | decide | omega) hf3
                have hf49 := up_n ef44 t3_1.2 hy37.2 (by first | decide | omega) hf45
                obtain ⟨x50, ex50⟩ : ∃ y : Int32, y = w4_2 + (1) := ⟨_, rfl⟩
                refine lv_iinc (v := x50) (lv' := [(2, .int x50), (0, .ref o0), (1, .ref o1), (3, .int w4_3)]) hx hb dX6_remove_43 hl (k := 2) rfl (by rw [ex50]; rfl) (by decide) rfl (fun ls hl => ?_)
                obtain ⟨x51, ex51⟩ : ∃ y : Int32, y = w4_3 + (1) := ⟨_, rfl⟩
                refine lv_iinc (v := x51) (lv' := [(3, .int x51), (2, .int x50), (0, .ref o0), (1, .ref o1)]) hx hb dX6_remove_46 hl (k := 3) rfl (by rw [ex51]; rfl) (by decide) rfl (fun ls hl => ?_)
                refine lv_goto (tgt := 4) hx hb dX6_remove_49 (by decide) ?_
                exact ih4 x50 x51 f44 _ _ _ I (by clear V hS hl C9 hts hown hx hb hml hr hlk; first | exact rm_k hi4 ex50 ex51 (ci_lt c9) | exact rm_s hi4 ex51 (ci_lt c9)) (cmsd hm4 (ca_dec ex51 (rm_0 hi4) (ci_lt c9)).1 (ca_dec ex51 (rm_0 hi4) (ci_lt c9)).2) V hS (lv_sub hl [2, 3, 1, 0] rfl)
  exact loop4 _ x1 x2 f _ _ _ I (by clear V hS hl C9 hts hown hx hb hml hr hlk; subst_vars; decide) (Nat.lt_succ_self _) V hS (lv_sub hl [2, 3, 1, 0] rfl)
set_option maxHeartbeats 200000 in
set_option maxRecDepth 100000 in
theorem c_X8_codeAt (l : Launch) (D : va_G) (ks : kS) (τ : Nat → Nat) (L : List Nat) (A : Nat → Prop) (N : State → Prop) (hN : cNk A N) (ψ : Int32) (f : Nat → va_E) (o0 : Nat) (i1 : Int32) (t_o0 : ty τ L o0 7) : Met l yX8_codeAt (Cond.code yX8_codeAt cX8_codeAt 3 (some .int) :: tC) ({ frames := 0, cells := 0, slots := 0, locals := 0 }) (va_Pc [.ref o0, .int i1] (cB D ks τ L A N (ψ, f))) (va_Qi (fun r9 x9 => x9.1 = ψ) (cB D ks τ L A N) A) 0 0 A := by
  refine cMet (own := RX8) (by decide) rfl (Nat.le_of_ble_eq_true rfl) ?_
  intro p e s m below meth c ls C9 hml hr hlk V I hNs hl
  have hx := C9.1
  have hb := C9.2.1
  have hown := C9.2.2.1
  have hts := C9.2.2.2.1
  have hS : va_S A s.heap s.heap [] := va_S.rf
  have hl : lv_has ls 3 [(0, .ref o0), (1, .int i1)] := hl
  refine lv_aload_n hx hb dX8_codeAt_0 rfl (lv_at hl 0 rfl) ?_
  obtain ⟨v1_0, v1_1, v1_2, v1_3, v1_4, v1_5, v1_6, v1_7, v1_8, v1_9, v1_10, v1_11, v1_12, hf1, t1_7, t1_8, t1_11⟩ := op7 I t_o0
  refine cG C9 V t_o0.1 hf1 rfl tC_lay7 3 (by decide) tCf_X8_28 (Or.inl rfl) rfl dX8_codeAt_1 ?_
  refine lv_iconst (v := 4) hx hb dX8_codeAt_4 (by decide) ?_
  refine lv_imul hx hb dX8_codeAt_5 ?_
  refine lv_iload_n hx hb dX8_codeAt_6 rfl (lv_at hl 1 rfl) ?_
  refine lv_iadd hx hb dX8_codeAt_7 ?_
  refine lv_topi (fun x2 ex2 => ?_)
  refine lv_istore_n (lv' := [(2, .int x2), (0, .ref o0), (1, .int i1)]) hx hb dX8_codeAt_8 rfl hl (by decide) rfl (fun ls hl => ?_)
  refine lv_iload_n hx hb dX8_codeAt_9 rfl (lv_at hl 0 rfl) ?_
  refine lv_if_lt (tgt := 31) hx hb dX8_codeAt_10 (by decide) (fun c3 => ?_) (fun c3 => ?_)
  · refine lv_iconst (v := 0) hx hb dX8_codeAt_31 (by decide) ?_
    exact cRetI C9 hr hlk hN hNs V I hS (rfl) dX8_codeAt_32
  · refine lv_iload_n hx hb dX8_codeAt_13 rfl (lv_at hl 0 rfl) ?_
    refine lv_aload_n hx hb dX8_codeAt_14 rfl (lv_at hl 1 rfl) ?_
    refine cG C9 V t_o0.1 hf1 rfl tC_lay7 11 (by decide) tCf_X8_9 (Or.inl rfl) rfl dX8_codeAt_15 ?_
    obtain ⟨g4, hf4⟩ := op12 I t1_11
    refine cAl (t0 := 1) (v := 240) C9 V t1_11.1 hf4 rfl (by first | rfl | decide) dX8_codeAt_18 ?_
    refine lv_icmp_ge (tgt := 31) hx hb dX8_codeAt_19 (by decide) (fun c5 => ?_) (fun c5 => ?_)
    · refine lv_iconst (v := 0) hx hb dX8_codeAt_31 (by decide) ?_
      exact cRetI C9 hr hlk hN hNs V I hS (rfl) dX8_codeAt_32
    · refine lv_aload_n hx hb dX8_codeAt_22 rfl (lv_at hl 1 rfl) ?_
      refine cG C9 V t_o0.1 hf1 rfl tC_lay7 11 (by decide) tCf_X8_9 (Or.inl rfl) rfl dX8_codeAt_23 ?_
      refine lv_iload_n hx hb dX8_codeAt_26 rfl (lv_at hl 0 rfl) ?_
      refine cLi C9 V t1_11.1 hf4 (cvin (N := 240) rfl (ci_le c3) (ci_lt c5)) dX8_codeAt_27 ?_
      refine lv_topi (fun x6 ex6 => ?_)
      refine lv_goto (tgt := 32) hx hb dX8_codeAt_28 (by decide) ?_
      exact cRetI C9 hr hlk hN hNs V I hS (rfl) dX8_codeAt_32
set_option maxHeartbeats 200000 in
set_option maxRecDepth 100000 in
theorem c_X8_operand (l : Launch) (D : va_G) (ks : kS) (τ : Nat → Nat) (L : List Nat) (A : Nat → Prop) (N : State → Prop) (hN : cNk A N) (ψ : Int32) (f : Nat → va_E) (o0 : Nat) (i1 : Int32) (t_o0 : ty τ L o0 7) : Met l yX8_operand (Cond.code yX8_operand cX8_operand 2 (some .int) :: tC) ({ frames := 1, cells := 0, slots := 0, locals := 22 }) (va_Pc [.ref o0, .int i1] (cB D ks τ L A N (ψ, f))) (va_Qi (fun r9 x9 => x9.1 = ψ) (cB D ks τ L A N) A) 0 0 A := by
  refine cMet (own := RX8) (by decide) rfl (Nat.le_of_ble_eq_true rfl) ?_
  intro p e s m below meth c ls C9 hml hr hlk V I hNs hl
  have hx := C9.1
  have hb := C9.2.1
  have hown := C9.2.2.1
  have hts := C9.2.2.2.1
  have hS : va_S A s.heap s.heap [] := va_S.rf
  have hl : lv_has ls 2 [(0, .ref o0), (1, .int i1)] := hl
  refine lv_aload_n hx hb dX8_operand_0 rfl (lv_at hl 0 rfl) ?_
  refine lv_iconst (v := 1) hx hb dX8_operand_1 (by decide) ?_
  refine lv_iload_n hx hb dX8_operand_2 rfl (lv_at hl 1 rfl) ?_
  refine lv_iadd hx hb dX8_operand_3 ?_
  obtain ⟨v1_0, v1_1, v1_2, v1_3, v1_4, v1_5, v1_6, v1_7, v1_8, v1_9, v1_10, v1_11, v1_12, hf1, t1_7, t1_8, t1_11⟩ := op7 I t_o0
  refine cGoI (cRunV (As := [.int (1 + i1)]) (rest := []) C9 hml hN hNs V I hS t_o0.1 hf1 rfl (c_X8_codeAt l D ks τ L A N hN ψ f o0 (1 + i1) t_o0 ) gC_X8_38 okC_X8_codeAt ⟨rfl, rfl, Nat.le_of_ble_eq_true rfl, Nat.le_of_ble_eq_true rfl⟩ hl.1 rfl (Nat.le_of_ble_eq_true rfl) dX8_operand_4 ⟨Nat.zero_le _, Nat.zero_le _⟩) hS (fun r4 p3 f2 H locs hqf2 V I hS => ?_)
  have I : cI ks τ L ψ f2 := by rw [show p3 = ψ from hqf2] at I; exact I
  exact cRetI C9 hr hlk hN hNs V I hS (rfl) dX8_operand_7

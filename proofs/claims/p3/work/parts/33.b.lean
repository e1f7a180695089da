set_option maxHeartbeats 200000 in
set_option maxRecDepth 100000 in
theorem c_X6_add (l : Launch) (D : va_G) (ks : kS) (τ : Nat → Nat) (L : List Nat) (A : Nat → Prop) (N : State → Prop) (hN : cNk A N) (ψ : Int32) (f : Nat → va_E) (a : Nat) (s : Nat) (t_a : ty τ L a 5) (t_s : ty τ L s 7) : Met l yX6_add (Cond.code yX6_add cX6_add 2 none :: tC) ({ frames := 0, cells := 0, slots := 0, locals := 0 }) (va_Pc [.ref a, .ref s] (cB D ks τ L A N (ψ, f))) (va_Qv (fun x9 => x9.1 = ψ) (cB D ks τ L A N) A) 0 0 A := by
  refine cMet (own := RX6) (by decide) rfl (Nat.le_of_ble_eq_true rfl) ?_
  intro p e s m below meth c ls C9 hml hr hlk V I hNs hl
  have hx := C9.1
  have hb := C9.2.1
  have hown := C9.2.2.1
  have hts := C9.2.2.2.1
  have hS : va_S A s.heap s.heap [] := va_S.rf
  have hl : lv_has ls 2 [(0, .ref a), (1, .ref s)] := hl
  refine lv_aload_n hx hb dX6_add_0 rfl (lv_at hl 0 rfl) ?_
  obtain ⟨v1_0, v1_1, hf1, hn1, t1_1⟩ := op5 I t_a
  refine cG C9 V t_a.1 hf1 rfl tC_lay5 0 (by decide) tCf_X6_17 (Or.inl rfl) rfl dX6_add_1 ?_
  refine lv_aload_n hx hb dX6_add_4 rfl (lv_at hl 0 rfl) ?_
  refine cG C9 V t_a.1 hf1 rfl tC_lay5 1 (by decide) tCf_X6_11 (Or.inl rfl) rfl dX6_add_5 ?_
  obtain ⟨g2, hf2, hg2⟩ := op13 I t1_1
  refine cAl (t0 := 2) (v := 8) C9 V t1_1.1 hf2 rfl (by first | rfl | decide) dX6_add_8 ?_
  refine lv_icmp_ge (tgt := 32) hx hb dX6_add_9 (by decide) (fun c3 => ?_) (fun c3 => ?_)
  · exact cRetV C9 hr hlk hN hNs V I hS (rfl) dX6_add_32
  · refine lv_aload_n hx hb dX6_add_12 rfl (lv_at hl 0 rfl) ?_
    refine cG C9 V t_a.1 hf1 rfl tC_lay5 1 (by decide) tCf_X6_11 (Or.inl rfl) rfl dX6_add_13 ?_
    refine lv_aload_n hx hb dX6_add_16 rfl (lv_at hl 0 rfl) ?_
    refine cG C9 V t_a.1 hf1 rfl tC_lay5 0 (by decide) tCf_X6_17 (Or.inl rfl) rfl dX6_add_17 ?_
    refine lv_aload_n hx hb dX6_add_20 rfl (lv_at hl 1 rfl) ?_
    obtain ⟨v5_0, v5_1, v5_2, v5_3, v5_4, v5_5, v5_6, v5_7, v5_8, v5_9, v5_10, v5_11, v5_12, hf5, t5_7, t5_8, t5_11⟩ := op7 I t_s
    refine cSr C9 V hS t1_1.1 hf2 t_s.1 hf5 (cvin (N := 8) rfl (hn%s.1) (ci_lt c3)) dX6_add_21 (fun f4 H locs ef4 V hS => ?_)
    have hgg6 := tyO_up (i := Int32.toNatClampNeg v1_0) hg2 (tyO_s t_s)
    obtain ⟨g6, eg6⟩ : ∃ z, z = va_up g2 (Int32.toNatClampNeg v1_0) (some s) := ⟨_, rfl⟩
    rw [← eg6] at ef4 hgg6
    have hf7 := up_s ef4
    have I := cI_up I t1_1.2 ef4 (mk13 hgg6)
    have hf8 := up_n ef4 t1_1.2 t_a.2 (by first | decide | omega) hf1
    have hf9 := up_n ef4 t1_1.2 t_s.2 (by first | decide | omega) hf5
    refine lv_aload_n hx hb dX6_add_22 rfl (lv_at hl 0 rfl) ?_
    refine lv_dup hx hb dX6_add_23 rfl ?_
    refine cG C9 V t_a.1 hf8 rfl tC_lay5 0 (by decide) tCf_X6_17 (Or.inl rfl) rfl dX6_add_24 ?_
    refine lv_iconst (v := 1) hx hb dX6_add_27 (by decide) ?_
    refine lv_iadd hx hb dX6_add_28 ?_
    refine lv_topi (fun x10 ex10 => ?_)
    refine cP (v := .int x10) (ty := .int) C9 V hS t_a.1 hf8 rfl tC_lay5 tyX6 tyX6_ok nmX6 0 (by decide) tCf_X6_17 rfl rfl (by decide +kernel) rfl rfl (Nat.le_of_ble_eq_true rfl) dX6_add_29 (fun f11 H locs ef11 V hS => ?_)
    have hf12 : f11 a = .inr (5, [.int x10, .ref v1_1]) := up_s ef11
    have hn13 := ca_up ex10 hn%s.1 (ci_lt c3)
    have I := cI_up I t_a.2 ef11 (mk5 hn13 t1_1)
    have hf14 := up_n ef11 t_a.2 t1_1.2 (by first | decide | omega) hf7
    have hf15 := up_n ef11 t_a.2 t_s.2 (by first | decide | omega) hf9
    exact cRetV C9 hr hlk hN hNs V I hS (rfl) dX6_add_32

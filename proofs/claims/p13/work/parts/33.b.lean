def FC_X6_add (X : xS) (o0 : Nat) (o1 : Nat) : xS := gLt (xI X o0 0 : Int32) (fun v1_0 => gLt ((xR X o0 1).getD 0 : Nat) (fun v1_1 => if 8 ≤ (v1_0 : Int32) then (X) else (gLt (xwQ X v1_1 v1_0 (some o1) : xS) (fun Xf4 => gLt ((v1_0 + 1) : Int32) (fun x10 => gLt (xwI Xf4 o0 0 x10 : xS) (fun Xf11 => Xf11))))))
set_option maxHeartbeats 200000 in
set_option maxRecDepth 100000 in
theorem c_X6_add (l : Launch) (D : va_G) (ks : kS) (τ : Nat → Nat) (L : List Nat) (A : Nat → Prop) (N : State → Prop) (hN : cNk A N)  (ψ : Int32) (f : Nat → va_E) (o0 : Nat) (o1 : Nat) (t_o0 : ty τ L o0 5) (t_o1 : ty τ L o1 7) : Met l yX6_add (Cond.code yX6_add cX6_add 2 none :: tC) ({ frames := 0, cells := 0, slots := 0, locals := 0 }) (va_Pc [.ref o0, .ref o1] (cB D ks τ L A N (ψ, f))) (va_Qv (fun x9 => (x9.1 = ψ) ∧ view x9.2 = FC_X6_add (view f) o0 o1) (cB D ks τ L A N) A) 0 0 A := by
  refine cMet (own := RX6) (by decide) rfl (Nat.le_of_ble_eq_true rfl) ?_
  intro p e s m below meth c ls C9 hml hr hlk V I hNs hl
  have hx := C9.1
  have hb := C9.2.1
  have hown := C9.2.2.1
  have hts := C9.2.2.2.1
  have hS : va_S A s.heap s.heap [] := va_S.rf
  have hG := FC_X6_add.eq_1 (view f) o0 o1
  have hl : lv_has ls 2 [(0, .ref o0), (1, .ref o1)] := hl
  refine lv_aload_n hx hb dX6_add_0 rfl (lv_at hl 0 rfl) ?_
  obtain ⟨v1_0, v1_1, hf1, hn1, t1_1⟩ := op5 I t_o0
  refine cG C9 V t_o0.1 hf1 rfl tC_lay5 0 (by decide) tCf_X6_17 (Or.inl rfl) rfl dX6_add_1 ?_
  replace hG := gLt_e hG (view_gI hf1 rfl)
  refine lv_aload_n hx hb dX6_add_4 rfl (lv_at hl 0 rfl) ?_
  refine cG C9 V t_o0.1 hf1 rfl tC_lay5 1 (by decide) tCf_X6_11 (Or.inl rfl) rfl dX6_add_5 ?_
  replace hG := gLt_e hG (view_gR hf1 rfl)
  obtain ⟨g2, hf2, hg2⟩ := op13 I t1_1
  refine cAl (t0 := 2) (v := 8) C9 V t1_1.1 hf2 rfl (by first | rfl | decide) dX6_add_8 ?_
  refine lv_icmp_ge (tgt := 32) hx hb dX6_add_9 (by decide) (fun c3 => ?_) (fun c3 => ?_)
  · replace hG := gIf_p hG c3
    exact cRetV C9 hr hlk hN hNs V I hS (⟨rfl, hG.symm⟩) dX6_add_32
  · replace hG := gIf_n hG c3
    refine lv_aload_n hx hb dX6_add_12 rfl (lv_at hl 0 rfl) ?_
    refine cG C9 V t_o0.1 hf1 rfl tC_lay5 1 (by decide) tCf_X6_11 (Or.inl rfl) rfl dX6_add_13 ?_
    refine lv_aload_n hx hb dX6_add_16 rfl (lv_at hl 0 rfl) ?_
    refine cG C9 V t_o0.1 hf1 rfl tC_lay5 0 (by decide) tCf_X6_17 (Or.inl rfl) rfl dX6_add_17 ?_
    refine lv_aload_n hx hb dX6_add_20 rfl (lv_at hl 1 rfl) ?_
    obtain ⟨v5_0, v5_1, v5_2, v5_3, v5_4, v5_5, v5_6, v5_7, v5_8, v5_9, v5_10, v5_11, v5_12, hf5, t5_7, t5_8, t5_11⟩ := op7 I t_o1
    refine cSr C9 V hS t1_1.1 hf2 t_o1.1 hf5 (cvin (N := 8) rfl (hn1.1) (ci_lt c3)) dX6_add_21 (fun f4 H locs ef4 V hS => ?_)
    replace hG := gLt_e hG (view_Q hf2 ef4)
    have hgg6 := tyO_up (i := Int32.toNatClampNeg v1_0) hg2 (tyO_s t_o1)
    obtain ⟨g6, eg6⟩ : ∃ z, z = va_up g2 (Int32.toNatClampNeg v1_0) (some o1) := ⟨_, rfl⟩
    rw [← eg6] at ef4 hgg6
    have hf7 := up_s ef4
    have I := cI_up I t1_1.2 ef4 (mk13 hgg6)
    have hf8 := up_n ef4 t1_1.2 t_o0.2 (by first | decide | omega) hf1
    have hf9 := up_n ef4 t1_1.2 t_o1.2 (by first | decide | omega) hf5
    refine lv_aload_n hx hb dX6_add_22 rfl (lv_at hl 0 rfl) ?_
    refine lv_dup hx hb dX6_add_23 rfl ?_
    refine cG C9 V t_o0.1 hf8 rfl tC_lay5 0 (by decide) tCf_X6_17 (Or.inl rfl) rfl dX6_add_24 ?_
    refine lv_iconst (v := 1) hx hb dX6_add_27 (by decide) ?_
    refine lv_iadd hx hb dX6_add_28 ?_
    refine lv_topi (fun x10 ex10 => ?_)
    replace hG := gLt_e hG ex10
    refine cP (v := .int x10) (ty := .int) C9 V hS t_o0.1 hf8 rfl tC_lay5 tyX6 tyX6_ok nmX6 0 (by decide) tCf_X6_17 rfl rfl (by decide +kernel) rfl rfl (Nat.le_of_ble_eq_true rfl) dX6_add_29 (fun f11 H locs ef11 V hS => ?_)
    replace hG := gLt_e hG (view_I hf8 rfl ef11)
    have hf12 : f11 o0 = .inr (5, [.int x10, .ref v1_1]) := up_s ef11
    have hn13 := ca_up ex10 hn1.1 (ci_lt c3)
    have I := cI_up I t_o0.2 ef11 (mk5 hn13 t1_1)
    have hf14 := up_n ef11 t_o0.2 t1_1.2 (by first | decide | omega) hf7
    have hf15 := up_n ef11 t_o0.2 t_o1.2 (by first | decide | omega) hf9
    exact cRetV C9 hr hlk hN hNs V I hS (⟨rfl, hG.symm⟩) dX6_add_32
theorem rm_0 {n i : Int32} (h : 0 ≤ n ∧ n ≤ i ∧ i ≤ 8) : 0 ≤ i := by grind
theorem rm_1 {n i : Int32} (h : 0 ≤ n ∧ n ≤ i ∧ i ≤ 8) (hi : i < 8) : n < 8 := by grind
theorem rm_8 {n i : Int32} (h : 0 ≤ n ∧ n ≤ i ∧ i ≤ 8) : 0 ≤ n ∧ n ≤ 8 := by grind
theorem rm_s {n i j : Int32} (h : 0 ≤ n ∧ n ≤ i ∧ i ≤ 8) (e : j = i + 1) (hi : i < 8) : 0 ≤ n ∧ n ≤ j ∧ j ≤ 8 := by grind
theorem rm_k {n i j k : Int32} (h : 0 ≤ n ∧ n ≤ i ∧ i ≤ 8) (e1 : k = n + 1) (e : j = i + 1) (hi : i < 8) : 0 ≤ k ∧ k ≤ j ∧ j ≤ 8 := by grind

def FC_X6_remove_L4 (o0 : Nat) (o1 : Nat) : Nat → Int32 → Int32 → xS → xS
  | 0, w4_2, w4_3, XGf4 => XGf4
  | N9_4 + 1, w4_2, w4_3, XGf4 => gLt (xI XGf4 o0 0 : Int32) (fun v3_0 => if v3_0 ≤ (w4_3 : Int32) then (gLt (xwI XGf4 o0 0 w4_2 : xS) (fun Xf5 => Xf5)) else (gLt ((xR XGf4 o0 1).getD 0 : Nat) (fun v3_1 => if 8 ≤ (w4_3 : Int32) then (gLt (xwI XGf4 o0 0 w4_2 : xS) (fun Xf10 => Xf10)) else (gO (xQ XGf4 v3_1 w4_3) (if (none : Option Nat) = (some o1) then (gLt (w4_3 + (1) : Int32) (fun x17 => FC_X6_remove_L4 o0 o1 N9_4 w4_2 x17 XGf4)) else (gLt (xwQ XGf4 v3_1 w4_2 none : xS) (fun Xf18 => gLt (w4_2 + (1) : Int32) (fun x22 => gLt (w4_3 + (1) : Int32) (fun x23 => FC_X6_remove_L4 o0 o1 N9_4 x22 x23 Xf18))))) (fun y15 => if ((some y15) : Option Nat) = (some o1) then (gLt (w4_3 + (1) : Int32) (fun x25 => FC_X6_remove_L4 o0 o1 N9_4 w4_2 x25 XGf4)) else (gLt (xwQ XGf4 v3_1 w4_2 (some y15) : xS) (fun Xf26 => gLt (w4_2 + (1) : Int32) (fun x32 => gLt (w4_3 + (1) : Int32) (fun x33 => FC_X6_remove_L4 o0 o1 N9_4 x32 x33 Xf26)))))))))
def FC_X6_remove (X : xS) (o0 : Nat) (o1 : Nat) : xS := gLt (0 : Int32) (fun x1 => gLt (0 : Int32) (fun x2 => FC_X6_remove_L4 o0 o1 ((8 - x2).toInt.toNat + 1) x1 x2 X))
set_option maxHeartbeats 200000 in
set_option maxRecDepth 100000 in
theorem c_X6_remove (l : Launch) (D : va_G) (ks : kS) (τ : Nat → Nat) (L : List Nat) (A : Nat → Prop) (N : State → Prop) (hN : cNk A N)  (ψ : Int32) (f : Nat → va_E) (o0 : Nat) (o1 : Nat) (t_o0 : ty τ L o0 5) (t_o1 : ty τ L o1 7) : Met l yX6_remove (Cond.code yX6_remove cX6_remove 4 none :: tC) ({ frames := 0, cells := 0, slots := 0, locals := 0 }) (va_Pc [.ref o0, .ref o1] (cB D ks τ L A N (ψ, f))) (va_Qv (fun x9 => (x9.1 = ψ) ∧ view x9.2 = FC_X6_remove (view f) o0 o1) (cB D ks τ L A N) A) 0 0 A := by
  refine cMet (own := RX6) (by decide) rfl (Nat.le_of_ble_eq_true rfl) ?_
  intro p e s m below meth c ls C9 hml hr hlk V I hNs hl
  have hx := C9.1
  have hb := C9.2.1
  have hown := C9.2.2.1
  have hts := C9.2.2.2.1
  have hS : va_S A s.heap s.heap [] := va_S.rf
  have hG := FC_X6_remove.eq_1 (view f) o0 o1
  have hl : lv_has ls 4 [(0, .ref o0), (1, .ref o1)] := hl
  refine lv_iconst (v := 0) hx hb dX6_remove_0 (by decide) ?_
  refine lv_topi (fun x1 ex1 => ?_)
  replace hG := gLt_e hG ex1
  refine lv_istore_n (lv' := [(2, .int x1), (0, .ref o0), (1, .ref o1)]) hx hb dX6_remove_1 rfl hl (by decide) rfl (fun ls hl => ?_)
  refine lv_iconst (v := 0) hx hb dX6_remove_2 (by decide) ?_
  refine lv_topi (fun x2 ex2 => ?_)
  replace hG := gLt_e hG ex2
  refine lv_istore_n (lv' := [(3, .int x2), (2, .int x1), (0, .ref o0), (1, .ref o1)]) hx hb dX6_remove_3 rfl hl (by decide) rfl (fun ls hl => ?_)
  have loop4 : ∀ (N9_4 : Nat) (w4_2 : Int32) (w4_3 : Int32)  (Gf4 : Nat → va_E) (H : Heap) (locs : List Loc) (ls : Array Slot), cI ks τ L ψ Gf4 → (0 ≤ w4_2 ∧ w4_2 ≤ w4_3 ∧ w4_3 ≤ 8) → ((8 - w4_3).toInt.toNat) < N9_4 → (FC_X6_remove (view f) o0 o1 = FC_X6_remove_L4 o0 o1 N9_4 w4_2 w4_3 (view Gf4)) → cV D L Gf4 A H → va_S A s.heap H locs → lv_has ls 4 [(0, .ref o0), (1, .ref o1), (2, .int w4_2), (3, .int w4_3)] → W p l e ({ frames := 0, cells := 0, slots := 0, locals := 0 } : Room) s m ([.ref o0, .ref o1] : List Value).toArray below meth c H locs 0 0 (MQ below (va_Qv (fun x9 => (x9.1 = ψ) ∧ view x9.2 = FC_X6_remove (view f) o0 o1) (cB D ks τ L A N) A) ([.ref o0, .ref o1] : List Value).toArray s 0 0 A) (F0 m 4 ls []) := by
    intro N9_4
    induction N9_4 with
    | zero => intro w4_2 w4_3  Gf4 H locs ls I hi4 hm4; exact absurd hm4 (Nat.not_lt_zero _)
    | succ N9_4 ih4 =>
      intro w4_2 w4_3  Gf4 H locs ls I hi4 hm4 hG V hS hl
      rw [FC_X6_remove_L4] at hG
      refine lv_iload_n hx hb dX6_remove_4 rfl (lv_at hl 3 rfl) ?_
      refine lv_aload_n hx hb dX6_remove_5 rfl (lv_at hl 0 rfl) ?_
      obtain ⟨v3_0, v3_1, hf3, hn3, t3_1⟩ := op5 I t_o0
      refine cG C9 V t_o0.1 hf3 rfl tC_lay5 0 (by decide) tCf_X6_17 (Or.inl rfl) rfl dX6_remove_6 ?_
      replace hG := gLt_e hG (view_gI hf3 rfl)
      refine lv_icmp_ge (tgt := 52) hx hb dX6_remove_9 (by decide) (fun c4 => ?_) (fun c4 => ?_)
      · replace hG := gIf_p hG c4
        refine lv_aload_n hx hb dX6_remove_52 rfl (lv_at hl 0 rfl) ?_
        refine lv_iload_n hx hb dX6_remove_53 rfl (lv_at hl 2 rfl) ?_
        refine cP (v := .int w4_2) (ty := .int) C9 V hS t_o0.1 hf3 rfl tC_lay5 tyX6 tyX6_ok nmX6 0 (by decide) tCf_X6_17 rfl rfl (by decide +kernel) rfl rfl (Nat.le_of_ble_eq_true rfl) dX6_remove_54 (fun f5 H locs ef5 V hS => ?_)
        replace hG := gLt_e hG (view_I hf3 rfl ef5)
        have hf6 : f5 o0 = .inr (5, [.int w4_2, .ref v3_1]) := up_s ef5
        have hn7 := rm_8 hi4
        have I := cI_up I t_o0.2 ef5 (mk5 hn7 t3_1)
        exact cRetV C9 hr hlk hN hNs V I hS (⟨rfl, hG.symm⟩) dX6_remove_57
      · replace hG := gIf_n hG c4
        refine lv_iload_n hx hb dX6_remove_12 rfl (lv_at hl 3 rfl) ?_
        refine lv_aload_n hx hb dX6_remove_13 rfl (lv_at hl 0 rfl) ?_
        refine cG C9 V t_o0.1 hf3 rfl tC_lay5 1 (by decide) tCf_X6_11 (Or.inl rfl) rfl dX6_remove_14 ?_
        replace hG := gLt_e hG (view_gR hf3 rfl)
        obtain ⟨g8, hf8, hg8⟩ := op13 I t3_1
        refine cAl (t0 := 2) (v := 8) C9 V t3_1.1 hf8 rfl (by first | rfl | decide) dX6_remove_17 ?_
        refine lv_icmp_ge (tgt := 52) hx hb dX6_remove_18 (by decide) (fun c9 => ?_) (fun c9 => ?_)
        · replace hG := gIf_p hG c9
          refine lv_aload_n hx hb dX6_remove_52 rfl (lv_at hl 0 rfl) ?_
          refine lv_iload_n hx hb dX6_remove_53 rfl (lv_at hl 2 rfl) ?_
          refine cP (v := .int w4_2) (ty := .int) C9 V hS t_o0.1 hf3 rfl tC_lay5 tyX6 tyX6_ok nmX6 0 (by decide) tCf_X6_17 rfl rfl (by decide +kernel) rfl rfl (Nat.le_of_ble_eq_true rfl) dX6_remove_54 (fun f10 H locs ef10 V hS => ?_)
          replace hG := gLt_e hG (view_I hf3 rfl ef10)
          have hf11 : f10 o0 = .inr (5, [.int w4_2, .ref v3_1]) := up_s ef10
          have hn12 := rm_8 hi4
          have I := cI_up I t_o0.2 ef10 (mk5 hn12 t3_1)
          have hf13 := up_n ef10 t_o0.2 t3_1.2 (by first | decide | omega) hf8
          exact cRetV C9 hr hlk hN hNs V I hS (⟨rfl, hG.symm⟩) dX6_remove_57
        · replace hG := gIf_n hG c9
          refine lv_aload_n hx hb dX6_remove_21 rfl (lv_at hl 0 rfl) ?_
          refine cG C9 V t_o0.1 hf3 rfl tC_lay5 1 (by decide) tCf_X6_11 (Or.inl rfl) rfl dX6_remove_22 ?_
          refine lv_iload_n hx hb dX6_remove_25 rfl (lv_at hl 3 rfl) ?_
          refine cLr (t0 := 2) C9 V t3_1.1 hf8 rfl (cvin (N := 8) rfl (rm_0 hi4) (ci_lt c9)) dX6_remove_26 ?_
          obtain ⟨r14, er14⟩ : ∃ z, z = g8 (Int32.toNatClampNeg w4_3) := ⟨_, rfl⟩
          rw [← er14]
          have tr14 : tyO τ L r14 7 := by rw [er14]; exact hg8 _
          replace hG := gO_e hG (er14.trans (view_gQ hf8))
          rcases r14 with _ | y15
          · replace hG := gO_n hG
            refine W.eq (g2 := F0 m 27 ls [.null]) rfl ?_
            refine lv_aload_n hx hb dX6_remove_27 rfl (lv_at hl 1 rfl) ?_
            refine lv_acmp_eq (rx := none) (ry := (some o1)) (tgt := 46) hx hb dX6_remove_28 (by decide) (fun c16 => ?_) (fun c16 => ?_)
            · replace hG := gIf_p hG c16
              obtain ⟨x17, ex17⟩ : ∃ y : Int32, y = w4_3 + (1) := ⟨_, rfl⟩
              replace hG := gLt_e hG ex17
              refine lv_iinc (v := x17) (lv' := [(3, .int x17), (0, .ref o0), (1, .ref o1), (2, .int w4_2)]) hx hb dX6_remove_46 hl (k := 3) rfl (by rw [ex17]; rfl) (by decide) rfl (fun ls hl => ?_)
              refine lv_goto (tgt := 4) hx hb dX6_remove_49 (by decide) ?_
              exact ih4 w4_2 x17  Gf4 _ _ _ I (by clear hG V hS hl C9 hts hown hx hb hml hr hlk; first | exact rm_k hi4 nope9 ex17 (ci_lt c9) | exact rm_s hi4 ex17 (ci_lt c9)) (cmsd hm4 (ca_dec ex17 (rm_0 hi4) (ci_lt c9)).1 (ca_dec ex17 (rm_0 hi4) (ci_lt c9)).2) hG V hS (lv_sub hl [1, 2, 3, 0] rfl)
            · replace hG := gIf_n hG c16
              refine lv_aload_n hx hb dX6_remove_31 rfl (lv_at hl 0 rfl) ?_
              refine cG C9 V t_o0.1 hf3 rfl tC_lay5 1 (by decide) tCf_X6_11 (Or.inl rfl) rfl dX6_remove_32 ?_
              refine lv_iload_n hx hb dX6_remove_35 rfl (lv_at hl 2 rfl) ?_
              refine lv_aload_n hx hb dX6_remove_36 rfl (lv_at hl 0 rfl) ?_
              refine cG C9 V t_o0.1 hf3 rfl tC_lay5 1 (by decide) tCf_X6_11 (Or.inl rfl) rfl dX6_remove_37 ?_
              refine lv_iload_n hx hb dX6_remove_40 rfl (lv_at hl 3 rfl) ?_
              refine cLr (t0 := 2) C9 V t3_1.1 hf8 rfl (cvin (N := 8) rfl (rm_0 hi4) (ci_lt c9)) dX6_remove_41 ?_
              rw [← er14]
              refine W.eq (g2 := F0 m 42 ls [.null, .int w4_2, .ref v3_1]) rfl ?_
              refine cSn (t0 := 2) C9 V hS t3_1.1 hf8 rfl (cvin (N := 8) rfl (hi4.1) (rm_1 hi4 (ci_lt c9))) dX6_remove_42 (fun f18 H locs ef18 V hS => ?_)
              replace hG := gLt_e hG (view_Q hf8 ef18)
              have hgg19 := tyO_up (i := Int32.toNatClampNeg w4_2) (v := none) hg8 tyO_n
              obtain ⟨g19, eg19⟩ : ∃ z, z = va_up g8 (Int32.toNatClampNeg w4_2) none := ⟨_, rfl⟩
              rw [← eg19] at ef18 hgg19
              have hf20 := up_s ef18
              have I := cI_up I t3_1.2 ef18 (mk13 hgg19)
              have hf21 := up_n ef18 t3_1.2 t_o0.2 (by first | decide | omega) hf3
              obtain ⟨x22, ex22⟩ : ∃ y : Int32, y = w4_2 + (1) := ⟨_, rfl⟩
              replace hG := gLt_e hG ex22
              refine lv_iinc (v := x22) (lv' := [(2, .int x22), (0, .ref o0), (1, .ref o1), (3, .int w4_3)]) hx hb dX6_remove_43 hl (k := 2) rfl (by rw [ex22]; rfl) (by decide) rfl (fun ls hl => ?_)
              obtain ⟨x23, ex23⟩ : ∃ y : Int32, y = w4_3 + (1) := ⟨_, rfl⟩
              replace hG := gLt_e hG ex23
              refine lv_iinc (v := x23) (lv' := [(3, .int x23), (2, .int x22), (0, .ref o0), (1, .ref o1)]) hx hb dX6_remove_46 hl (k := 3) rfl (by rw [ex23]; rfl) (by decide) rfl (fun ls hl => ?_)
              refine lv_goto (tgt := 4) hx hb dX6_remove_49 (by decide) ?_
              exact ih4 x22 x23  f18 _ _ _ I (by clear hG V hS hl C9 hts hown hx hb hml hr hlk; first | exact rm_k hi4 ex22 ex23 (ci_lt c9) | exact rm_s hi4 ex23 (ci_lt c9)) (cmsd hm4 (ca_dec ex23 (rm_0 hi4) (ci_lt c9)).1 (ca_dec ex23 (rm_0 hi4) (ci_lt c9)).2) hG V hS (lv_sub hl [2, 3, 1, 0] rfl)
          · replace hG := gO_s hG
            have hy15 := tr14 y15 rfl
            refine W.eq (g2 := F0 m 27 ls [.ref y15]) rfl ?_
            refine lv_aload_n hx hb dX6_remove_27 rfl (lv_at hl 1 rfl) ?_
            refine lv_acmp_eq (rx := (some y15)) (ry := (some o1)) (tgt := 46) hx hb dX6_remove_28 (by decide) (fun c24 => ?_) (fun c24 => ?_)
            · replace hG := gIf_p hG c24
              obtain ⟨x25, ex25⟩ : ∃ y : Int32, y = w4_3 + (1) := ⟨_, rfl⟩
              replace hG := gLt_e hG ex25
              refine lv_iinc (v := x25) (lv' := [(3, .int x25), (0, .ref o0), (1, .ref o1), (2, .int w4_2)]) hx hb dX6_remove_46 hl (k := 3) rfl (by rw [ex25]; rfl) (by decide) rfl (fun ls hl => ?_)
              refine lv_goto (tgt := 4) hx hb dX6_remove_49 (by decide) ?_
              exact ih4 w4_2 x25  Gf4 _ _ _ I (by clear hG V hS hl C9 hts hown hx hb hml hr hlk; first | exact rm_k hi4 nope9 ex25 (ci_lt c9) | exact rm_s hi4 ex25 (ci_lt c9)) (cmsd hm4 (ca_dec ex25 (rm_0 hi4) (ci_lt c9)).1 (ca_dec ex25 (rm_0 hi4) (ci_lt c9)).2) hG V hS (lv_sub hl [1, 2, 3, 0] rfl)
            · replace hG := gIf_n hG c24
              refine lv_aload_n hx hb dX6_remove_31 rfl (lv_at hl 0 rfl) ?_
              refine cG C9 V t_o0.1 hf3 rfl tC_lay5 1 (by decide) tCf_X6_11 (Or.inl rfl) rfl dX6_remove_32 ?_
              refine lv_iload_n hx hb dX6_remove_35 rfl (lv_at hl 2 rfl) ?_
              refine lv_aload_n hx hb dX6_remove_36 rfl (lv_at hl 0 rfl) ?_
              refine cG C9 V t_o0.1 hf3 rfl tC_lay5 1 (by decide) tCf_X6_11 (Or.inl rfl) rfl dX6_remove_37 ?_
              refine lv_iload_n hx hb dX6_remove_40 rfl (lv_at hl 3 rfl) ?_
              refine cLr (t0 := 2) C9 V t3_1.1 hf8 rfl (cvin (N := 8) rfl (rm_0 hi4) (ci_lt c9)) dX6_remove_41 ?_
              rw [← er14]
              refine W.eq (g2 := F0 m 42 ls [.ref y15, .int w4_2, .ref v3_1]) rfl ?_
              obtain ⟨v27_0, v27_1, v27_2, v27_3, v27_4, v27_5, v27_6, v27_7, v27_8, v27_9, v27_10, v27_11, v27_12, hf27, t27_7, t27_8, t27_11⟩ := op7 I hy15
              refine cSr C9 V hS t3_1.1 hf8 hy15.1 hf27 (cvin (N := 8) rfl (hi4.1) (rm_1 hi4 (ci_lt c9))) dX6_remove_42 (fun f26 H locs ef26 V hS => ?_)
              replace hG := gLt_e hG (view_Q hf8 ef26)
              have hgg28 := tyO_up (i := Int32.toNatClampNeg w4_2) hg8 (tyO_s hy15)
              obtain ⟨g28, eg28⟩ : ∃ z, z = va_up g8 (Int32.toNatClampNeg w4_2) (some y15) := ⟨_, rfl⟩
              rw [← eg28] at ef26 hgg28
              have hf29 := up_s ef26
              have I := cI_up I t3_1.2 ef26 (mk13 hgg28)
              have hf30 := up_n ef26 t3_1.2 t_o0.2 (by first | decide | omega) hf3
              have hf31 := up_n ef26 t3_1.2 hy15.2 (by first | decide | omega) hf27
              obtain ⟨x32, ex32⟩ : ∃ y : Int32, y = w4_2 + (1) := ⟨_, rfl⟩
              replace hG := gLt_e hG ex32
              refine lv_iinc (v := x32) (lv' := [(2, .int x32), (0, .ref o0), (1, .ref o1), (3, .int w4_3)]) hx hb dX6_remove_43 hl (k := 2) rfl (by rw [ex32]; rfl) (by decide) rfl (fun ls hl => ?_)
              obtain ⟨x33, ex33⟩ : ∃ y : Int32, y = w4_3 + (1) := ⟨_, rfl⟩
              replace hG := gLt_e hG ex33
              refine lv_iinc (v := x33) (lv' := [(3, .int x33), (2, .int x32), (0, .ref o0), (1, .ref o1)]) hx hb dX6_remove_46 hl (k := 3) rfl (by rw [ex33]; rfl) (by decide) rfl (fun ls hl => ?_)
              refine lv_goto (tgt := 4) hx hb dX6_remove_49 (by decide) ?_
              exact ih4 x32 x33  f26 _ _ _ I (by clear hG V hS hl C9 hts hown hx hb hml hr hlk; first | exact rm_k hi4 ex32 ex33 (ci_lt c9) | exact rm_s hi4 ex33 (ci_lt c9)) (cmsd hm4 (ca_dec ex33 (rm_0 hi4) (ci_lt c9)).1 (ca_dec ex33 (rm_0 hi4) (ci_lt c9)).2) hG V hS (lv_sub hl [2, 3, 1, 0] rfl)
  exact loop4 ((8 - x2).toInt.toNat + 1) x1 x2  f _ _ _ I (by clear hG V hS hl C9 hts hown hx hb hml hr hlk; subst_vars; decide) (Nat.lt_succ_self _) hG V hS (lv_sub hl [2, 3, 1, 0] rfl)
def FC_X8_codeAt (X : xS) (o0 : Nat) (i1 : Int32) : Int32 × xS := gLt (xI X o0 3 : Int32) (fun v1_3 => gLt (((v1_3 * 4) + i1) : Int32) (fun x2 => if (x2 : Int32) < 0 then (((0 : Int32), X)) else (gLt ((xR X o0 11).getD 0 : Nat) (fun v1_11 => if 240 ≤ (x2 : Int32) then (((0 : Int32), X)) else (gLt (xA X v1_11 x2 : Int32) (fun x6 => ((x6 : Int32), X)))))))
set_option maxHeartbeats 200000 in
set_option maxRecDepth 100000 in
theorem c_X8_codeAt (l : Launch) (D : va_G) (ks : kS) (τ : Nat → Nat) (L : List Nat) (A : Nat → Prop) (N : State → Prop) (hN : cNk A N)  (ψ : Int32) (f : Nat → va_E) (o0 : Nat) (i1 : Int32) (t_o0 : ty τ L o0 7) : Met l yX8_codeAt (Cond.code yX8_codeAt cX8_codeAt 3 (some .int) :: tC) ({ frames := 0, cells := 0, slots := 0, locals := 0 }) (va_Pc [.ref o0, .int i1] (cB D ks τ L A N (ψ, f))) (va_Qi (fun r9 x9 => (x9.1 = ψ) ∧ (r9, view x9.2) = FC_X8_codeAt (view f) o0 i1) (cB D ks τ L A N) A) 0 0 A := by
  refine cMet (own := RX8) (by decide) rfl (Nat.le_of_ble_eq_true rfl) ?_
  intro p e s m below meth c ls C9 hml hr hlk V I hNs hl
  have hx := C9.1
  have hb := C9.2.1
  have hown := C9.2.2.1
  have hts := C9.2.2.2.1
  have hS : va_S A s.heap s.heap [] := va_S.rf
  have hG := FC_X8_codeAt.eq_1 (view f) o0 i1
  have hl : lv_has ls 3 [(0, .ref o0), (1, .int i1)] := hl
  refine lv_aload_n hx hb dX8_codeAt_0 rfl (lv_at hl 0 rfl) ?_
  obtain ⟨v1_0, v1_1, v1_2, v1_3, v1_4, v1_5, v1_6, v1_7, v1_8, v1_9, v1_10, v1_11, v1_12, hf1, t1_7, t1_8, t1_11⟩ := op7 I t_o0
  refine cG C9 V t_o0.1 hf1 rfl tC_lay7 3 (by decide) tCf_X8_28 (Or.inl rfl) rfl dX8_codeAt_1 ?_
  replace hG := gLt_e hG (view_gI hf1 rfl)
  refine lv_iconst (v := 4) hx hb dX8_codeAt_4 (by decide) ?_
  refine lv_imul hx hb dX8_codeAt_5 ?_
  refine lv_iload_n hx hb dX8_codeAt_6 rfl (lv_at hl 1 rfl) ?_
  refine lv_iadd hx hb dX8_codeAt_7 ?_
  refine lv_topi (fun x2 ex2 => ?_)
  replace hG := gLt_e hG ex2
  refine lv_istore_n (lv' := [(2, .int x2), (0, .ref o0), (1, .int i1)]) hx hb dX8_codeAt_8 rfl hl (by decide) rfl (fun ls hl => ?_)
  refine lv_iload_n hx hb dX8_codeAt_9 rfl (lv_at hl 0 rfl) ?_
  refine lv_if_lt (tgt := 31) hx hb dX8_codeAt_10 (by decide) (fun c3 => ?_) (fun c3 => ?_)
  · replace hG := gIf_p hG c3
    refine lv_iconst (v := 0) hx hb dX8_codeAt_31 (by decide) ?_
    exact cRetI C9 hr hlk hN hNs V I hS (⟨rfl, hG.symm⟩) dX8_codeAt_32
  · replace hG := gIf_n hG c3
    refine lv_iload_n hx hb dX8_codeAt_13 rfl (lv_at hl 0 rfl) ?_
    refine lv_aload_n hx hb dX8_codeAt_14 rfl (lv_at hl 1 rfl) ?_
    refine cG C9 V t_o0.1 hf1 rfl tC_lay7 11 (by decide) tCf_X8_9 (Or.inl rfl) rfl dX8_codeAt_15 ?_
    replace hG := gLt_e hG (view_gR hf1 rfl)
    obtain ⟨g4, hf4⟩ := op12 I t1_11
    refine cAl (t0 := 1) (v := 240) C9 V t1_11.1 hf4 rfl (by first | rfl | decide) dX8_codeAt_18 ?_
    refine lv_icmp_ge (tgt := 31) hx hb dX8_codeAt_19 (by decide) (fun c5 => ?_) (fun c5 => ?_)
    · replace hG := gIf_p hG c5
      refine lv_iconst (v := 0) hx hb dX8_codeAt_31 (by decide) ?_
      exact cRetI C9 hr hlk hN hNs V I hS (⟨rfl, hG.symm⟩) dX8_codeAt_32
    · replace hG := gIf_n hG c5
      refine lv_aload_n hx hb dX8_codeAt_22 rfl (lv_at hl 1 rfl) ?_
      refine cG C9 V t_o0.1 hf1 rfl tC_lay7 11 (by decide) tCf_X8_9 (Or.inl rfl) rfl dX8_codeAt_23 ?_
      refine lv_iload_n hx hb dX8_codeAt_26 rfl (lv_at hl 0 rfl) ?_
      refine cLi C9 V t1_11.1 hf4 (cvin (N := 240) rfl (ci_le c3) (ci_lt c5)) dX8_codeAt_27 ?_
      refine lv_topi (fun x6 ex6 => ?_)
      replace hG := gLt_e hG (ex6.trans (view_gA hf4))
      refine lv_goto (tgt := 32) hx hb dX8_codeAt_28 (by decide) ?_
      exact cRetI C9 hr hlk hN hNs V I hS (⟨rfl, hG.symm⟩) dX8_codeAt_32
def FC_X8_operand (X : xS) (o0 : Nat) (i1 : Int32) : Int32 × xS := gC (FC_X8_codeAt X o0 (1 + i1)) (fun r4 Xf2 => ((r4 : Int32), Xf2))
set_option maxHeartbeats 200000 in
set_option maxRecDepth 100000 in
theorem c_X8_operand (l : Launch) (D : va_G) (ks : kS) (τ : Nat → Nat) (L : List Nat) (A : Nat → Prop) (N : State → Prop) (hN : cNk A N)  (ψ : Int32) (f : Nat → va_E) (o0 : Nat) (i1 : Int32) (t_o0 : ty τ L o0 7) : Met l yX8_operand (Cond.code yX8_operand cX8_operand 2 (some .int) :: tC) ({ frames := 1, cells := 0, slots := 0, locals := 22 }) (va_Pc [.ref o0, .int i1] (cB D ks τ L A N (ψ, f))) (va_Qi (fun r9 x9 => (x9.1 = ψ) ∧ (r9, view x9.2) = FC_X8_operand (view f) o0 i1) (cB D ks τ L A N) A) 0 0 A := by
  refine cMet (own := RX8) (by decide) rfl (Nat.le_of_ble_eq_true rfl) ?_
  intro p e s m below meth c ls C9 hml hr hlk V I hNs hl
  have hx := C9.1
  have hb := C9.2.1
  have hown := C9.2.2.1
  have hts := C9.2.2.2.1
  have hS : va_S A s.heap s.heap [] := va_S.rf
  have hG := FC_X8_operand.eq_1 (view f) o0 i1
  have hl : lv_has ls 2 [(0, .ref o0), (1, .int i1)] := hl
  refine lv_aload_n hx hb dX8_operand_0 rfl (lv_at hl 0 rfl) ?_
  refine lv_iconst (v := 1) hx hb dX8_operand_1 (by decide) ?_
  refine lv_iload_n hx hb dX8_operand_2 rfl (lv_at hl 1 rfl) ?_
  refine lv_iadd hx hb dX8_operand_3 ?_
  obtain ⟨v1_0, v1_1, v1_2, v1_3, v1_4, v1_5, v1_6, v1_7, v1_8, v1_9, v1_10, v1_11, v1_12, hf1, t1_7, t1_8, t1_11⟩ := op7 I t_o0
  refine cGoI (cRunV (As := [.int (1 + i1)]) (rest := []) C9 hml hN hNs V I hS t_o0.1 hf1 rfl (c_X8_codeAt l D ks τ L A N hN  ψ f o0 (1 + i1) t_o0 ) gC_X8_38 okC_X8_codeAt ⟨rfl, rfl, Nat.le_of_ble_eq_true rfl, Nat.le_of_ble_eq_true rfl⟩ hl.1 rfl (Nat.le_of_ble_eq_true rfl) dX8_operand_4 ⟨Nat.zero_le _, Nat.zero_le _⟩) hS (fun r4 p3 f2 H locs hqf2 V I hS => ?_)
  obtain ⟨hqf2, ghqf2⟩ := hqf2
  replace hG := gC_e hG ghqf2
  have I : cI ks τ L ψ f2 := by rw [show p3 = ψ from hqf2] at I; exact I
  exact cRetI C9 hr hlk hN hNs V I hS (⟨rfl, hG.symm⟩) dX8_operand_7

theorem lt_e {x y n : Int32} (e : x = n) (h : ¬ x ≤ y) : y < n := by rw [← e]; exact ci_lt h
theorem c_and7 (x : Int32) : 0 ≤ x &&& 7 ∧ x &&& 7 < 8 := by
  obtain ⟨j, hj, e⟩ := pk_andE x (m := 7) 3 (by decide)
  rw [e]
  exact ⟨nI_pos' (by omega), nI_lt (b := 8) hj (by decide)⟩

def FC_X2_isGiven_L21 (o0 : Nat) (i1 : Int32) : Nat → Int32 → xS → Int32 × xS
  | 0, w21_2, XGf21 => ((0 : Int32), XGf21)
  | N9_21 + 1, w21_2, XGf21 => if 8 ≤ (w21_2 : Int32) then (((1 : Int32), XGf21)) else (gLt ((xR XGf21 o0 2).getD 0 : Nat) (fun v9_2 => gC (FC_X6_first XGf21 v9_2) (fun r13 Xf11 => gO (r13) (gLt (w21_2 + (1) : Int32) (fun x15 => FC_X2_isGiven_L21 o0 i1 N9_21 x15 Xf11)) (fun y14 => gLt (FC_X8_goOnWith Xf11 y14 i1 : xS) (fun Xf17 => gLt (w21_2 + (1) : Int32) (fun x20 => FC_X2_isGiven_L21 o0 i1 N9_21 x20 Xf17))))))
def FC_X2_isGiven (X : xS) (o0 : Nat) (i1 : Int32) : Int32 × xS := gLt (xI X o0 3 : Int32) (fun v1_3 => if (v1_3 : Int32) = 0 then (gLt (xwI X o0 3 1 : xS) (fun Xf3 => gLt (xwI Xf3 o0 4 i1 : xS) (fun Xf5 => gLt (0 : Int32) (fun x7 => FC_X2_isGiven_L21 o0 i1 ((8 - x7).toInt.toNat + 1) x7 Xf5)))) else (((0 : Int32), X)))
set_option maxHeartbeats 200000 in
set_option maxRecDepth 100000 in
theorem c_X2_isGiven (l : Launch) (D : va_G) (ks : kS) (τ : Nat → Nat) (L : List Nat) (A : Nat → Prop) (N : State → Prop) (hN : cNk A N)  (ψ : Int32) (f : Nat → va_E) (o0 : Nat) (i1 : Int32) (t_o0 : ty τ L o0 1) : Met l yX2_isGiven (Cond.code yX2_isGiven cX2_isGiven 4 (some .boolean) :: tC) ({ frames := 3, cells := 0, slots := 0, locals := 64 }) (va_Pc [.ref o0, .int i1] (cB D ks τ L A N (ψ, f))) (va_Qi (fun r9 x9 => (x9.1 = ψ) ∧ (r9, view x9.2) = FC_X2_isGiven (view f) o0 i1) (cB D ks τ L A N) A) 0 0 A := by
  refine cMet (own := RX2) (by decide) rfl (Nat.le_of_ble_eq_true rfl) ?_
  intro p e s m below meth c ls C9 hml hr hlk V I hNs hl
  have hx := C9.1
  have hb := C9.2.1
  have hown := C9.2.2.1
  have hts := C9.2.2.2.1
  have hS : va_S A s.heap s.heap [] := va_S.rf
  have hG := FC_X2_isGiven.eq_1 (view f) o0 i1
  have hl : lv_has ls 4 [(0, .ref o0), (1, .int i1)] := hl
  refine lv_aload_n hx hb dX2_isGiven_0 rfl (lv_at hl 0 rfl) ?_
  obtain ⟨v1_0, v1_1, v1_2, v1_3, v1_4, hf1, t1_2⟩ := op1 I t_o0
  refine cG C9 V t_o0.1 hf1 rfl tC_lay1 3 (by decide) tCf_X2_9 (Or.inl rfl) rfl dX2_isGiven_1 ?_
  replace hG := gLt_e hG (view_gI hf1 rfl)
  refine lv_if_eq (tgt := 9) hx hb dX2_isGiven_4 (by decide) (fun c2 => ?_) (fun c2 => ?_)
  · replace hG := gIf_p hG c2
    refine lv_aload_n hx hb dX2_isGiven_9 rfl (lv_at hl 0 rfl) ?_
    refine lv_iconst (v := 1) hx hb dX2_isGiven_10 (by decide) ?_
    refine cP (v := .int 1) (ty := .boolean) C9 V hS t_o0.1 hf1 rfl tC_lay1 tyX2 tyX2_ok nmX2 3 (by decide) tCf_X2_9 rfl rfl (by decide +kernel) rfl rfl (Nat.le_of_ble_eq_true rfl) dX2_isGiven_11 (fun f3 H locs ef3 V hS => ?_)
    replace hG := gLt_e hG (view_I hf1 rfl ef3)
    have hf4 : f3 o0 = .inr (1, [.int v1_0, .int v1_1, .ref v1_2, .int 1, .int v1_4]) := up_s ef3
    have I := cI_up I t_o0.2 ef3 (mk1 t1_2)
    refine lv_aload_n hx hb dX2_isGiven_14 rfl (lv_at hl 0 rfl) ?_
    refine lv_iload_n hx hb dX2_isGiven_15 rfl (lv_at hl 1 rfl) ?_
    refine cP (v := .int i1) (ty := .int) C9 V hS t_o0.1 hf4 rfl tC_lay1 tyX2 tyX2_ok nmX2 4 (by decide) tCf_X2_15 rfl rfl (by decide +kernel) rfl rfl (Nat.le_of_ble_eq_true rfl) dX2_isGiven_16 (fun f5 H locs ef5 V hS => ?_)
    replace hG := gLt_e hG (view_I hf4 rfl ef5)
    have hf6 : f5 o0 = .inr (1, [.int v1_0, .int v1_1, .ref v1_2, .int 1, .int i1]) := up_s ef5
    have I := cI_up I t_o0.2 ef5 (mk1 t1_2)
    refine lv_iconst (v := 0) hx hb dX2_isGiven_19 (by decide) ?_
    refine lv_topi (fun x7 ex7 => ?_)
    replace hG := gLt_e hG ex7
    refine lv_istore_n (lv' := [(2, .int x7), (0, .ref o0), (1, .int i1)]) hx hb dX2_isGiven_20 rfl hl (by decide) rfl (fun ls hl => ?_)
    have loop21 : ∀ (N9_21 : Nat) (w21_2 : Int32)  (Gf21 : Nat → va_E) (H : Heap) (locs : List Loc) (ls : Array Slot), cI ks τ L ψ Gf21 → (0 ≤ w21_2 ∧ w21_2 ≤ 8) → ((8 - w21_2).toInt.toNat) < N9_21 → (FC_X2_isGiven (view f) o0 i1 = FC_X2_isGiven_L21 o0 i1 N9_21 w21_2 (view Gf21)) → cV D L Gf21 A H → va_S A s.heap H locs → lv_has ls 4 [(0, .ref o0), (1, .int i1), (2, .int w21_2)] → W p l e ({ frames := 3, cells := 0, slots := 0, locals := 64 } : Room) s m ([.ref o0, .int i1] : List Value).toArray below meth c H locs 0 0 (MQ below (va_Qi (fun r9 x9 => (x9.1 = ψ) ∧ (r9, view x9.2) = FC_X2_isGiven (view f) o0 i1) (cB D ks τ L A N) A) ([.ref o0, .int i1] : List Value).toArray s 0 0 A) (F0 m 21 ls []) := by
      intro N9_21
      induction N9_21 with
      | zero => intro w21_2  Gf21 H locs ls I hi21 hm21; exact absurd hm21 (Nat.not_lt_zero _)
      | succ N9_21 ih21 =>
        intro w21_2  Gf21 H locs ls I hi21 hm21 hG V hS hl
        rw [FC_X2_isGiven_L21] at hG
        refine lv_iload_n hx hb dX2_isGiven_21 rfl (lv_at hl 2 rfl) ?_
        refine lv_bipush (v := 8) hx hb dX2_isGiven_22 (by decide) ?_
        refine lv_icmp_ge (tgt := 50) hx hb dX2_isGiven_24 (by decide) (fun c8 => ?_) (fun c8 => ?_)
        · replace hG := gIf_p hG c8
          refine lv_iconst (v := 1) hx hb dX2_isGiven_50 (by decide) ?_
          exact cRetZ C9 hr hlk hN hNs V I hS (by clear hG V hS hl C9 hts hown hx hb hml hr hlk; first | rfl | decide | (subst_vars; rfl)) (⟨rfl, hG.symm⟩) dX2_isGiven_51
        · replace hG := gIf_n hG c8
          refine lv_aload_n hx hb dX2_isGiven_27 rfl (lv_at hl 0 rfl) ?_
          obtain ⟨v9_0, v9_1, v9_2, v9_3, v9_4, hf9, t9_2⟩ := op1 I t_o0
          refine cG C9 V t_o0.1 hf9 rfl tC_lay1 2 (by decide) tCf_X2_56 (Or.inr tCs_X2_row) rfl dX2_isGiven_28 ?_
          replace hG := gLt_e hG (view_gR hf9 rfl)
          obtain ⟨v10_0, v10_1, hf10, hn10, t10_1⟩ := op5 I t9_2
          refine cGoQ (cRunV (As := []) (rest := []) C9 hml hN hNs V I hS t9_2.1 hf10 rfl (c_X6_first l D ks τ L A N hN  ψ Gf21 v9_2 t9_2 ) gC_X2_60 okC_X6_first ⟨rfl, rfl, Nat.le_of_ble_eq_true rfl, Nat.le_of_ble_eq_true rfl⟩ hl.1 rfl (Nat.le_of_ble_eq_true rfl) dX2_isGiven_31 ⟨Nat.zero_le _, Nat.zero_le _⟩) hS (fun r13 p12 f11 H locs hqf11 V I hS => ?_)
          obtain ⟨hqf11, ghqf11⟩ := hqf11
          replace hG := gC_e hG ghqf11
          have I : cI ks τ L ψ f11 := by rw [show p12 = ψ from hqf11.1] at I; exact I
          replace hG := gO_e hG (rfl)
          rcases r13 with _ | y14
          · replace hG := gO_n hG
            refine W.eq (g2 := F0 m 34 ls [.null]) rfl ?_
            refine lv_astore_nN (lv' := [(3, .null), (0, .ref o0), (1, .int i1), (2, .int w21_2)]) hx hb dX2_isGiven_34 rfl hl (by decide) rfl (fun ls hl => ?_)
            refine lv_aload_nN hx hb dX2_isGiven_35 rfl (lv_at hl 0 rfl) ?_
            refine lv_ifnullN (tgt := 44) hx hb dX2_isGiven_36 (by decide) ?_
            obtain ⟨x15, ex15⟩ : ∃ y : Int32, y = w21_2 + (1) := ⟨_, rfl⟩
            replace hG := gLt_e hG ex15
            refine lv_iinc (v := x15) (lv' := [(2, .int x15), (3, .null), (0, .ref o0), (1, .int i1)]) hx hb dX2_isGiven_44 hl (k := 3) rfl (by rw [ex15]; rfl) (by decide) rfl (fun ls hl => ?_)
            refine lv_goto (tgt := 21) hx hb dX2_isGiven_47 (by decide) ?_
            exact ih21 x15  f11 _ _ _ I (ca_up ex15 hi21.1 (ci_lt c8)) (cmsd hm21 (ca_dec ex15 hi21.1 (ci_lt c8)).1 (ca_dec ex15 hi21.1 (ci_lt c8)).2) hG V hS (lv_sub hl [2, 3, 0] rfl)
          · replace hG := gO_s hG
            have hy14 := hqf11.2 y14 rfl
            refine W.eq (g2 := F0 m 34 ls [.ref y14]) rfl ?_
            refine lv_astore_n (lv' := [(3, .ref y14), (0, .ref o0), (1, .int i1), (2, .int w21_2)]) hx hb dX2_isGiven_34 rfl hl (by decide) rfl (fun ls hl => ?_)
            refine lv_aload_n hx hb dX2_isGiven_35 rfl (lv_at hl 0 rfl) ?_
            refine lv_ifnull hx hb dX2_isGiven_36 ?_
            refine lv_aload_n hx hb dX2_isGiven_39 rfl (lv_at hl 0 rfl) ?_
            refine lv_iload_n hx hb dX2_isGiven_40 rfl (lv_at hl 2 rfl) ?_
            obtain ⟨v16_0, v16_1, v16_2, v16_3, v16_4, v16_5, v16_6, v16_7, v16_8, v16_9, v16_10, v16_11, v16_12, hf16, t16_7, t16_8, t16_11⟩ := op7 I hy14
            refine cGoV (cRunV (As := [.int i1]) (rest := []) C9 hml hN hNs V I hS hy14.1 hf16 rfl (c_X8_goOnWith l D ks τ L A N hN  ψ f11 y14 i1 hy14 ) gC_X2_31 okC_X8_goOnWith ⟨rfl, rfl, Nat.le_of_ble_eq_true rfl, Nat.le_of_ble_eq_true rfl⟩ hl.1 rfl (Nat.le_of_ble_eq_true rfl) dX2_isGiven_41 ⟨Nat.zero_le _, Nat.zero_le _⟩) hS (fun p18 f17 H locs hqf17 V I hS => ?_)
            obtain ⟨hqf17, ghqf17⟩ := hqf17
            replace hG := gLt_e hG (ghqf17)
            have I : cI ks τ L ψ f17 := by rw [show p18 = ψ from hqf17] at I; exact I
            obtain ⟨x20, ex20⟩ : ∃ y : Int32, y = w21_2 + (1) := ⟨_, rfl⟩
            replace hG := gLt_e hG ex20
            refine lv_iinc (v := x20) (lv' := [(2, .int x20), (3, .ref y14), (0, .ref o0), (1, .int i1)]) hx hb dX2_isGiven_44 hl (k := 3) rfl (by rw [ex20]; rfl) (by decide) rfl (fun ls hl => ?_)
            refine lv_goto (tgt := 21) hx hb dX2_isGiven_47 (by decide) ?_
            exact ih21 x20  f17 _ _ _ I (ca_up ex20 hi21.1 (ci_lt c8)) (cmsd hm21 (ca_dec ex20 hi21.1 (ci_lt c8)).1 (ca_dec ex20 hi21.1 (ci_lt c8)).2) hG V hS (lv_sub hl [2, 3, 0] rfl)
    exact loop21 ((8 - x7).toInt.toNat + 1) x7  f5 _ _ _ I (by clear hG V hS hl C9 hts hown hx hb hml hr hlk; subst_vars; decide) (Nat.lt_succ_self _) hG V hS (lv_sub hl [1, 2, 0] rfl)
  · replace hG := gIf_n hG c2
    refine lv_iconst (v := 0) hx hb dX2_isGiven_7 (by decide) ?_
    exact cRetZ C9 hr hlk hN hNs V I hS (by clear hG V hS hl C9 hts hown hx hb hml hr hlk; first | rfl | decide | (subst_vars; rfl)) (⟨rfl, hG.symm⟩) dX2_isGiven_8
def FC_X12_syncAt (X : xS) (o0 : Nat) (i1 : Int32) : Option Nat × xS := if (i1 : Int32) < 0 then (((none : Option Nat), X)) else (gLt ((xR X o0 1).getD 0 : Nat) (fun v2_1 => if 24 ≤ (i1 : Int32) then (((none : Option Nat), X)) else (gO (xQ X v2_1 i1) (((none : Option Nat), X)) (fun y6 => (((some y6) : Option Nat), X)))))
set_option maxHeartbeats 200000 in
set_option maxRecDepth 100000 in
theorem c_X12_syncAt (l : Launch) (D : va_G) (ks : kS) (τ : Nat → Nat) (L : List Nat) (A : Nat → Prop) (N : State → Prop) (hN : cNk A N)  (ψ : Int32) (f : Nat → va_E) (o0 : Nat) (i1 : Int32) (t_o0 : ty τ L o0 9) : Met l yX12_syncAt (Cond.code yX12_syncAt cX12_syncAt 2 (some (.object "TurnKeeper$Sync")) :: tC) ({ frames := 0, cells := 0, slots := 0, locals := 0 }) (va_Pc [.ref o0, .int i1] (cB D ks τ L A N (ψ, f))) (va_Qq (fun r9 x9 => (x9.1 = ψ ∧ tySO τ L r9) ∧ (r9, view x9.2) = FC_X12_syncAt (view f) o0 i1) (cB D ks τ L A N) A) 0 0 A := by
  refine cMet (own := RX12) (by decide) rfl (Nat.le_of_ble_eq_true rfl) ?_
  intro p e s m below meth c ls C9 hml hr hlk V I hNs hl
  have hx := C9.1
  have hb := C9.2.1
  have hown := C9.2.2.1
  have hts := C9.2.2.2.1
  have hS : va_S A s.heap s.heap [] := va_S.rf
  have hG := FC_X12_syncAt.eq_1 (view f) o0 i1
  have hl : lv_has ls 2 [(0, .ref o0), (1, .int i1)] := hl
  refine lv_iload_n hx hb dX12_syncAt_0 rfl (lv_at hl 1 rfl) ?_
  refine lv_if_lt (tgt := 22) hx hb dX12_syncAt_1 (by decide) (fun c1 => ?_) (fun c1 => ?_)
  · replace hG := gIf_p hG c1
    refine lv_null hx hb dX12_syncAt_22 ?_
    exact cRetR (v := none) C9 hr hlk hN hNs V I hS (⟨⟨rfl, tySO_n⟩, hG.symm⟩) dX12_syncAt_23
  · replace hG := gIf_n hG c1
    refine lv_iload_n hx hb dX12_syncAt_4 rfl (lv_at hl 1 rfl) ?_
    refine lv_aload_n hx hb dX12_syncAt_5 rfl (lv_at hl 0 rfl) ?_
    obtain ⟨v2_0, v2_1, v2_2, v2_3, v2_4, v2_5, hf2, t2_0, t2_1, t2_2⟩ := op9 I t_o0
    refine cG C9 V t_o0.1 hf2 rfl tC_lay9 1 (by decide) tCf_X12_18 (Or.inl rfl) rfl dX12_syncAt_6 ?_
    replace hG := gLt_e hG (view_gR hf2 rfl)
    obtain ⟨g3, hf3, hg3⟩ := op15 I t2_1
    refine cAl (t0 := 3) (v := 24) C9 V t2_1.1 hf3 rfl (by first | rfl | decide) dX12_syncAt_9 ?_
    refine lv_icmp_ge (tgt := 22) hx hb dX12_syncAt_10 (by decide) (fun c4 => ?_) (fun c4 => ?_)
    · replace hG := gIf_p hG c4
      refine lv_null hx hb dX12_syncAt_22 ?_
      exact cRetR (v := none) C9 hr hlk hN hNs V I hS (⟨⟨rfl, tySO_n⟩, hG.symm⟩) dX12_syncAt_23
    · replace hG := gIf_n hG c4
      refine lv_aload_n hx hb dX12_syncAt_13 rfl (lv_at hl 0 rfl) ?_
      refine cG C9 V t_o0.1 hf2 rfl tC_lay9 1 (by decide) tCf_X12_18 (Or.inl rfl) rfl dX12_syncAt_14 ?_
      refine lv_iload_n hx hb dX12_syncAt_17 rfl (lv_at hl 1 rfl) ?_
      refine cLr (t0 := 3) C9 V t2_1.1 hf3 rfl (cvin (N := 24) rfl (ci_le c1) (ci_lt c4)) dX12_syncAt_18 ?_
      obtain ⟨r5, er5⟩ : ∃ z, z = g3 (Int32.toNatClampNeg i1) := ⟨_, rfl⟩
      rw [← er5]
      have tr5 : tySO τ L r5 := by rw [er5]; exact hg3 _
      replace hG := gO_e hG (er5.trans (view_gQ hf3))
      rcases r5 with _ | y6
      · replace hG := gO_n hG
        refine W.eq (g2 := F0 m 19 ls [.null]) rfl ?_
        refine lv_goto (tgt := 23) hx hb dX12_syncAt_19 (by decide) ?_
        exact cRetR (v := none) C9 hr hlk hN hNs V I hS (⟨⟨rfl, tySO_n⟩, hG.symm⟩) dX12_syncAt_23
      · replace hG := gO_s hG
        have hy6 := tr5 y6 rfl
        refine W.eq (g2 := F0 m 19 ls [.ref y6]) rfl ?_
        refine lv_goto (tgt := 23) hx hb dX12_syncAt_19 (by decide) ?_
        exact cRetR (v := (some y6)) C9 hr hlk hN hNs V I hS (⟨⟨rfl, tySO_s hy6⟩, hG.symm⟩) dX12_syncAt_23
def FC_X12_leastFree_L2 (o0 : Nat) : Nat → Int32 → xS → Int32 × xS
  | 0, w2_1, XGf2 => ((0 : Int32), XGf2)
  | N9_2 + 1, w2_1, XGf2 => gLt ((xR XGf2 o0 1).getD 0 : Nat) (fun v2_1 => if 24 ≤ (w2_1 : Int32) then ((((-1) : Int32), XGf2)) else (gO (xQ XGf2 v2_1 w2_1) (((w2_1 : Int32), XGf2)) (fun y6 => gLt (w2_1 + (1) : Int32) (fun x7 => FC_X12_leastFree_L2 o0 N9_2 x7 XGf2))))
def FC_X12_leastFree (X : xS) (o0 : Nat) : Int32 × xS := gLt (0 : Int32) (fun x1 => FC_X12_leastFree_L2 o0 ((24 - x1).toInt.toNat + 1) x1 X)
set_option maxHeartbeats 200000 in
set_option maxRecDepth 100000 in
theorem c_X12_leastFree (l : Launch) (D : va_G) (ks : kS) (τ : Nat → Nat) (L : List Nat) (A : Nat → Prop) (N : State → Prop) (hN : cNk A N)  (ψ : Int32) (f : Nat → va_E) (o0 : Nat) (t_o0 : ty τ L o0 9) : Met l yX12_leastFree (Cond.code yX12_leastFree cX12_leastFree 2 (some .int) :: tC) ({ frames := 0, cells := 0, slots := 0, locals := 0 }) (va_Pc [.ref o0] (cB D ks τ L A N (ψ, f))) (va_Qi (fun r9 x9 => (x9.1 = ψ) ∧ (r9, view x9.2) = FC_X12_leastFree (view f) o0) (cB D ks τ L A N) A) 0 0 A := by
  refine cMet (own := RX12) (by decide) rfl (Nat.le_of_ble_eq_true rfl) ?_
  intro p e s m below meth c ls C9 hml hr hlk V I hNs hl
  have hx := C9.1
  have hb := C9.2.1
  have hown := C9.2.2.1
  have hts := C9.2.2.2.1
  have hS : va_S A s.heap s.heap [] := va_S.rf
  have hG := FC_X12_leastFree.eq_1 (view f) o0
  have hl : lv_has ls 2 [(0, .ref o0)] := hl
  refine lv_iconst (v := 0) hx hb dX12_leastFree_0 (by decide) ?_
  refine lv_topi (fun x1 ex1 => ?_)
  replace hG := gLt_e hG ex1
  refine lv_istore_n (lv' := [(1, .int x1), (0, .ref o0)]) hx hb dX12_leastFree_1 rfl hl (by decide) rfl (fun ls hl => ?_)
  have loop2 : ∀ (N9_2 : Nat) (w2_1 : Int32)  (Gf2 : Nat → va_E) (H : Heap) (locs : List Loc) (ls : Array Slot), cI ks τ L ψ Gf2 → (0 ≤ w2_1 ∧ w2_1 ≤ 24) → ((24 - w2_1).toInt.toNat) < N9_2 → (FC_X12_leastFree (view f) o0 = FC_X12_leastFree_L2 o0 N9_2 w2_1 (view Gf2)) → cV D L Gf2 A H → va_S A s.heap H locs → lv_has ls 2 [(0, .ref o0), (1, .int w2_1)] → W p l e ({ frames := 0, cells := 0, slots := 0, locals := 0 } : Room) s m ([.ref o0] : List Value).toArray below meth c H locs 0 0 (MQ below (va_Qi (fun r9 x9 => (x9.1 = ψ) ∧ (r9, view x9.2) = FC_X12_leastFree (view f) o0) (cB D ks τ L A N) A) ([.ref o0] : List Value).toArray s 0 0 A) (F0 m 2 ls []) := by
    intro N9_2
    induction N9_2 with
    | zero => intro w2_1  Gf2 H locs ls I hi2 hm2; exact absurd hm2 (Nat.not_lt_zero _)
    | succ N9_2 ih2 =>
      intro w2_1  Gf2 H locs ls I hi2 hm2 hG V hS hl
      rw [FC_X12_leastFree_L2] at hG
      refine lv_iload_n hx hb dX12_leastFree_2 rfl (lv_at hl 1 rfl) ?_
      refine lv_aload_n hx hb dX12_leastFree_3 rfl (lv_at hl 0 rfl) ?_
      obtain ⟨v2_0, v2_1, v2_2, v2_3, v2_4, v2_5, hf2, t2_0, t2_1, t2_2⟩ := op9 I t_o0
      refine cG C9 V t_o0.1 hf2 rfl tC_lay9 1 (by decide) tCf_X12_18 (Or.inl rfl) rfl dX12_leastFree_4 ?_
      replace hG := gLt_e hG (view_gR hf2 rfl)
      obtain ⟨g3, hf3, hg3⟩ := op15 I t2_1
      refine cAl (t0 := 3) (v := 24) C9 V t2_1.1 hf3 rfl (by first | rfl | decide) dX12_leastFree_7 ?_
      refine lv_icmp_ge (tgt := 28) hx hb dX12_leastFree_8 (by decide) (fun c4 => ?_) (fun c4 => ?_)
      · replace hG := gIf_p hG c4
        refine lv_iconst (v := (-1)) hx hb dX12_leastFree_28 (by decide) ?_
        exact cRetI C9 hr hlk hN hNs V I hS (⟨rfl, hG.symm⟩) dX12_leastFree_29
      · replace hG := gIf_n hG c4
        refine lv_aload_n hx hb dX12_leastFree_11 rfl (lv_at hl 0 rfl) ?_
        refine cG C9 V t_o0.1 hf2 rfl tC_lay9 1 (by decide) tCf_X12_18 (Or.inl rfl) rfl dX12_leastFree_12 ?_
        refine lv_iload_n hx hb dX12_leastFree_15 rfl (lv_at hl 1 rfl) ?_
        refine cLr (t0 := 3) C9 V t2_1.1 hf3 rfl (cvin (N := 24) rfl (hi2.1) (ci_lt c4)) dX12_leastFree_16 ?_
        obtain ⟨r5, er5⟩ : ∃ z, z = g3 (Int32.toNatClampNeg w2_1) := ⟨_, rfl⟩
        rw [← er5]
        have tr5 : tySO τ L r5 := by rw [er5]; exact hg3 _
        replace hG := gO_e hG (er5.trans (view_gQ hf3))
        rcases r5 with _ | y6
        · replace hG := gO_n hG
          refine W.eq (g2 := F0 m 17 ls [.null]) rfl ?_
          refine lv_ifnonnullN hx hb dX12_leastFree_17 ?_
          refine lv_iload_n hx hb dX12_leastFree_20 rfl (lv_at hl 1 rfl) ?_
          exact cRetI C9 hr hlk hN hNs V I hS (⟨rfl, hG.symm⟩) dX12_leastFree_21
        · replace hG := gO_s hG
          have hy6 := tr5 y6 rfl
          refine W.eq (g2 := F0 m 17 ls [.ref y6]) rfl ?_
          refine lv_ifnonnull (tgt := 22) hx hb dX12_leastFree_17 (by decide) ?_
          obtain ⟨x7, ex7⟩ : ∃ y : Int32, y = w2_1 + (1) := ⟨_, rfl⟩
          replace hG := gLt_e hG ex7
          refine lv_iinc (v := x7) (lv' := [(1, .int x7), (0, .ref o0)]) hx hb dX12_leastFree_22 hl (k := 1) rfl (by rw [ex7]; rfl) (by decide) rfl (fun ls hl => ?_)
          refine lv_goto (tgt := 2) hx hb dX12_leastFree_25 (by decide) ?_
          exact ih2 x7  Gf2 _ _ _ I (ca_up ex7 hi2.1 (ci_lt c4)) (cmsd hm2 (ca_dec ex7 hi2.1 (ci_lt c4)).1 (ca_dec ex7 hi2.1 (ci_lt c4)).2) hG V hS (lv_sub hl [1, 0] rfl)
  exact loop2 ((24 - x1).toInt.toNat + 1) x1  f _ _ _ I (by clear hG V hS hl C9 hts hown hx hb hml hr hlk; subst_vars; decide) (Nat.lt_succ_self _) hG V hS (lv_sub hl [1, 0] rfl)
def FC_X12_howManySyncs_L13 (v2_1 : Nat) (x4 : Int32) : Nat → Int32 → Int32 → xS → Int32 × xS
  | 0, w13_1, w13_4, XGf13 => ((0 : Int32), XGf13)
  | N9_13 + 1, w13_1, w13_4, XGf13 => if x4 ≤ (w13_4 : Int32) then (((w13_1 : Int32), XGf13)) else (gO (xQ XGf13 v2_1 w13_4) (gLt ((w13_1 + 0) : Int32) (fun x10 => gLt (w13_4 + (1) : Int32) (fun x11 => FC_X12_howManySyncs_L13 v2_1 x4 N9_13 x10 x11 XGf13))) (fun y9 => gLt ((w13_1 + 1) : Int32) (fun x12 => gLt (w13_4 + (1) : Int32) (fun x13 => FC_X12_howManySyncs_L13 v2_1 x4 N9_13 x12 x13 XGf13))))
def FC_X12_howManySyncs (X : xS) (o0 : Nat) : Int32 × xS := gLt (0 : Int32) (fun x1 => gLt ((xR X o0 1).getD 0 : Nat) (fun v2_1 => gLt (24 : Int32) (fun x4 => gLt (0 : Int32) (fun x5 => FC_X12_howManySyncs_L13 v2_1 x4 ((24 - x5).toInt.toNat + 1) x1 x5 X))))
set_option maxHeartbeats 200000 in
set_option maxRecDepth 100000 in
theorem c_X12_howManySyncs (l : Launch) (D : va_G) (ks : kS) (τ : Nat → Nat) (L : List Nat) (A : Nat → Prop) (N : State → Prop) (hN : cNk A N)  (ψ : Int32) (f : Nat → va_E) (o0 : Nat) (t_o0 : ty τ L o0 9) : Met l yX12_howManySyncs (Cond.code yX12_howManySyncs cX12_howManySyncs 6 (some .int) :: tC) ({ frames := 0, cells := 0, slots := 0, locals := 0 }) (va_Pc [.ref o0] (cB D ks τ L A N (ψ, f))) (va_Qi (fun r9 x9 => (x9.1 = ψ) ∧ (r9, view x9.2) = FC_X12_howManySyncs (view f) o0) (cB D ks τ L A N) A) 0 0 A := by
  refine cMet (own := RX12) (by decide) rfl (Nat.le_of_ble_eq_true rfl) ?_
  intro p e s m below meth c ls C9 hml hr hlk V I hNs hl
  have hx := C9.1
  have hb := C9.2.1
  have hown := C9.2.2.1
  have hts := C9.2.2.2.1
  have hS : va_S A s.heap s.heap [] := va_S.rf
  have hG := FC_X12_howManySyncs.eq_1 (view f) o0
  have hl : lv_has ls 6 [(0, .ref o0)] := hl
  refine lv_iconst (v := 0) hx hb dX12_howManySyncs_0 (by decide) ?_
  refine lv_topi (fun x1 ex1 => ?_)
  replace hG := gLt_e hG ex1
  refine lv_istore_n (lv' := [(1, .int x1), (0, .ref o0)]) hx hb dX12_howManySyncs_1 rfl hl (by decide) rfl (fun ls hl => ?_)
  refine lv_aload_n hx hb dX12_howManySyncs_2 rfl (lv_at hl 1 rfl) ?_
  obtain ⟨v2_0, v2_1, v2_2, v2_3, v2_4, v2_5, hf2, t2_0, t2_1, t2_2⟩ := op9 I t_o0
  refine cG C9 V t_o0.1 hf2 rfl tC_lay9 1 (by decide) tCf_X12_18 (Or.inl rfl) rfl dX12_howManySyncs_3 ?_
  replace hG := gLt_e hG (view_gR hf2 rfl)
  refine lv_astore_n (lv' := [(2, .ref v2_1), (1, .int x1), (0, .ref o0)]) hx hb dX12_howManySyncs_6 rfl hl (by decide) rfl (fun ls hl => ?_)
  refine lv_aload_n hx hb dX12_howManySyncs_7 rfl (lv_at hl 0 rfl) ?_
  obtain ⟨g3, hf3, hg3⟩ := op15 I t2_1
  refine cAl (t0 := 3) (v := 24) C9 V t2_1.1 hf3 rfl (by first | rfl | decide) dX12_howManySyncs_8 ?_
  refine lv_topi (fun x4 ex4 => ?_)
  replace hG := gLt_e hG ex4
  refine lv_istore_n (lv' := [(3, .int x4), (2, .ref v2_1), (1, .int x1), (0, .ref o0)]) hx hb dX12_howManySyncs_9 rfl hl (by decide) rfl (fun ls hl => ?_)
  refine lv_iconst (v := 0) hx hb dX12_howManySyncs_10 (by decide) ?_
  refine lv_topi (fun x5 ex5 => ?_)
  replace hG := gLt_e hG ex5
  refine lv_istore (lv' := [(4, .int x5), (3, .int x4), (2, .ref v2_1), (1, .int x1), (0, .ref o0)]) hx hb dX12_howManySyncs_11 hl (by decide) rfl (fun ls hl => ?_)
  have loop13 : ∀ (N9_13 : Nat) (w13_1 : Int32) (w13_4 : Int32)  (Gf13 : Nat → va_E) (H : Heap) (locs : List Loc) (ls : Array Slot), cI ks τ L ψ Gf13 → (0 ≤ w13_4 ∧ w13_4 ≤ 24) → ((24 - w13_4).toInt.toNat) < N9_13 → (FC_X12_howManySyncs (view f) o0 = FC_X12_howManySyncs_L13 v2_1 x4 N9_13 w13_1 w13_4 (view Gf13)) → cV D L Gf13 A H → va_S A s.heap H locs → lv_has ls 6 [(0, .ref o0), (1, .int w13_1), (2, .ref v2_1), (3, .int x4), (4, .int w13_4)] → W p l e ({ frames := 0, cells := 0, slots := 0, locals := 0 } : Room) s m ([.ref o0] : List Value).toArray below meth c H locs 0 0 (MQ below (va_Qi (fun r9 x9 => (x9.1 = ψ) ∧ (r9, view x9.2) = FC_X12_howManySyncs (view f) o0) (cB D ks τ L A N) A) ([.ref o0] : List Value).toArray s 0 0 A) (F0 m 13 ls []) := by
    intro N9_13
    induction N9_13 with
    | zero => intro w13_1 w13_4  Gf13 H locs ls I hi13 hm13; exact absurd hm13 (Nat.not_lt_zero _)
    | succ N9_13 ih13 =>
      intro w13_1 w13_4  Gf13 H locs ls I hi13 hm13 hG V hS hl
      rw [FC_X12_howManySyncs_L13] at hG
      refine lv_iload hx hb dX12_howManySyncs_13 (lv_at hl 4 rfl) ?_
      refine lv_iload_n hx hb dX12_howManySyncs_15 rfl (lv_at hl 3 rfl) ?_
      refine lv_icmp_ge (tgt := 44) hx hb dX12_howManySyncs_16 (by decide) (fun c6 => ?_) (fun c6 => ?_)
      · replace hG := gIf_p hG c6
        refine lv_iload_n hx hb dX12_howManySyncs_44 rfl (lv_at hl 1 rfl) ?_
        exact cRetI C9 hr hlk hN hNs V I hS (⟨rfl, hG.symm⟩) dX12_howManySyncs_45
      · replace hG := gIf_n hG c6
        refine lv_aload_n hx hb dX12_howManySyncs_19 rfl (lv_at hl 2 rfl) ?_
        refine lv_iload hx hb dX12_howManySyncs_20 (lv_at hl 4 rfl) ?_
        obtain ⟨g7, hf7, hg7⟩ := op15 I t2_1
        refine cLr (t0 := 3) C9 V t2_1.1 hf7 rfl (cvin (N := 24) rfl (hi13.1) (lt_e ex4 c6)) dX12_howManySyncs_22 ?_
        obtain ⟨r8, er8⟩ : ∃ z, z = g7 (Int32.toNatClampNeg w13_4) := ⟨_, rfl⟩
        rw [← er8]
        have tr8 : tySO τ L r8 := by rw [er8]; exact hg7 _
        replace hG := gO_e hG (er8.trans (view_gQ hf7))
        rcases r8 with _ | y9
        · replace hG := gO_n hG
          refine W.eq (g2 := F0 m 23 ls [.null]) rfl ?_
          refine lv_astoreN (lv' := [(5, .null), (0, .ref o0), (1, .int w13_1), (2, .ref v2_1), (3, .int x4), (4, .int w13_4)]) hx hb dX12_howManySyncs_23 hl (by decide) rfl (fun ls hl => ?_)
          refine lv_iload_n hx hb dX12_howManySyncs_25 rfl (lv_at hl 2 rfl) ?_
          refine lv_aloadN hx hb dX12_howManySyncs_26 (lv_at hl 0 rfl) ?_
          refine lv_ifnonnullN hx hb dX12_howManySyncs_28 ?_
          refine lv_iconst (v := 0) hx hb dX12_howManySyncs_31 (by decide) ?_
          refine lv_goto (tgt := 36) hx hb dX12_howManySyncs_32 (by decide) ?_
          refine lv_iadd hx hb dX12_howManySyncs_36 ?_
          refine lv_topi (fun x10 ex10 => ?_)
          replace hG := gLt_e hG ex10
          refine lv_istore_n (lv' := [(1, .int x10), (5, .null), (0, .ref o0), (2, .ref v2_1), (3, .int x4), (4, .int w13_4)]) hx hb dX12_howManySyncs_37 rfl hl (by decide) rfl (fun ls hl => ?_)
          obtain ⟨x11, ex11⟩ : ∃ y : Int32, y = w13_4 + (1) := ⟨_, rfl⟩
          replace hG := gLt_e hG ex11
          refine lv_iinc (v := x11) (lv' := [(4, .int x11), (1, .int x10), (5, .null), (0, .ref o0), (2, .ref v2_1), (3, .int x4)]) hx hb dX12_howManySyncs_38 hl (k := 5) rfl (by rw [ex11]; rfl) (by decide) rfl (fun ls hl => ?_)
          refine lv_goto (tgt := 13) hx hb dX12_howManySyncs_41 (by decide) ?_
          exact ih13 x10 x11  Gf13 _ _ _ I (ca_up ex11 hi13.1 (lt_e ex4 c6)) (cmsd hm13 (ca_dec ex11 hi13.1 (lt_e ex4 c6)).1 (ca_dec ex11 hi13.1 (lt_e ex4 c6)).2) hG V hS (lv_sub hl [3, 1, 4, 5, 0] rfl)
        · replace hG := gO_s hG
          have hy9 := tr8 y9 rfl
          refine W.eq (g2 := F0 m 23 ls [.ref y9]) rfl ?_
          refine lv_astore (lv' := [(5, .ref y9), (0, .ref o0), (1, .int w13_1), (2, .ref v2_1), (3, .int x4), (4, .int w13_4)]) hx hb dX12_howManySyncs_23 hl (by decide) rfl (fun ls hl => ?_)
          refine lv_iload_n hx hb dX12_howManySyncs_25 rfl (lv_at hl 2 rfl) ?_
          refine lv_aload hx hb dX12_howManySyncs_26 (lv_at hl 0 rfl) ?_
          refine lv_ifnonnull (tgt := 35) hx hb dX12_howManySyncs_28 (by decide) ?_
          refine lv_iconst (v := 1) hx hb dX12_howManySyncs_35 (by decide) ?_
          refine lv_iadd hx hb dX12_howManySyncs_36 ?_
          refine lv_topi (fun x12 ex12 => ?_)
          replace hG := gLt_e hG ex12
          refine lv_istore_n (lv' := [(1, .int x12), (5, .ref y9), (0, .ref o0), (2, .ref v2_1), (3, .int x4), (4, .int w13_4)]) hx hb dX12_howManySyncs_37 rfl hl (by decide) rfl (fun ls hl => ?_)
          obtain ⟨x13, ex13⟩ : ∃ y : Int32, y = w13_4 + (1) := ⟨_, rfl⟩
          replace hG := gLt_e hG ex13
          refine lv_iinc (v := x13) (lv' := [(4, .int x13), (1, .int x12), (5, .ref y9), (0, .ref o0), (2, .ref v2_1), (3, .int x4)]) hx hb dX12_howManySyncs_38 hl (k := 5) rfl (by rw [ex13]; rfl) (by decide) rfl (fun ls hl => ?_)
          refine lv_goto (tgt := 13) hx hb dX12_howManySyncs_41 (by decide) ?_
          exact ih13 x12 x13  Gf13 _ _ _ I (ca_up ex13 hi13.1 (lt_e ex4 c6)) (cmsd hm13 (ca_dec ex13 hi13.1 (lt_e ex4 c6)).1 (ca_dec ex13 hi13.1 (lt_e ex4 c6)).2) hG V hS (lv_sub hl [3, 1, 4, 5, 0] rfl)
  exact loop13 ((24 - x5).toInt.toNat + 1) x1 x5  f _ _ _ I (by clear hG V hS hl C9 hts hown hx hb hml hr hlk; subst_vars; decide) (Nat.lt_succ_self _) hG V hS (lv_sub hl [4, 3, 2, 1, 0] rfl)
def FC_X12_howManyReady_L13 (v2_2 : Nat) (x4 : Int32) : Nat → Int32 → Int32 → xS → Int32 × xS
  | 0, w13_1, w13_4, XGf13 => ((0 : Int32), XGf13)
  | N9_13 + 1, w13_1, w13_4, XGf13 => if x4 ≤ (w13_4 : Int32) then (((w13_1 : Int32), XGf13)) else (gLt ((xQ XGf13 v2_2 w13_4).getD 0 : Nat) (fun y8 => gLt (xI XGf13 y8 1 : Int32) (fun v9_1 => if (v9_1 : Int32) = 1 then (gLt ((w13_1 + 1) : Int32) (fun x13 => gLt (w13_4 + (1) : Int32) (fun x14 => FC_X12_howManyReady_L13 v2_2 x4 N9_13 x13 x14 XGf13))) else (gLt ((w13_1 + 0) : Int32) (fun x11 => gLt (w13_4 + (1) : Int32) (fun x12 => FC_X12_howManyReady_L13 v2_2 x4 N9_13 x11 x12 XGf13))))))
def FC_X12_howManyReady (X : xS) (o0 : Nat) : Int32 × xS := gLt (0 : Int32) (fun x1 => gLt ((xR X o0 2).getD 0 : Nat) (fun v2_2 => gLt (8 : Int32) (fun x4 => gLt (0 : Int32) (fun x5 => FC_X12_howManyReady_L13 v2_2 x4 ((8 - x5).toInt.toNat + 1) x1 x5 X))))
set_option maxHeartbeats 200000 in
set_option maxRecDepth 100000 in
theorem c_X12_howManyReady (l : Launch) (D : va_G) (ks : kS) (τ : Nat → Nat) (L : List Nat) (A : Nat → Prop) (N : State → Prop) (hN : cNk A N)  (ψ : Int32) (f : Nat → va_E) (o0 : Nat) (t_o0 : ty τ L o0 9) : Met l yX12_howManyReady (Cond.code yX12_howManyReady cX12_howManyReady 6 (some .int) :: tC) ({ frames := 0, cells := 0, slots := 0, locals := 0 }) (va_Pc [.ref o0] (cB D ks τ L A N (ψ, f))) (va_Qi (fun r9 x9 => (x9.1 = ψ) ∧ (r9, view x9.2) = FC_X12_howManyReady (view f) o0) (cB D ks τ L A N) A) 0 0 A := by
  refine cMet (own := RX12) (by decide) rfl (Nat.le_of_ble_eq_true rfl) ?_
  intro p e s m below meth c ls C9 hml hr hlk V I hNs hl
  have hx := C9.1
  have hb := C9.2.1
  have hown := C9.2.2.1
  have hts := C9.2.2.2.1
  have hS : va_S A s.heap s.heap [] := va_S.rf
  have hG := FC_X12_howManyReady.eq_1 (view f) o0
  have hl : lv_has ls 6 [(0, .ref o0)] := hl
  refine lv_iconst (v := 0) hx hb dX12_howManyReady_0 (by decide) ?_
  refine lv_topi (fun x1 ex1 => ?_)
  replace hG := gLt_e hG ex1
  refine lv_istore_n (lv' := [(1, .int x1), (0, .ref o0)]) hx hb dX12_howManyReady_1 rfl hl (by decide) rfl (fun ls hl => ?_)
  refine lv_aload_n hx hb dX12_howManyReady_2 rfl (lv_at hl 1 rfl) ?_
  obtain ⟨v2_0, v2_1, v2_2, v2_3, v2_4, v2_5, hf2, t2_0, t2_1, t2_2⟩ := op9 I t_o0
  refine cG C9 V t_o0.1 hf2 rfl tC_lay9 2 (by decide) tCf_X12_24 (Or.inl rfl) rfl dX12_howManyReady_3 ?_
  replace hG := gLt_e hG (view_gR hf2 rfl)
  refine lv_astore_n (lv' := [(2, .ref v2_2), (1, .int x1), (0, .ref o0)]) hx hb dX12_howManyReady_6 rfl hl (by decide) rfl (fun ls hl => ?_)
  refine lv_aload_n hx hb dX12_howManyReady_7 rfl (lv_at hl 0 rfl) ?_
  obtain ⟨g3, hf3, hg3⟩ := op14 I t2_2
  refine cAl (t0 := 2) (v := 8) C9 V t2_2.1 hf3 rfl (by first | rfl | decide) dX12_howManyReady_8 ?_
  refine lv_topi (fun x4 ex4 => ?_)
  replace hG := gLt_e hG ex4
  refine lv_istore_n (lv' := [(3, .int x4), (2, .ref v2_2), (1, .int x1), (0, .ref o0)]) hx hb dX12_howManyReady_9 rfl hl (by decide) rfl (fun ls hl => ?_)
  refine lv_iconst (v := 0) hx hb dX12_howManyReady_10 (by decide) ?_
  refine lv_topi (fun x5 ex5 => ?_)
  replace hG := gLt_e hG ex5
  refine lv_istore (lv' := [(4, .int x5), (3, .int x4), (2, .ref v2_2), (1, .int x1), (0, .ref o0)]) hx hb dX12_howManyReady_11 hl (by decide) rfl (fun ls hl => ?_)
  have loop13 : ∀ (N9_13 : Nat) (w13_1 : Int32) (w13_4 : Int32)  (Gf13 : Nat → va_E) (H : Heap) (locs : List Loc) (ls : Array Slot), cI ks τ L ψ Gf13 → (0 ≤ w13_4 ∧ w13_4 ≤ 8) → ((8 - w13_4).toInt.toNat) < N9_13 → (FC_X12_howManyReady (view f) o0 = FC_X12_howManyReady_L13 v2_2 x4 N9_13 w13_1 w13_4 (view Gf13)) → cV D L Gf13 A H → va_S A s.heap H locs → lv_has ls 6 [(0, .ref o0), (1, .int w13_1), (2, .ref v2_2), (3, .int x4), (4, .int w13_4)] → W p l e ({ frames := 0, cells := 0, slots := 0, locals := 0 } : Room) s m ([.ref o0] : List Value).toArray below meth c H locs 0 0 (MQ below (va_Qi (fun r9 x9 => (x9.1 = ψ) ∧ (r9, view x9.2) = FC_X12_howManyReady (view f) o0) (cB D ks τ L A N) A) ([.ref o0] : List Value).toArray s 0 0 A) (F0 m 13 ls []) := by
    intro N9_13
    induction N9_13 with
    | zero => intro w13_1 w13_4  Gf13 H locs ls I hi13 hm13; exact absurd hm13 (Nat.not_lt_zero _)
    | succ N9_13 ih13 =>
      intro w13_1 w13_4  Gf13 H locs ls I hi13 hm13 hG V hS hl
      rw [FC_X12_howManyReady_L13] at hG
      refine lv_iload hx hb dX12_howManyReady_13 (lv_at hl 4 rfl) ?_
      refine lv_iload_n hx hb dX12_howManyReady_15 rfl (lv_at hl 3 rfl) ?_
      refine lv_icmp_ge (tgt := 48) hx hb dX12_howManyReady_16 (by decide) (fun c6 => ?_) (fun c6 => ?_)
      · replace hG := gIf_p hG c6
        refine lv_iload_n hx hb dX12_howManyReady_48 rfl (lv_at hl 1 rfl) ?_
        exact cRetI C9 hr hlk hN hNs V I hS (⟨rfl, hG.symm⟩) dX12_howManyReady_49
      · replace hG := gIf_n hG c6
        refine lv_aload_n hx hb dX12_howManyReady_19 rfl (lv_at hl 2 rfl) ?_
        refine lv_iload hx hb dX12_howManyReady_20 (lv_at hl 4 rfl) ?_
        obtain ⟨g7, hf7, hg7⟩ := op14 I t2_2
        refine cLr (t0 := 2) C9 V t2_2.1 hf7 rfl (cvin (N := 8) rfl (hi13.1) (lt_e ex4 c6)) dX12_howManyReady_22 ?_
        obtain ⟨y8, ey8, hy8⟩ := hg7 _ ((ca_lt8 hi13.1 (lt_e ex4 c6)))
        rw [ey8]
        replace hG := gLt_e hG (view_gQs hf7 ey8)
        refine W.eq (g2 := F0 m 23 ls [.ref y8]) rfl ?_
        refine lv_astore (lv' := [(5, .ref y8), (0, .ref o0), (1, .int w13_1), (2, .ref v2_2), (3, .int x4), (4, .int w13_4)]) hx hb dX12_howManyReady_23 hl (by decide) rfl (fun ls hl => ?_)
        refine lv_iload_n hx hb dX12_howManyReady_25 rfl (lv_at hl 2 rfl) ?_
        refine lv_aload hx hb dX12_howManyReady_26 (lv_at hl 0 rfl) ?_
        obtain ⟨v9_0, v9_1, v9_2, v9_3, v9_4, v9_5, v9_6, v9_7, v9_8, v9_9, v9_10, v9_11, v9_12, hf9, t9_7, t9_8, t9_11⟩ := op7 I hy8
        refine cG C9 V hy8.1 hf9 rfl tC_lay7 1 (by decide) tCf_X12_112 (Or.inl rfl) rfl dX12_howManyReady_28 ?_
        replace hG := gLt_e hG (view_gI hf9 rfl)
        refine lv_iconst (v := 1) hx hb dX12_howManyReady_31 (by decide) ?_
        refine lv_icmp_ne (tgt := 39) hx hb dX12_howManyReady_32 (by decide) (fun c10 => ?_) (fun c10 => ?_)
        · replace hG := gIf_n hG c10
          refine lv_iconst (v := 0) hx hb dX12_howManyReady_39 (by decide) ?_
          refine lv_iadd hx hb dX12_howManyReady_40 ?_
          refine lv_topi (fun x11 ex11 => ?_)
          replace hG := gLt_e hG ex11
          refine lv_istore_n (lv' := [(1, .int x11), (5, .ref y8), (0, .ref o0), (2, .ref v2_2), (3, .int x4), (4, .int w13_4)]) hx hb dX12_howManyReady_41 rfl hl (by decide) rfl (fun ls hl => ?_)
          obtain ⟨x12, ex12⟩ : ∃ y : Int32, y = w13_4 + (1) := ⟨_, rfl⟩
          replace hG := gLt_e hG ex12
          refine lv_iinc (v := x12) (lv' := [(4, .int x12), (1, .int x11), (5, .ref y8), (0, .ref o0), (2, .ref v2_2), (3, .int x4)]) hx hb dX12_howManyReady_42 hl (k := 5) rfl (by rw [ex12]; rfl) (by decide) rfl (fun ls hl => ?_)
          refine lv_goto (tgt := 13) hx hb dX12_howManyReady_45 (by decide) ?_
          exact ih13 x11 x12  Gf13 _ _ _ I (ca_up ex12 hi13.1 (lt_e ex4 c6)) (cmsd hm13 (ca_dec ex12 hi13.1 (lt_e ex4 c6)).1 (ca_dec ex12 hi13.1 (lt_e ex4 c6)).2) hG V hS (lv_sub hl [3, 1, 4, 5, 0] rfl)
        · replace hG := gIf_p hG c10
          refine lv_iconst (v := 1) hx hb dX12_howManyReady_35 (by decide) ?_
          refine lv_goto (tgt := 40) hx hb dX12_howManyReady_36 (by decide) ?_
          refine lv_iadd hx hb dX12_howManyReady_40 ?_
          refine lv_topi (fun x13 ex13 => ?_)
          replace hG := gLt_e hG ex13
          refine lv_istore_n (lv' := [(1, .int x13), (5, .ref y8), (0, .ref o0), (2, .ref v2_2), (3, .int x4), (4, .int w13_4)]) hx hb dX12_howManyReady_41 rfl hl (by decide) rfl (fun ls hl => ?_)
          obtain ⟨x14, ex14⟩ : ∃ y : Int32, y = w13_4 + (1) := ⟨_, rfl⟩
          replace hG := gLt_e hG ex14
          refine lv_iinc (v := x14) (lv' := [(4, .int x14), (1, .int x13), (5, .ref y8), (0, .ref o0), (2, .ref v2_2), (3, .int x4)]) hx hb dX12_howManyReady_42 hl (k := 5) rfl (by rw [ex14]; rfl) (by decide) rfl (fun ls hl => ?_)
          refine lv_goto (tgt := 13) hx hb dX12_howManyReady_45 (by decide) ?_
          exact ih13 x13 x14  Gf13 _ _ _ I (ca_up ex14 hi13.1 (lt_e ex4 c6)) (cmsd hm13 (ca_dec ex14 hi13.1 (lt_e ex4 c6)).1 (ca_dec ex14 hi13.1 (lt_e ex4 c6)).2) hG V hS (lv_sub hl [3, 1, 4, 5, 0] rfl)
  exact loop13 ((8 - x5).toInt.toNat + 1) x1 x5  f _ _ _ I (by clear hG V hS hl C9 hts hown hx hb hml hr hlk; subst_vars; decide) (Nat.lt_succ_self _) hG V hS (lv_sub hl [4, 3, 2, 1, 0] rfl)
def FC_X12_readyFrom_L5 (o0 : Nat) (i1 : Int32) : Nat → Int32 → Int32 → xS → Option Nat × xS
  | 0, w5_3, w5_4, XGf5 => ((none : Option Nat), XGf5)
  | N9_5 + 1, w5_3, w5_4, XGf5 => if 8 ≤ (w5_4 : Int32) then (((none : Option Nat), XGf5)) else (gLt ((xR XGf5 o0 2).getD 0 : Nat) (fun v3_2 => gLt ((xQ XGf5 v3_2 ((i1 + w5_4) &&& 7)).getD 0 : Nat) (fun y5 => gLt (xI XGf5 y5 1 : Int32) (fun v6_1 => if (v6_1 : Int32) = 1 then (if (w5_3 : Int32) = 0 then ((((some y5) : Option Nat), XGf5)) else (gLt (w5_3 + (-1) : Int32) (fun x10 => gLt (w5_4 + (1) : Int32) (fun x11 => FC_X12_readyFrom_L5 o0 i1 N9_5 x10 x11 XGf5)))) else (gLt (w5_4 + (1) : Int32) (fun x8 => FC_X12_readyFrom_L5 o0 i1 N9_5 w5_3 x8 XGf5))))))
def FC_X12_readyFrom (X : xS) (o0 : Nat) (i1 : Int32) (i2 : Int32) : Option Nat × xS := gLt (0 : Int32) (fun x1 => FC_X12_readyFrom_L5 o0 i1 ((8 - x1).toInt.toNat + 1) i2 x1 X)
set_option maxHeartbeats 200000 in
set_option maxRecDepth 100000 in
theorem c_X12_readyFrom (l : Launch) (D : va_G) (ks : kS) (τ : Nat → Nat) (L : List Nat) (A : Nat → Prop) (N : State → Prop) (hN : cNk A N)  (ψ : Int32) (f : Nat → va_E) (o0 : Nat) (i1 : Int32) (i2 : Int32) (t_o0 : ty τ L o0 9) : Met l yX12_readyFrom (Cond.code yX12_readyFrom cX12_readyFrom 6 (some (.object "TurnKeeper$Strand")) :: tC) ({ frames := 0, cells := 0, slots := 0, locals := 0 }) (va_Pc [.ref o0, .int i1, .int i2] (cB D ks τ L A N (ψ, f))) (va_Qq (fun r9 x9 => (x9.1 = ψ ∧ tyO τ L r9 7) ∧ (r9, view x9.2) = FC_X12_readyFrom (view f) o0 i1 i2) (cB D ks τ L A N) A) 0 0 A := by
  refine cMet (own := RX12) (by decide) rfl (Nat.le_of_ble_eq_true rfl) ?_
  intro p e s m below meth c ls C9 hml hr hlk V I hNs hl
  have hx := C9.1
  have hb := C9.2.1
  have hown := C9.2.2.1
  have hts := C9.2.2.2.1
  have hS : va_S A s.heap s.heap [] := va_S.rf
  have hG := FC_X12_readyFrom.eq_1 (view f) o0 i1 i2
  have hl : lv_has ls 6 [(0, .ref o0), (1, .int i1), (2, .int i2)] := hl
  refine lv_iload_n hx hb dX12_readyFrom_0 rfl (lv_at hl 2 rfl) ?_
  refine lv_istore_n (lv' := [(3, .int i2), (0, .ref o0), (1, .int i1), (2, .int i2)]) hx hb dX12_readyFrom_1 rfl hl (by decide) rfl (fun ls hl => ?_)
  refine lv_iconst (v := 0) hx hb dX12_readyFrom_2 (by decide) ?_
  refine lv_topi (fun x1 ex1 => ?_)
  replace hG := gLt_e hG ex1
  refine lv_istore (lv' := [(4, .int x1), (3, .int i2), (0, .ref o0), (1, .int i1), (2, .int i2)]) hx hb dX12_readyFrom_3 hl (by decide) rfl (fun ls hl => ?_)
  have loop5 : ∀ (N9_5 : Nat) (w5_3 : Int32) (w5_4 : Int32)  (Gf5 : Nat → va_E) (H : Heap) (locs : List Loc) (ls : Array Slot), cI ks τ L ψ Gf5 → (0 ≤ w5_4 ∧ w5_4 ≤ 8) → ((8 - w5_4).toInt.toNat) < N9_5 → (FC_X12_readyFrom (view f) o0 i1 i2 = FC_X12_readyFrom_L5 o0 i1 N9_5 w5_3 w5_4 (view Gf5)) → cV D L Gf5 A H → va_S A s.heap H locs → lv_has ls 6 [(0, .ref o0), (1, .int i1), (2, .int i2), (3, .int w5_3), (4, .int w5_4)] → W p l e ({ frames := 0, cells := 0, slots := 0, locals := 0 } : Room) s m ([.ref o0, .int i1, .int i2] : List Value).toArray below meth c H locs 0 0 (MQ below (va_Qq (fun r9 x9 => (x9.1 = ψ ∧ tyO τ L r9 7) ∧ (r9, view x9.2) = FC_X12_readyFrom (view f) o0 i1 i2) (cB D ks τ L A N) A) ([.ref o0, .int i1, .int i2] : List Value).toArray s 0 0 A) (F0 m 5 ls []) := by
    intro N9_5
    induction N9_5 with
    | zero => intro w5_3 w5_4  Gf5 H locs ls I hi5 hm5; exact absurd hm5 (Nat.not_lt_zero _)
    | succ N9_5 ih5 =>
      intro w5_3 w5_4  Gf5 H locs ls I hi5 hm5 hG V hS hl
      rw [FC_X12_readyFrom_L5] at hG
      refine lv_iload hx hb dX12_readyFrom_5 (lv_at hl 4 rfl) ?_
      refine lv_bipush (v := 8) hx hb dX12_readyFrom_7 (by decide) ?_
      refine lv_icmp_ge (tgt := 51) hx hb dX12_readyFrom_9 (by decide) (fun c2 => ?_) (fun c2 => ?_)
      · replace hG := gIf_p hG c2
        refine lv_null hx hb dX12_readyFrom_51 ?_
        exact cRetR (v := none) C9 hr hlk hN hNs V I hS (⟨⟨rfl, tyO_n⟩, hG.symm⟩) dX12_readyFrom_52
      · replace hG := gIf_n hG c2
        refine lv_aload_n hx hb dX12_readyFrom_12 rfl (lv_at hl 0 rfl) ?_
        obtain ⟨v3_0, v3_1, v3_2, v3_3, v3_4, v3_5, hf3, t3_0, t3_1, t3_2⟩ := op9 I t_o0
        refine cG C9 V t_o0.1 hf3 rfl tC_lay9 2 (by decide) tCf_X12_24 (Or.inl rfl) rfl dX12_readyFrom_13 ?_
        replace hG := gLt_e hG (view_gR hf3 rfl)
        refine lv_iload_n hx hb dX12_readyFrom_16 rfl (lv_at hl 1 rfl) ?_
        refine lv_iload hx hb dX12_readyFrom_17 (lv_at hl 4 rfl) ?_
        refine lv_iadd hx hb dX12_readyFrom_19 ?_
        refine lv_bipush (v := 7) hx hb dX12_readyFrom_20 (by decide) ?_
        refine lv_iand hx hb dX12_readyFrom_22 ?_
        obtain ⟨g4, hf4, hg4⟩ := op14 I t3_2
        refine cLr (t0 := 2) C9 V t3_2.1 hf4 rfl (cvin (N := 8) rfl ((c_and7 _).1) ((c_and7 _).2)) dX12_readyFrom_23 ?_
        obtain ⟨y5, ey5, hy5⟩ := hg4 _ ((ca_lt8 (c_and7 _).1 (c_and7 _).2))
        rw [ey5]
        replace hG := gLt_e hG (view_gQs hf4 ey5)
        refine W.eq (g2 := F0 m 24 ls [.ref y5]) rfl ?_
        refine lv_astore (lv' := [(5, .ref y5), (0, .ref o0), (1, .int i1), (2, .int i2), (3, .int w5_3), (4, .int w5_4)]) hx hb dX12_readyFrom_24 hl (by decide) rfl (fun ls hl => ?_)
        refine lv_aload hx hb dX12_readyFrom_26 (lv_at hl 0 rfl) ?_
        obtain ⟨v6_0, v6_1, v6_2, v6_3, v6_4, v6_5, v6_6, v6_7, v6_8, v6_9, v6_10, v6_11, v6_12, hf6, t6_7, t6_8, t6_11⟩ := op7 I hy5
        refine cG C9 V hy5.1 hf6 rfl tC_lay7 1 (by decide) tCf_X12_112 (Or.inl rfl) rfl dX12_readyFrom_28 ?_
        replace hG := gLt_e hG (view_gI hf6 rfl)
        refine lv_iconst (v := 1) hx hb dX12_readyFrom_31 (by decide) ?_
        refine lv_icmp_ne (tgt := 45) hx hb dX12_readyFrom_32 (by decide) (fun c7 => ?_) (fun c7 => ?_)
        · replace hG := gIf_n hG c7
          obtain ⟨x8, ex8⟩ : ∃ y : Int32, y = w5_4 + (1) := ⟨_, rfl⟩
          replace hG := gLt_e hG ex8
          refine lv_iinc (v := x8) (lv' := [(4, .int x8), (5, .ref y5), (0, .ref o0), (1, .int i1), (2, .int i2), (3, .int w5_3)]) hx hb dX12_readyFrom_45 hl (k := 5) rfl (by rw [ex8]; rfl) (by decide) rfl (fun ls hl => ?_)
          refine lv_goto (tgt := 5) hx hb dX12_readyFrom_48 (by decide) ?_
          exact ih5 w5_3 x8  Gf5 _ _ _ I (ca_up ex8 hi5.1 (ci_lt c2)) (cmsd hm5 (ca_dec ex8 hi5.1 (ci_lt c2)).1 (ca_dec ex8 hi5.1 (ci_lt c2)).2) hG V hS (lv_sub hl [2, 3, 4, 5, 0] rfl)
        · replace hG := gIf_p hG c7
          refine lv_iload_n hx hb dX12_readyFrom_35 rfl (lv_at hl 4 rfl) ?_
          refine lv_if_ne (tgt := 42) hx hb dX12_readyFrom_36 (by decide) (fun c9 => ?_) (fun c9 => ?_)
          · replace hG := gIf_n hG c9
            obtain ⟨x10, ex10⟩ : ∃ y : Int32, y = w5_3 + (-1) := ⟨_, rfl⟩
            replace hG := gLt_e hG ex10
            refine lv_iinc (v := x10) (lv' := [(3, .int x10), (5, .ref y5), (0, .ref o0), (1, .int i1), (2, .int i2), (4, .int w5_4)]) hx hb dX12_readyFrom_42 hl (k := 4) rfl (by rw [ex10]; rfl) (by decide) rfl (fun ls hl => ?_)
            obtain ⟨x11, ex11⟩ : ∃ y : Int32, y = w5_4 + (1) := ⟨_, rfl⟩
            replace hG := gLt_e hG ex11
            refine lv_iinc (v := x11) (lv' := [(4, .int x11), (3, .int x10), (5, .ref y5), (0, .ref o0), (1, .int i1), (2, .int i2)]) hx hb dX12_readyFrom_45 hl (k := 5) rfl (by rw [ex11]; rfl) (by decide) rfl (fun ls hl => ?_)
            refine lv_goto (tgt := 5) hx hb dX12_readyFrom_48 (by decide) ?_
            exact ih5 x10 x11  Gf5 _ _ _ I (ca_up ex11 hi5.1 (ci_lt c2)) (cmsd hm5 (ca_dec ex11 hi5.1 (ci_lt c2)).1 (ca_dec ex11 hi5.1 (ci_lt c2)).2) hG V hS (lv_sub hl [3, 4, 5, 1, 0] rfl)
          · replace hG := gIf_p hG c9
            refine lv_aload hx hb dX12_readyFrom_39 (lv_at hl 0 rfl) ?_
            exact cRetR (v := (some y5)) C9 hr hlk hN hNs V I hS (⟨⟨rfl, tyO_s hy5⟩, hG.symm⟩) dX12_readyFrom_41
  exact loop5 ((8 - x1).toInt.toNat + 1) i2 x1  f _ _ _ I (by clear hG V hS hl C9 hts hown hx hb hml hr hlk; subst_vars; decide) (Nat.lt_succ_self _) hG V hS (lv_sub hl [2, 3, 4, 1, 0] rfl)
def FC_X12_fallAsleep (X : xS) (o0 : Nat) (o1 : Nat) (i1 : Int32) : xS := if 1 ≤ (i1 : Int32) then (gC (FC_X8_refusesToWait X o1) (fun r5 Xf3 => if (r5 : Int32) = 0 then (gLt (xJ Xf3 o0 3 : Int64) (fun v7_3 => gLt ((v7_3 + (Int32.toInt64 i1)) : Int64) (fun x9 => gLt (xwJ Xf3 o1 6 x9 : xS) (fun Xf10 => gLt (xwI Xf10 o1 1 3 : xS) (fun Xf13 => Xf13))))) else (Xf3))) else (gLt (FC_X8_goOn X o1 : xS) (fun Xf17 => Xf17))
set_option maxHeartbeats 200000 in
set_option maxRecDepth 100000 in
theorem c_X12_fallAsleep (l : Launch) (D : va_G) (ks : kS) (τ : Nat → Nat) (L : List Nat) (A : Nat → Prop) (N : State → Prop) (hN : cNk A N)  (ψ : Int32) (f : Nat → va_E) (o0 : Nat) (o1 : Nat) (i1 : Int32) (t_o0 : ty τ L o0 9) (t_o1 : ty τ L o1 7) : Met l yX12_fallAsleep (Cond.code yX12_fallAsleep cX12_fallAsleep 3 none :: tC) ({ frames := 3, cells := 0, slots := 0, locals := 63 }) (va_Pc [.ref o0, .ref o1, .int i1] (cB D ks τ L A N (ψ, f))) (va_Qv (fun x9 => (x9.1 = ψ) ∧ view x9.2 = FC_X12_fallAsleep (view f) o0 o1 i1) (cB D ks τ L A N) A) 0 0 A := by
  refine cMet (own := RX12) (by decide) rfl (Nat.le_of_ble_eq_true rfl) ?_
  intro p e s m below meth c ls C9 hml hr hlk V I hNs hl
  have hx := C9.1
  have hb := C9.2.1
  have hown := C9.2.2.1
  have hts := C9.2.2.2.1
  have hS : va_S A s.heap s.heap [] := va_S.rf
  have hG := FC_X12_fallAsleep.eq_1 (view f) o0 o1 i1
  have hl : lv_has ls 3 [(0, .ref o0), (1, .ref o1), (2, .int i1)] := hl
  refine lv_iload_n hx hb dX12_fallAsleep_0 rfl (lv_at hl 2 rfl) ?_
  refine lv_iconst (v := 1) hx hb dX12_fallAsleep_1 (by decide) ?_
  refine lv_icmp_ge (tgt := 12) hx hb dX12_fallAsleep_2 (by decide) (fun c1 => ?_) (fun c1 => ?_)
  · replace hG := gIf_p hG c1
    refine lv_aload_n hx hb dX12_fallAsleep_12 rfl (lv_at hl 1 rfl) ?_
    obtain ⟨v2_0, v2_1, v2_2, v2_3, v2_4, v2_5, v2_6, v2_7, v2_8, v2_9, v2_10, v2_11, v2_12, hf2, t2_7, t2_8, t2_11⟩ := op7 I t_o1
    refine cGoI (cRunV (As := []) (rest := []) C9 hml hN hNs V I hS t_o1.1 hf2 rfl (c_X8_refusesToWait l D ks τ L A N hN  ψ f o1 t_o1 ) gC_X12_277 okC_X8_refusesToWait ⟨rfl, rfl, Nat.le_of_ble_eq_true rfl, Nat.le_of_ble_eq_true rfl⟩ hl.1 rfl (Nat.le_of_ble_eq_true rfl) dX12_fallAsleep_13 ⟨Nat.zero_le _, Nat.zero_le _⟩) hS (fun r5 p4 f3 H locs hqf3 V I hS => ?_)
    obtain ⟨hqf3, ghqf3⟩ := hqf3
    replace hG := gC_e hG ghqf3
    have I : cI ks τ L ψ f3 := by rw [show p4 = ψ from hqf3] at I; exact I
    refine lv_if_ne (tgt := 35) hx hb dX12_fallAsleep_16 (by decide) (fun c6 => ?_) (fun c6 => ?_)
    · replace hG := gIf_n hG c6
      exact cRetV C9 hr hlk hN hNs V I hS (⟨rfl, hG.symm⟩) dX12_fallAsleep_35
    · replace hG := gIf_p hG c6
      refine lv_aload_n hx hb dX12_fallAsleep_19 rfl (lv_at hl 1 rfl) ?_
      refine lv_aload_n hx hb dX12_fallAsleep_20 rfl (lv_at hl 0 rfl) ?_
      obtain ⟨v7_0, v7_1, v7_2, v7_3, v7_4, v7_5, hf7, t7_0, t7_1, t7_2⟩ := op9 I t_o0
      refine cG C9 V t_o0.1 hf7 rfl tC_lay9 3 (by decide) tCf_X12_129 (Or.inl rfl) rfl dX12_fallAsleep_21 ?_
      replace hG := gLt_e hG (view_gJ hf7 rfl)
      refine lv_iload_n hx hb dX12_fallAsleep_24 rfl (lv_at hl 2 rfl) ?_
      refine lv_i2l hx hb dX12_fallAsleep_25 rfl ?_
      refine lv_ladd hx hb dX12_fallAsleep_26 ?_
      obtain ⟨v8_0, v8_1, v8_2, v8_3, v8_4, v8_5, v8_6, v8_7, v8_8, v8_9, v8_10, v8_11, v8_12, hf8, t8_7, t8_8, t8_11⟩ := op7 I t_o1
      refine lv_topl (fun x9 ex9 => ?_)
      replace hG := gLt_e hG ex9
      refine cP (v := .long x9) (ty := .long) C9 V hS t_o1.1 hf8 rfl tC_lay7 tyX8 tyX8_ok nmX8 6 (by decide) tCf_X12_133 rfl rfl (by decide +kernel) rfl rfl (Nat.le_of_ble_eq_true rfl) dX12_fallAsleep_27 (fun f10 H locs ef10 V hS => ?_)
      replace hG := gLt_e hG (view_J hf8 rfl ef10)
      have hf11 : f10 o1 = .inr (7, [.int v8_0, .int v8_1, .int v8_2, .int v8_3, .int v8_4, .int v8_5, .long x9, va_rf v8_7, va_rf v8_8, .int v8_9, .int v8_10, .ref v8_11, .int v8_12]) := up_s ef10
      have I := cI_up I t_o1.2 ef10 (mk7 t8_7 t8_8 t8_11)
      have hf12 := up_n ef10 t_o1.2 t_o0.2 (by first | decide | omega) hf7
      refine lv_aload_n hx hb dX12_fallAsleep_30 rfl (lv_at hl 1 rfl) ?_
      refine lv_iconst (v := 3) hx hb dX12_fallAsleep_31 (by decide) ?_
      refine cP (v := .int 3) (ty := .int) C9 V hS t_o1.1 hf11 rfl tC_lay7 tyX8 tyX8_ok nmX8 1 (by decide) tCf_X12_112 rfl rfl (by decide +kernel) rfl rfl (Nat.le_of_ble_eq_true rfl) dX12_fallAsleep_32 (fun f13 H locs ef13 V hS => ?_)
      replace hG := gLt_e hG (view_I hf11 rfl ef13)
      have hf14 : f13 o1 = .inr (7, [.int v8_0, .int 3, .int v8_2, .int v8_3, .int v8_4, .int v8_5, .long x9, va_rf v8_7, va_rf v8_8, .int v8_9, .int v8_10, .ref v8_11, .int v8_12]) := up_s ef13
      have I := cI_up I t_o1.2 ef13 (mk7 t8_7 t8_8 t8_11)
      have hf15 := up_n ef13 t_o1.2 t_o0.2 (by first | decide | omega) hf12
      exact cRetV C9 hr hlk hN hNs V I hS (⟨rfl, hG.symm⟩) dX12_fallAsleep_35
  · replace hG := gIf_n hG c1
    refine lv_aload_n hx hb dX12_fallAsleep_5 rfl (lv_at hl 1 rfl) ?_
    obtain ⟨v16_0, v16_1, v16_2, v16_3, v16_4, v16_5, v16_6, v16_7, v16_8, v16_9, v16_10, v16_11, v16_12, hf16, t16_7, t16_8, t16_11⟩ := op7 I t_o1
    refine cGoV (cRunV (As := []) (rest := []) C9 hml hN hNs V I hS t_o1.1 hf16 rfl (c_X8_goOn l D ks τ L A N hN  ψ f o1 t_o1 ) gC_X12_136 okC_X8_goOn ⟨rfl, rfl, Nat.le_of_ble_eq_true rfl, Nat.le_of_ble_eq_true rfl⟩ hl.1 rfl (Nat.le_of_ble_eq_true rfl) dX12_fallAsleep_6 ⟨Nat.zero_le _, Nat.zero_le _⟩) hS (fun p18 f17 H locs hqf17 V I hS => ?_)
    obtain ⟨hqf17, ghqf17⟩ := hqf17
    replace hG := gLt_e hG (ghqf17)
    have I : cI ks τ L ψ f17 := by rw [show p18 = ψ from hqf17] at I; exact I
    refine lv_goto (tgt := 35) hx hb dX12_fallAsleep_9 (by decide) ?_
    exact cRetV C9 hr hlk hN hNs V I hS (⟨rfl, hG.symm⟩) dX12_fallAsleep_35

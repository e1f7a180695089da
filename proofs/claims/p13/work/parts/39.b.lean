theorem ru_0 {x n : Int32} (e : x = 0) (h : 0 ≤ n) : 0 ≤ x ∧ x ≤ n := by subst e; exact ⟨by decide, h⟩
theorem ru_n {x : Int32} (h : 1 ≤ x) : ¬ x = 0 := by grind
theorem fd_0 {x : Int32} (h : 0 ≤ x ∧ x ≤ 1600) (c : x + 20 ≤ 1600) : 0 ≤ x ∧ x ≤ 1580 := by grind
theorem fd_1 {x y : Int32} (e : y = x + 4) (h : 0 ≤ x ∧ x ≤ 1580) : 0 ≤ y ∧ y ≤ 1584 := by grind
theorem fd_2 {x y : Int32} (e : y = x + 4) (h : 0 ≤ x ∧ x ≤ 1584) : 0 ≤ y ∧ y ≤ 1588 := by grind
theorem fd_3 {x y : Int32} (e : y = x + 4) (h : 0 ≤ x ∧ x ≤ 1588) : 0 ≤ y ∧ y ≤ 1592 := by grind
theorem fd_4 {x y : Int32} (e : y = x + 4) (h : 0 ≤ x ∧ x ≤ 1592) : 0 ≤ y ∧ y ≤ 1596 := by grind
theorem fd_e {x a b c d y : Int32} (h1 : a = x + 4) (h2 : b = a + 4) (h3 : c = b + 4) (h4 : d = c + 4) (h5 : y = d + 4) (q : x + 20 ≤ 1600) : y = x + 20 ∧ y = x + 20 ∧ x + 20 ≤ 1600 := by
  have z : y = x + 20 := by subst h1 h2 h3 h4 h5; rw [Int32.add_assoc, Int32.add_assoc, Int32.add_assoc, Int32.add_assoc]; rfl
  exact ⟨z, z, q⟩
theorem en_a {x n : Int32} (h : x < 0) : ¬ (0 ≤ x ∧ x ≤ n) := fun q => absurd (Int32.lt_of_le_of_lt q.1 h) (by decide)
theorem en_b {x n : Int32} (h : ¬ x ≤ n) : ¬ (0 ≤ x ∧ x ≤ n) := fun q => h q.2
theorem en_l {x n : Int32} (h0 : 0 ≤ x) (h1 : x ≤ n) (h : 0 ≤ n ∧ n ≤ 1600) : 0 ≤ x ∧ x ≤ 1600 := ⟨h0, Int32.le_trans h1 h.2⟩

def FC_X12_strandAt (X : xS) (o0 : Nat) (i1 : Int32) : Int32 × Nat × xS := if (i1 : Int32) < 0 then (((1 : Int32), (0 : Nat), X)) else (gLt ((xR X o0 2).getD 0 : Nat) (fun v2_2 => if (i1 : Int32) < 8 then (gLt ((xQ X v2_2 i1).getD 0 : Nat) (fun y5 => ((0 : Int32), (y5 : Nat), X))) else (((1 : Int32), (0 : Nat), X))))
set_option maxHeartbeats 200000 in
set_option maxRecDepth 100000 in
theorem c_X12_strandAt (l : Launch) (D : va_G) (ks : kS) (τ : Nat → Nat) (L : List Nat) (A : Nat → Prop) (N : State → Prop) (hN : cNk A N) (κ : kC) (hN0 : ∀ U, N U → N0 κ A U) (hlt : l.stackTraces = false) (ψ : Int32) (f : Nat → va_E) (o0 : Nat) (i1 : Int32) (t_o0 : ty τ L o0 9) : vx_Met l yX12_strandAt (Cond.code yX12_strandAt cX12_strandAt 2 (some (.object "TurnKeeper$Strand")) :: tC) ({ frames := 6, cells := 1, slots := 6, locals := 100 }) (va_Pc [.ref o0, .int i1] (cB D ks τ L A N (ψ, f))) (va_Qq (fun r9 x9 => (x9 = (ψ, f)) ∧ ∃ y9, r9 = some y9 ∧ ty τ L y9 7 ∧ ((0 : Int32), y9, view f) = FC_X12_strandAt (view f) o0 i1) (cB D ks τ L A N) A) (cX D ks τ L A ["java/lang/IllegalArgumentException"] (fun e9 x9 => (x9.1 = ψ) ∧ ((e9 = "java/lang/IllegalArgumentException" ∧ ((1 : Int32), (0 : Nat), view x9.2) = FC_X12_strandAt (view f) o0 i1)))) 1 6 A := by
  refine cMetX (own := RX12) (by decide) rfl (Nat.le_of_ble_eq_true rfl) ?_
  intro p e s m below meth c ls C9 hml hr hlk hET V I hNs hl
  have hx := C9.1
  have hb := C9.2.1
  have hown := C9.2.2.1
  have hts := C9.2.2.2.1
  have h0 := hN0 s hNs
  have hS : va_S A s.heap s.heap [] := va_S.rf
  have hG := FC_X12_strandAt.eq_1 (view f) o0 i1
  have hl : lv_has ls 2 [(0, .ref o0), (1, .int i1)] := hl
  refine lv_iload_n hx hb dX12_strandAt_0 rfl (lv_at hl 1 rfl) ?_
  refine lv_if_lt (tgt := 13) hx hb dX12_strandAt_1 (by decide) (fun c1 => ?_) (fun c1 => ?_)
  · replace hG := gIf_p hG c1
    exact cThr (text := "t is out of range") (names := xNm) C9 h0 V I hS hlt hET hlk hml hl.1 (xw_48_52 hts h0) (by simp [nMs]) (by simp) (⟨rfl, ⟨rfl, hG.symm⟩⟩) ⟨Nat.le_of_ble_eq_true rfl, Nat.le_of_ble_eq_true rfl, Nat.le_of_ble_eq_true rfl, Nat.le_of_ble_eq_true rfl⟩ ⟨Nat.le_of_ble_eq_true rfl, Nat.le_of_ble_eq_true rfl⟩ dX12_strandAt_13 dX12_strandAt_16 dX12_strandAt_17 dX12_strandAt_19 dX12_strandAt_22
  · replace hG := gIf_n hG c1
    refine lv_iload_n hx hb dX12_strandAt_4 rfl (lv_at hl 1 rfl) ?_
    refine lv_aload_n hx hb dX12_strandAt_5 rfl (lv_at hl 0 rfl) ?_
    obtain ⟨v2_0, v2_1, v2_2, v2_3, v2_4, v2_5, hf2, t2_0, t2_1, t2_2⟩ := op9 I t_o0
    refine cG C9 V t_o0.1 hf2 rfl tC_lay9 2 (by decide) tCf_X12_24 (Or.inl rfl) rfl dX12_strandAt_6 ?_
    replace hG := gLt_e hG (view_gR hf2 rfl)
    obtain ⟨g3, hf3, hg3⟩ := op14 I t2_2
    refine cAl (t0 := 2) (v := 8) C9 V t2_2.1 hf3 rfl (by first | rfl | decide) dX12_strandAt_9 ?_
    refine lv_icmp_lt (tgt := 23) hx hb dX12_strandAt_10 (by decide) (fun c4 => ?_) (fun c4 => ?_)
    · replace hG := gIf_p hG c4
      refine lv_aload_n hx hb dX12_strandAt_23 rfl (lv_at hl 0 rfl) ?_
      refine cG C9 V t_o0.1 hf2 rfl tC_lay9 2 (by decide) tCf_X12_24 (Or.inl rfl) rfl dX12_strandAt_24 ?_
      refine lv_iload_n hx hb dX12_strandAt_27 rfl (lv_at hl 1 rfl) ?_
      refine cLr (t0 := 2) C9 V t2_2.1 hf3 rfl (cvin (N := 8) rfl (ci_le c1) (c4)) dX12_strandAt_28 ?_
      obtain ⟨y5, ey5, hy5⟩ := hg3 _ ((ca_lt8 (ci_le c1) c4))
      rw [ey5]
      replace hG := gLt_e hG (view_gQs hf3 ey5)
      refine W.eq (g2 := F0 m 29 ls [.ref y5]) rfl ?_
      exact cRx (Nat.le_of_ble_eq_true rfl) (Nat.le_of_ble_eq_true rfl) (cRetW C9 hr hlk hN hNs V I hS (⟨rfl, _, rfl, hy5, hG.symm⟩) dX12_strandAt_29)
    · replace hG := gIf_n hG c4
      exact cThr (text := "t is out of range") (names := xNm) C9 h0 V I hS hlt hET hlk hml hl.1 (xw_48_52 hts h0) (by simp [nMs]) (by simp) (⟨rfl, ⟨rfl, hG.symm⟩⟩) ⟨Nat.le_of_ble_eq_true rfl, Nat.le_of_ble_eq_true rfl, Nat.le_of_ble_eq_true rfl, Nat.le_of_ble_eq_true rfl⟩ ⟨Nat.le_of_ble_eq_true rfl, Nat.le_of_ble_eq_true rfl⟩ dX12_strandAt_13 dX12_strandAt_16 dX12_strandAt_17 dX12_strandAt_19 dX12_strandAt_22
def FC_X12_step (X : xS) (o0 : Nat) (i1 : Int32) : Int32 × Int32 × xS := gT (FC_X12_strandAt X o0 i1) (0 : Int32) (fun y5 X => gLt (xI X y5 1 : Int32) (fun v6_1 => if (v6_1 : Int32) = 1 then (gLt (FC_X12_takeTurn X o0 (some y5) : xS) (fun Xf8 => gLt (xI Xf8 y5 1 : Int32) (fun v11_1 => ((0 : Int32), (v11_1 : Int32), Xf8)))) else (((0 : Int32), (v6_1 : Int32), X))))
set_option maxHeartbeats 200000 in
set_option maxRecDepth 100000 in
theorem c_X12_step (l : Launch) (D : va_G) (ks : kS) (τ : Nat → Nat) (L : List Nat) (A : Nat → Prop) (N : State → Prop) (hN : cNk A N) (κ : kC) (hN0 : ∀ U, N U → N0 κ A U) (hlt : l.stackTraces = false) (ψ : Int32) (f : Nat → va_E) (o0 : Nat) (i1 : Int32) (t_o0 : ty τ L o0 9) : vx_Met l yX12_step (Cond.code yX12_step cX12_step 3 (some .int) :: tC) ({ frames := 7, cells := 1, slots := 6, locals := 133 }) (va_Pc [.ref o0, .int i1] (cB D ks τ L A N (ψ, f))) (va_Qi (fun r9 x9 => (x9.1 = ψ) ∧ ((0 : Int32), r9, view x9.2) = FC_X12_step (view f) o0 i1) (cB D ks τ L A N) A) (cX D ks τ L A ["java/lang/IllegalArgumentException"] (fun e9 x9 => (x9.1 = ψ) ∧ ((e9 = "java/lang/IllegalArgumentException" ∧ ((1 : Int32), (0 : Int32), view x9.2) = FC_X12_step (view f) o0 i1)))) 1 6 A := by
  refine cMetX (own := RX12) (by decide) rfl (Nat.le_of_ble_eq_true rfl) ?_
  intro p e s m below meth c ls C9 hml hr hlk hET V I hNs hl
  have hx := C9.1
  have hb := C9.2.1
  have hown := C9.2.2.1
  have hts := C9.2.2.2.1
  have h0 := hN0 s hNs
  have hS : va_S A s.heap s.heap [] := va_S.rf
  have hG := FC_X12_step.eq_1 (view f) o0 i1
  have hl : lv_has ls 3 [(0, .ref o0), (1, .int i1)] := hl
  refine lv_aload_n hx hb dX12_step_0 rfl (lv_at hl 0 rfl) ?_
  refine lv_iload_n hx hb dX12_step_1 rfl (lv_at hl 1 rfl) ?_
  obtain ⟨v1_0, v1_1, v1_2, v1_3, v1_4, v1_5, hf1, t1_0, t1_1, t1_2⟩ := op9 I t_o0
  refine cGoQX (cRunX (As := [.int i1]) (rest := []) C9 hml hN hNs V I hS t_o0.1 hf1 rfl (c_X12_strandAt l D ks τ L A N hN κ hN0 hlt ψ f o0 i1 t_o0 ) gC_X12_108 okC_X12_strandAt ⟨rfl, rfl, Nat.le_of_ble_eq_true rfl, Nat.le_of_ble_eq_true rfl⟩ hl.1 rfl (Nat.le_of_ble_eq_true rfl) dX12_step_2 ⟨Nat.le_of_ble_eq_true rfl, Nat.le_of_ble_eq_true rfl⟩) hS hET hlk (by simp) (fun e9 x9 h9 => ⟨h9.1, ⟨h9.2.1, (gT_x hG h9.2.2 (by decide)).symm⟩⟩) ⟨Nat.le_of_ble_eq_true rfl, Nat.le_of_ble_eq_true rfl⟩ (fun r4 p3 f2 H locs hqf2 V I hS => ?_)
  obtain ⟨hqf2, y5, ey5, hy5, ghqf2⟩ := hqf2
  subst ey5
  replace hG := gT_e hG ghqf2
  have V : cV D L f A H := by rw [show f2 = f from congrArg Prod.snd hqf2] at V; exact V
  have I : cI ks τ L ψ f := by rw [show f2 = f from congrArg Prod.snd hqf2, show p3 = ψ from congrArg Prod.fst hqf2] at I; exact I
  refine W.eq (g2 := F0 m 5 ls [.ref y5]) rfl ?_
  refine lv_astore_n (lv' := [(2, .ref y5), (0, .ref o0), (1, .int i1)]) hx hb dX12_step_5 rfl hl (by decide) rfl (fun ls hl => ?_)
  refine lv_aload_n hx hb dX12_step_6 rfl (lv_at hl 0 rfl) ?_
  obtain ⟨v6_0, v6_1, v6_2, v6_3, v6_4, v6_5, v6_6, v6_7, v6_8, v6_9, v6_10, v6_11, v6_12, hf6, t6_7, t6_8, t6_11⟩ := op7 I hy5
  refine cG C9 V hy5.1 hf6 rfl tC_lay7 1 (by decide) tCf_X12_112 (Or.inl rfl) rfl dX12_step_7 ?_
  replace hG := gLt_e hG (view_gI hf6 rfl)
  refine lv_iconst (v := 1) hx hb dX12_step_10 (by decide) ?_
  refine lv_icmp_ne (tgt := 19) hx hb dX12_step_11 (by decide) (fun c7 => ?_) (fun c7 => ?_)
  · replace hG := gIf_n hG c7
    refine lv_aload_n hx hb dX12_step_19 rfl (lv_at hl 0 rfl) ?_
    refine cG C9 V hy5.1 hf6 rfl tC_lay7 1 (by decide) tCf_X12_112 (Or.inl rfl) rfl dX12_step_20 ?_
    exact cRx (Nat.le_of_ble_eq_true rfl) (Nat.le_of_ble_eq_true rfl) (cRetI C9 hr hlk hN hNs V I hS (⟨rfl, hG.symm⟩) dX12_step_23)
  · replace hG := gIf_p hG c7
    refine lv_aload_n hx hb dX12_step_14 rfl (lv_at hl 1 rfl) ?_
    refine lv_aload_n hx hb dX12_step_15 rfl (lv_at hl 0 rfl) ?_
    refine cGoV (cRunV (As := [.ref y5]) (rest := []) C9 hml hN hNs V I hS t_o0.1 hf1 rfl (c_X12_takeTurn l D ks τ L A N hN κ hN0 ψ f o0 (some y5) t_o0 (tyO_s hy5) ) gC_X12_115 okC_X12_takeTurn ⟨rfl, rfl, Nat.le_of_ble_eq_true rfl, Nat.le_of_ble_eq_true rfl⟩ hl.1 rfl (Nat.le_of_ble_eq_true rfl) dX12_step_16 ⟨Nat.le_of_ble_eq_true rfl, Nat.le_of_ble_eq_true rfl⟩) hS (fun p9 f8 H locs hqf8 V I hS => ?_)
    obtain ⟨hqf8, ghqf8⟩ := hqf8
    replace hG := gLt_e hG (ghqf8)
    have I : cI ks τ L ψ f8 := by rw [show p9 = ψ from hqf8] at I; exact I
    refine lv_aload_n hx hb dX12_step_19 rfl (lv_at hl 0 rfl) ?_
    obtain ⟨v11_0, v11_1, v11_2, v11_3, v11_4, v11_5, v11_6, v11_7, v11_8, v11_9, v11_10, v11_11, v11_12, hf11, t11_7, t11_8, t11_11⟩ := op7 I hy5
    refine cG C9 V hy5.1 hf11 rfl tC_lay7 1 (by decide) tCf_X12_112 (Or.inl rfl) rfl dX12_step_20 ?_
    replace hG := gLt_e hG (view_gI hf11 rfl)
    exact cRx (Nat.le_of_ble_eq_true rfl) (Nat.le_of_ble_eq_true rfl) (cRetI C9 hr hlk hN hNs V I hS (⟨rfl, hG.symm⟩) dX12_step_23)
def FC_X12_interrupt (X : xS) (o0 : Nat) (i1 : Int32) : Int32 × Int32 × xS := gT (FC_X12_strandAt X o0 i1) (0 : Int32) (fun y5 X => gLt (xI X y5 1 : Int32) (fun v6_1 => if (v6_1 : Int32) = 1 then (gLt (xwI X y5 5 1 : xS) (fun Xf48 => ((0 : Int32), (1 : Int32), Xf48))) else (if (v6_1 : Int32) = 2 then (gO (xR X y5 7) (gLt (FC_X8_goOnWith X y5 (-2) : xS) (fun Xf11 => ((0 : Int32), (1 : Int32), Xf11))) (fun y9 => if xC X y9 = 3 then (gLt (xI X y5 9 : Int32) (fun v6_9 => if (v6_9 : Int32) ≤ 0 then (gLt (FC_X8_goOnWith X y5 (-2) : xS) (fun Xf18 => ((0 : Int32), (1 : Int32), Xf18))) else (gLt (FC_X4_interruptWait X y9 y5 : xS) (fun Xf21 => ((0 : Int32), (1 : Int32), Xf21))))) else (gLt (FC_X8_goOnWith X y5 (-2) : xS) (fun Xf25 => ((0 : Int32), (1 : Int32), Xf25))))) else (if (v6_1 : Int32) = 3 then (gO (xR X y5 7) (gLt (FC_X8_goOnWith X y5 (-2) : xS) (fun Xf31 => ((0 : Int32), (1 : Int32), Xf31))) (fun y29 => if xC X y29 = 3 then (gLt (xI X y5 9 : Int32) (fun v6_9 => if (v6_9 : Int32) ≤ 0 then (gLt (FC_X8_goOnWith X y5 (-2) : xS) (fun Xf38 => ((0 : Int32), (1 : Int32), Xf38))) else (gLt (FC_X4_interruptWait X y29 y5 : xS) (fun Xf41 => ((0 : Int32), (1 : Int32), Xf41))))) else (gLt (FC_X8_goOnWith X y5 (-2) : xS) (fun Xf45 => ((0 : Int32), (1 : Int32), Xf45))))) else (((0 : Int32), (0 : Int32), X))))))
set_option maxHeartbeats 200000 in
set_option maxRecDepth 100000 in
theorem c_X12_interrupt (l : Launch) (D : va_G) (ks : kS) (τ : Nat → Nat) (L : List Nat) (A : Nat → Prop) (N : State → Prop) (hN : cNk A N) (κ : kC) (hN0 : ∀ U, N U → N0 κ A U) (hlt : l.stackTraces = false) (ψ : Int32) (f : Nat → va_E) (o0 : Nat) (i1 : Int32) (t_o0 : ty τ L o0 9) : vx_Met l yX12_interrupt (Cond.code yX12_interrupt cX12_interrupt 5 (some .int) :: tC) ({ frames := 7, cells := 1, slots := 6, locals := 121 }) (va_Pc [.ref o0, .int i1] (cB D ks τ L A N (ψ, f))) (va_Qi (fun r9 x9 => (x9.1 = ψ) ∧ ((0 : Int32), r9, view x9.2) = FC_X12_interrupt (view f) o0 i1) (cB D ks τ L A N) A) (cX D ks τ L A ["java/lang/IllegalArgumentException"] (fun e9 x9 => (x9.1 = ψ) ∧ ((e9 = "java/lang/IllegalArgumentException" ∧ ((1 : Int32), (0 : Int32), view x9.2) = FC_X12_interrupt (view f) o0 i1)))) 1 6 A := by
  refine cMetX (own := RX12) (by decide) rfl (Nat.le_of_ble_eq_true rfl) ?_
  intro p e s m below meth c ls C9 hml hr hlk hET V I hNs hl
  have hx := C9.1
  have hb := C9.2.1
  have hown := C9.2.2.1
  have hts := C9.2.2.2.1
  have h0 := hN0 s hNs
  have hS : va_S A s.heap s.heap [] := va_S.rf
  have hG := FC_X12_interrupt.eq_1 (view f) o0 i1
  have hl : lv_has ls 5 [(0, .ref o0), (1, .int i1)] := hl
  refine lv_aload_n hx hb dX12_interrupt_0 rfl (lv_at hl 0 rfl) ?_
  refine lv_iload_n hx hb dX12_interrupt_1 rfl (lv_at hl 1 rfl) ?_
  obtain ⟨v1_0, v1_1, v1_2, v1_3, v1_4, v1_5, hf1, t1_0, t1_1, t1_2⟩ := op9 I t_o0
  refine cGoQX (cRunX (As := [.int i1]) (rest := []) C9 hml hN hNs V I hS t_o0.1 hf1 rfl (c_X12_strandAt l D ks τ L A N hN κ hN0 hlt ψ f o0 i1 t_o0 ) gC_X12_108 okC_X12_strandAt ⟨rfl, rfl, Nat.le_of_ble_eq_true rfl, Nat.le_of_ble_eq_true rfl⟩ hl.1 rfl (Nat.le_of_ble_eq_true rfl) dX12_interrupt_2 ⟨Nat.le_of_ble_eq_true rfl, Nat.le_of_ble_eq_true rfl⟩) hS hET hlk (by simp) (fun e9 x9 h9 => ⟨h9.1, ⟨h9.2.1, (gT_x hG h9.2.2 (by decide)).symm⟩⟩) ⟨Nat.le_of_ble_eq_true rfl, Nat.le_of_ble_eq_true rfl⟩ (fun r4 p3 f2 H locs hqf2 V I hS => ?_)
  obtain ⟨hqf2, y5, ey5, hy5, ghqf2⟩ := hqf2
  subst ey5
  replace hG := gT_e hG ghqf2
  have V : cV D L f A H := by rw [show f2 = f from congrArg Prod.snd hqf2] at V; exact V
  have I : cI ks τ L ψ f := by rw [show f2 = f from congrArg Prod.snd hqf2, show p3 = ψ from congrArg Prod.fst hqf2] at I; exact I
  refine W.eq (g2 := F0 m 5 ls [.ref y5]) rfl ?_
  refine lv_astore_n (lv' := [(2, .ref y5), (0, .ref o0), (1, .int i1)]) hx hb dX12_interrupt_5 rfl hl (by decide) rfl (fun ls hl => ?_)
  refine lv_aload_n hx hb dX12_interrupt_6 rfl (lv_at hl 0 rfl) ?_
  obtain ⟨v6_0, v6_1, v6_2, v6_3, v6_4, v6_5, v6_6, v6_7, v6_8, v6_9, v6_10, v6_11, v6_12, hf6, t6_7, t6_8, t6_11⟩ := op7 I hy5
  refine cG C9 V hy5.1 hf6 rfl tC_lay7 1 (by decide) tCf_X12_112 (Or.inl rfl) rfl dX12_interrupt_7 ?_
  replace hG := gLt_e hG (view_gI hf6 rfl)
  refine lv_iconst (v := 1) hx hb dX12_interrupt_10 (by decide) ?_
  refine lv_icmp_ne (tgt := 21) hx hb dX12_interrupt_11 (by decide) (fun c7 => ?_) (fun c7 => ?_)
  · replace hG := gIf_n hG c7
    refine lv_aload_n hx hb dX12_interrupt_21 rfl (lv_at hl 0 rfl) ?_
    refine cG C9 V hy5.1 hf6 rfl tC_lay7 1 (by decide) tCf_X12_112 (Or.inl rfl) rfl dX12_interrupt_22 ?_
    refine lv_iconst (v := 2) hx hb dX12_interrupt_25 (by decide) ?_
    refine lv_icmp_eq (tgt := 39) hx hb dX12_interrupt_26 (by decide) (fun c8 => ?_) (fun c8 => ?_)
    · replace hG := gIf_p hG c8
      refine lv_aload_n hx hb dX12_interrupt_39 rfl (lv_at hl 0 rfl) ?_
      refine cG C9 V hy5.1 hf6 rfl tC_lay7 7 (by decide) tCf_X12_143 (Or.inl rfl) rfl dX12_interrupt_40 ?_
      replace hG := gO_e hG (view_gO hf6 rfl)
      rcases v6_7 with _ | y9
      · replace hG := gO_n hG
        refine W.eq (g2 := F0 m 43 ls [.null]) rfl ?_
        refine lv_astoreN (lv' := [(4, .null), (2, .ref y5), (0, .ref o0), (1, .int i1)]) hx hb dX12_interrupt_43 hl (by decide) rfl (fun ls hl => ?_)
        refine lv_aloadN hx hb dX12_interrupt_45 (lv_at hl 0 rfl) ?_
        refine lv_instN hx hb dX12_interrupt_47 ?_
        refine lv_if_eq (tgt := 74) hx hb dX12_interrupt_50 (by decide) (fun c10 => ?_) (fun c10 => ?_)
        · refine lv_aload_n hx hb dX12_interrupt_74 rfl (lv_at hl 1 rfl) ?_
          refine lv_bipush (v := (-2)) hx hb dX12_interrupt_75 (by decide) ?_
          refine cGoV (cRunV (As := [.int (-2)]) (rest := []) C9 hml hN hNs V I hS hy5.1 hf6 rfl (c_X8_goOnWith l D ks τ L A N hN  ψ f y5 (-2) hy5 ) gC_X12_155 okC_X8_goOnWith ⟨rfl, rfl, Nat.le_of_ble_eq_true rfl, Nat.le_of_ble_eq_true rfl⟩ hl.1 rfl (Nat.le_of_ble_eq_true rfl) dX12_interrupt_77 ⟨Nat.le_of_ble_eq_true rfl, Nat.le_of_ble_eq_true rfl⟩) hS (fun p12 f11 H locs hqf11 V I hS => ?_)
          obtain ⟨hqf11, ghqf11⟩ := hqf11
          replace hG := gLt_e hG (ghqf11)
          have I : cI ks τ L ψ f11 := by rw [show p12 = ψ from hqf11] at I; exact I
          refine lv_iconst (v := 1) hx hb dX12_interrupt_80 (by decide) ?_
          exact cRx (Nat.le_of_ble_eq_true rfl) (Nat.le_of_ble_eq_true rfl) (cRetI C9 hr hlk hN hNs V I hS (⟨rfl, hG.symm⟩) dX12_interrupt_81)
        · exact absurd c10 (by decide)
      · replace hG := gO_s hG
        have hy9 := t6_7 y9 rfl
        refine W.eq (g2 := F0 m 43 ls [.ref y9]) rfl ?_
        refine lv_astore (lv' := [(4, .ref y9), (2, .ref y5), (0, .ref o0), (1, .int i1)]) hx hb dX12_interrupt_43 hl (by decide) rfl (fun ls hl => ?_)
        refine lv_aload hx hb dX12_interrupt_45 (lv_at hl 0 rfl) ?_
        refine cIns C9 h0 V I hy9 tCl_X12_147 dX12_interrupt_47 (fun h14 vh14 => ?_) (fun vh14 => ?_)
        · replace hG := gIf_p hG vh14
          refine lv_if_eq (tgt := 74) hx hb dX12_interrupt_50 (by decide) (fun c15 => ?_) (fun c15 => ?_)
          · exact absurd c15 (by decide)
          · refine lv_aload hx hb dX12_interrupt_53 (lv_at hl 0 rfl) ?_
            obtain ⟨v16_0, v16_1, v16_2, v16_3, v16_4, v16_5, v16_6, hf16, t16_2, t16_6⟩ := op3 I h14
            refine cCst C9 h0 V h14.1 hf16 tCl_X12_147 dX12_interrupt_55 ?_
            refine lv_astore_n (lv' := [(3, .ref y9), (4, .ref y9), (2, .ref y5), (0, .ref o0), (1, .int i1)]) hx hb dX12_interrupt_58 rfl hl (by decide) rfl (fun ls hl => ?_)
            refine lv_aload_n hx hb dX12_interrupt_59 rfl (lv_at hl 2 rfl) ?_
            refine cG C9 V hy5.1 hf6 rfl tC_lay7 9 (by decide) tCf_X12_149 (Or.inl rfl) rfl dX12_interrupt_60 ?_
            replace hG := gLt_e hG (view_gI hf6 rfl)
            refine lv_if_le (tgt := 74) hx hb dX12_interrupt_63 (by decide) (fun c17 => ?_) (fun c17 => ?_)
            · replace hG := gIf_p hG c17
              refine lv_aload_n hx hb dX12_interrupt_74 rfl (lv_at hl 2 rfl) ?_
              refine lv_bipush (v := (-2)) hx hb dX12_interrupt_75 (by decide) ?_
              refine cGoV (cRunV (As := [.int (-2)]) (rest := []) C9 hml hN hNs V I hS hy5.1 hf6 rfl (c_X8_goOnWith l D ks τ L A N hN  ψ f y5 (-2) hy5 ) gC_X12_155 okC_X8_goOnWith ⟨rfl, rfl, Nat.le_of_ble_eq_true rfl, Nat.le_of_ble_eq_true rfl⟩ hl.1 rfl (Nat.le_of_ble_eq_true rfl) dX12_interrupt_77 ⟨Nat.le_of_ble_eq_true rfl, Nat.le_of_ble_eq_true rfl⟩) hS (fun p19 f18 H locs hqf18 V I hS => ?_)
              obtain ⟨hqf18, ghqf18⟩ := hqf18
              replace hG := gLt_e hG (ghqf18)
              have I : cI ks τ L ψ f18 := by rw [show p19 = ψ from hqf18] at I; exact I
              refine lv_iconst (v := 1) hx hb dX12_interrupt_80 (by decide) ?_
              exact cRx (Nat.le_of_ble_eq_true rfl) (Nat.le_of_ble_eq_true rfl) (cRetI C9 hr hlk hN hNs V I hS (⟨rfl, hG.symm⟩) dX12_interrupt_81)
            · replace hG := gIf_n hG c17
              refine lv_aload_n hx hb dX12_interrupt_66 rfl (lv_at hl 0 rfl) ?_
              refine lv_aload_n hx hb dX12_interrupt_67 rfl (lv_at hl 2 rfl) ?_
              refine cGoV (cRunV (As := [.ref y5]) (rest := []) C9 hml hN hNs V I hS h14.1 hf16 rfl (c_X4_interruptWait l D ks τ L A N hN  ψ f y9 y5 h14 hy5 ) gC_X12_152 okC_X4_interruptWait ⟨rfl, rfl, Nat.le_of_ble_eq_true rfl, Nat.le_of_ble_eq_true rfl⟩ hl.1 rfl (Nat.le_of_ble_eq_true rfl) dX12_interrupt_68 ⟨Nat.le_of_ble_eq_true rfl, Nat.le_of_ble_eq_true rfl⟩) hS (fun p22 f21 H locs hqf21 V I hS => ?_)
              obtain ⟨hqf21, ghqf21⟩ := hqf21
              replace hG := gLt_e hG (ghqf21)
              have I : cI ks τ L ψ f21 := by rw [show p22 = ψ from hqf21] at I; exact I
              refine lv_goto (tgt := 80) hx hb dX12_interrupt_71 (by decide) ?_
              refine lv_iconst (v := 1) hx hb dX12_interrupt_80 (by decide) ?_
              exact cRx (Nat.le_of_ble_eq_true rfl) (Nat.le_of_ble_eq_true rfl) (cRetI C9 hr hlk hN hNs V I hS (⟨rfl, hG.symm⟩) dX12_interrupt_81)
        · replace hG := gIf_n hG vh14
          refine lv_if_eq (tgt := 74) hx hb dX12_interrupt_50 (by decide) (fun c24 => ?_) (fun c24 => ?_)
          · refine lv_aload_n hx hb dX12_interrupt_74 rfl (lv_at hl 1 rfl) ?_
            refine lv_bipush (v := (-2)) hx hb dX12_interrupt_75 (by decide) ?_
            refine cGoV (cRunV (As := [.int (-2)]) (rest := []) C9 hml hN hNs V I hS hy5.1 hf6 rfl (c_X8_goOnWith l D ks τ L A N hN  ψ f y5 (-2) hy5 ) gC_X12_155 okC_X8_goOnWith ⟨rfl, rfl, Nat.le_of_ble_eq_true rfl, Nat.le_of_ble_eq_true rfl⟩ hl.1 rfl (Nat.le_of_ble_eq_true rfl) dX12_interrupt_77 ⟨Nat.le_of_ble_eq_true rfl, Nat.le_of_ble_eq_true rfl⟩) hS (fun p26 f25 H locs hqf25 V I hS => ?_)
            obtain ⟨hqf25, ghqf25⟩ := hqf25
            replace hG := gLt_e hG (ghqf25)
            have I : cI ks τ L ψ f25 := by rw [show p26 = ψ from hqf25] at I; exact I
            refine lv_iconst (v := 1) hx hb dX12_interrupt_80 (by decide) ?_
            exact cRx (Nat.le_of_ble_eq_true rfl) (Nat.le_of_ble_eq_true rfl) (cRetI C9 hr hlk hN hNs V I hS (⟨rfl, hG.symm⟩) dX12_interrupt_81)
          · exact absurd c24 (by decide)
    · replace hG := gIf_n hG c8
      refine lv_aload_n hx hb dX12_interrupt_29 rfl (lv_at hl 0 rfl) ?_
      refine cG C9 V hy5.1 hf6 rfl tC_lay7 1 (by decide) tCf_X12_112 (Or.inl rfl) rfl dX12_interrupt_30 ?_
      refine lv_iconst (v := 3) hx hb dX12_interrupt_33 (by decide) ?_
      refine lv_icmp_eq (tgt := 39) hx hb dX12_interrupt_34 (by decide) (fun c28 => ?_) (fun c28 => ?_)
      · replace hG := gIf_p hG c28
        refine lv_aload_n hx hb dX12_interrupt_39 rfl (lv_at hl 0 rfl) ?_
        refine cG C9 V hy5.1 hf6 rfl tC_lay7 7 (by decide) tCf_X12_143 (Or.inl rfl) rfl dX12_interrupt_40 ?_
        replace hG := gO_e hG (view_gO hf6 rfl)
        rcases v6_7 with _ | y29
        · replace hG := gO_n hG
          refine W.eq (g2 := F0 m 43 ls [.null]) rfl ?_
          refine lv_astoreN (lv' := [(4, .null), (2, .ref y5), (0, .ref o0), (1, .int i1)]) hx hb dX12_interrupt_43 hl (by decide) rfl (fun ls hl => ?_)
          refine lv_aloadN hx hb dX12_interrupt_45 (lv_at hl 0 rfl) ?_
          refine lv_instN hx hb dX12_interrupt_47 ?_
          refine lv_if_eq (tgt := 74) hx hb dX12_interrupt_50 (by decide) (fun c30 => ?_) (fun c30 => ?_)
          · refine lv_aload_n hx hb dX12_interrupt_74 rfl (lv_at hl 1 rfl) ?_
            refine lv_bipush (v := (-2)) hx hb dX12_interrupt_75 (by decide) ?_
            refine cGoV (cRunV (As := [.int (-2)]) (rest := []) C9 hml hN hNs V I hS hy5.1 hf6 rfl (c_X8_goOnWith l D ks τ L A N hN  ψ f y5 (-2) hy5 ) gC_X12_155 okC_X8_goOnWith ⟨rfl, rfl, Nat.le_of_ble_eq_true rfl, Nat.le_of_ble_eq_true rfl⟩ hl.1 rfl (Nat.le_of_ble_eq_true rfl) dX12_interrupt_77 ⟨Nat.le_of_ble_eq_true rfl, Nat.le_of_ble_eq_true rfl⟩) hS (fun p32 f31 H locs hqf31 V I hS => ?_)
            obtain ⟨hqf31, ghqf31⟩ := hqf31
            replace hG := gLt_e hG (ghqf31)
            have I : cI ks τ L ψ f31 := by rw [show p32 = ψ from hqf31] at I; exact I
            refine lv_iconst (v := 1) hx hb dX12_interrupt_80 (by decide) ?_
            exact cRx (Nat.le_of_ble_eq_true rfl) (Nat.le_of_ble_eq_true rfl) (cRetI C9 hr hlk hN hNs V I hS (⟨rfl, hG.symm⟩) dX12_interrupt_81)
          · exact absurd c30 (by decide)
        · replace hG := gO_s hG
          have hy29 := t6_7 y29 rfl
          refine W.eq (g2 := F0 m 43 ls [.ref y29]) rfl ?_
          refine lv_astore (lv' := [(4, .ref y29), (2, .ref y5), (0, .ref o0), (1, .int i1)]) hx hb dX12_interrupt_43 hl (by decide) rfl (fun ls hl => ?_)
          refine lv_aload hx hb dX12_interrupt_45 (lv_at hl 0 rfl) ?_
          refine cIns C9 h0 V I hy29 tCl_X12_147 dX12_interrupt_47 (fun h34 vh34 => ?_) (fun vh34 => ?_)
          · replace hG := gIf_p hG vh34
            refine lv_if_eq (tgt := 74) hx hb dX12_interrupt_50 (by decide) (fun c35 => ?_) (fun c35 => ?_)
            · exact absurd c35 (by decide)
            · refine lv_aload hx hb dX12_interrupt_53 (lv_at hl 0 rfl) ?_
              obtain ⟨v36_0, v36_1, v36_2, v36_3, v36_4, v36_5, v36_6, hf36, t36_2, t36_6⟩ := op3 I h34
              refine cCst C9 h0 V h34.1 hf36 tCl_X12_147 dX12_interrupt_55 ?_
              refine lv_astore_n (lv' := [(3, .ref y29), (4, .ref y29), (2, .ref y5), (0, .ref o0), (1, .int i1)]) hx hb dX12_interrupt_58 rfl hl (by decide) rfl (fun ls hl => ?_)
              refine lv_aload_n hx hb dX12_interrupt_59 rfl (lv_at hl 2 rfl) ?_
              refine cG C9 V hy5.1 hf6 rfl tC_lay7 9 (by decide) tCf_X12_149 (Or.inl rfl) rfl dX12_interrupt_60 ?_
              replace hG := gLt_e hG (view_gI hf6 rfl)
              refine lv_if_le (tgt := 74) hx hb dX12_interrupt_63 (by decide) (fun c37 => ?_) (fun c37 => ?_)
              · replace hG := gIf_p hG c37
                refine lv_aload_n hx hb dX12_interrupt_74 rfl (lv_at hl 2 rfl) ?_
                refine lv_bipush (v := (-2)) hx hb dX12_interrupt_75 (by decide) ?_
                refine cGoV (cRunV (As := [.int (-2)]) (rest := []) C9 hml hN hNs V I hS hy5.1 hf6 rfl (c_X8_goOnWith l D ks τ L A N hN  ψ f y5 (-2) hy5 ) gC_X12_155 okC_X8_goOnWith ⟨rfl, rfl, Nat.le_of_ble_eq_true rfl, Nat.le_of_ble_eq_true rfl⟩ hl.1 rfl (Nat.le_of_ble_eq_true rfl) dX12_interrupt_77 ⟨Nat.le_of_ble_eq_true rfl, Nat.le_of_ble_eq_true rfl⟩) hS (fun p39 f38 H locs hqf38 V I hS => ?_)
                obtain ⟨hqf38, ghqf38⟩ := hqf38
                replace hG := gLt_e hG (ghqf38)
                have I : cI ks τ L ψ f38 := by rw [show p39 = ψ from hqf38] at I; exact I
                refine lv_iconst (v := 1) hx hb dX12_interrupt_80 (by decide) ?_
                exact cRx (Nat.le_of_ble_eq_true rfl) (Nat.le_of_ble_eq_true rfl) (cRetI C9 hr hlk hN hNs V I hS (⟨rfl, hG.symm⟩) dX12_interrupt_81)
              · replace hG := gIf_n hG c37
                refine lv_aload_n hx hb dX12_interrupt_66 rfl (lv_at hl 0 rfl) ?_
                refine lv_aload_n hx hb dX12_interrupt_67 rfl (lv_at hl 2 rfl) ?_
                refine cGoV (cRunV (As := [.ref y5]) (rest := []) C9 hml hN hNs V I hS h34.1 hf36 rfl (c_X4_interruptWait l D ks τ L A N hN  ψ f y29 y5 h34 hy5 ) gC_X12_152 okC_X4_interruptWait ⟨rfl, rfl, Nat.le_of_ble_eq_true rfl, Nat.le_of_ble_eq_true rfl⟩ hl.1 rfl (Nat.le_of_ble_eq_true rfl) dX12_interrupt_68 ⟨Nat.le_of_ble_eq_true rfl, Nat.le_of_ble_eq_true rfl⟩) hS (fun p42 f41 H locs hqf41 V I hS => ?_)
                obtain ⟨hqf41, ghqf41⟩ := hqf41
                replace hG := gLt_e hG (ghqf41)
                have I : cI ks τ L ψ f41 := by rw [show p42 = ψ from hqf41] at I; exact I
                refine lv_goto (tgt := 80) hx hb dX12_interrupt_71 (by decide) ?_
                refine lv_iconst (v := 1) hx hb dX12_interrupt_80 (by decide) ?_
                exact cRx (Nat.le_of_ble_eq_true rfl) (Nat.le_of_ble_eq_true rfl) (cRetI C9 hr hlk hN hNs V I hS (⟨rfl, hG.symm⟩) dX12_interrupt_81)
          · replace hG := gIf_n hG vh34
            refine lv_if_eq (tgt := 74) hx hb dX12_interrupt_50 (by decide) (fun c44 => ?_) (fun c44 => ?_)
            · refine lv_aload_n hx hb dX12_interrupt_74 rfl (lv_at hl 1 rfl) ?_
              refine lv_bipush (v := (-2)) hx hb dX12_interrupt_75 (by decide) ?_
              refine cGoV (cRunV (As := [.int (-2)]) (rest := []) C9 hml hN hNs V I hS hy5.1 hf6 rfl (c_X8_goOnWith l D ks τ L A N hN  ψ f y5 (-2) hy5 ) gC_X12_155 okC_X8_goOnWith ⟨rfl, rfl, Nat.le_of_ble_eq_true rfl, Nat.le_of_ble_eq_true rfl⟩ hl.1 rfl (Nat.le_of_ble_eq_true rfl) dX12_interrupt_77 ⟨Nat.le_of_ble_eq_true rfl, Nat.le_of_ble_eq_true rfl⟩) hS (fun p46 f45 H locs hqf45 V I hS => ?_)
              obtain ⟨hqf45, ghqf45⟩ := hqf45
              replace hG := gLt_e hG (ghqf45)
              have I : cI ks τ L ψ f45 := by rw [show p46 = ψ from hqf45] at I; exact I
              refine lv_iconst (v := 1) hx hb dX12_interrupt_80 (by decide) ?_
              exact cRx (Nat.le_of_ble_eq_true rfl) (Nat.le_of_ble_eq_true rfl) (cRetI C9 hr hlk hN hNs V I hS (⟨rfl, hG.symm⟩) dX12_interrupt_81)
            · exact absurd c44 (by decide)
      · replace hG := gIf_n hG c28
        refine lv_iconst (v := 0) hx hb dX12_interrupt_37 (by decide) ?_
        exact cRx (Nat.le_of_ble_eq_true rfl) (Nat.le_of_ble_eq_true rfl) (cRetI C9 hr hlk hN hNs V I hS (⟨rfl, hG.symm⟩) dX12_interrupt_38)
  · replace hG := gIf_p hG c7
    refine lv_aload_n hx hb dX12_interrupt_14 rfl (lv_at hl 0 rfl) ?_
    refine lv_iconst (v := 1) hx hb dX12_interrupt_15 (by decide) ?_
    refine cP (v := .int 1) (ty := .boolean) C9 V hS hy5.1 hf6 rfl tC_lay7 tyX8 tyX8_ok nmX8 5 (by decide) tCf_X12_139 rfl rfl (by decide +kernel) rfl rfl (Nat.le_of_ble_eq_true rfl) dX12_interrupt_16 (fun f48 H locs ef48 V hS => ?_)
    replace hG := gLt_e hG (view_I hf6 rfl ef48)
    have hf49 : f48 y5 = .inr (7, [.int v6_0, .int v6_1, .int v6_2, .int v6_3, .int v6_4, .int 1, .long v6_6, va_rf v6_7, va_rf v6_8, .int v6_9, .int v6_10, .ref v6_11, .int v6_12]) := up_s ef48
    have I := cI_up I hy5.2 ef48 (mk7 t6_7 t6_8 t6_11)
    have hf50 := up_n ef48 hy5.2 t_o0.2 (by first | decide | omega) hf1
    refine lv_iconst (v := 1) hx hb dX12_interrupt_19 (by decide) ?_
    exact cRx (Nat.le_of_ble_eq_true rfl) (Nat.le_of_ble_eq_true rfl) (cRetI C9 hr hlk hN hNs V I hS (⟨rfl, hG.symm⟩) dX12_interrupt_20)
def FC_X12_look (X : xS) (o0 : Nat) (i1 : Int32) (i2 : Int32) : Int32 × Int32 × xS := gT (FC_X12_strandAt X o0 i1) (0 : Int32) (fun y5 X => if (i2 : Int32) < 0 then (((1 : Int32), (0 : Int32), X)) else (if (i2 : Int32) ≤ 5 then (if tabT 26 (108) (0) (4) [34, 39, 44, 68, 95] i2 = 134 then (gLt (xI X y5 4 : Int32) (fun v9_4 => ((0 : Int32), (v9_4 : Int32), X))) else (if tabT 26 (108) (0) (4) [34, 39, 44, 68, 95] i2 = 60 then (gLt (xI X y5 1 : Int32) (fun v10_1 => ((0 : Int32), (v10_1 : Int32), X))) else (if tabT 26 (108) (0) (4) [34, 39, 44, 68, 95] i2 = 65 then (gLt (xI X y5 2 : Int32) (fun v11_2 => ((0 : Int32), (v11_2 : Int32), X))) else (if tabT 26 (108) (0) (4) [34, 39, 44, 68, 95] i2 = 70 then (gLt (xI X y5 1 : Int32) (fun v12_1 => if (v12_1 : Int32) = 0 then (((0 : Int32), ((-1) : Int32), X)) else (if (v12_1 : Int32) = 4 then (((0 : Int32), ((-1) : Int32), X)) else (gLt (xI X y5 3 : Int32) (fun v12_3 => ((0 : Int32), (v12_3 : Int32), X)))))) else (if tabT 26 (108) (0) (4) [34, 39, 44, 68, 95] i2 = 94 then (gLt (xI X y5 1 : Int32) (fun v15_1 => if (v15_1 : Int32) = 2 then (gO (xR X y5 7) (((0 : Int32), ((-1) : Int32), X)) (fun y17 => gLt (xI X y17 0 : Int32) (fun x18 => ((0 : Int32), (x18 : Int32), X)))) else (((0 : Int32), ((-1) : Int32), X)))) else (gLt (xI X y5 5 : Int32) (fun v19_5 => if (v19_5 : Int32) = 0 then (((0 : Int32), (0 : Int32), X)) else (((0 : Int32), (1 : Int32), X))))))))) else (((1 : Int32), (0 : Int32), X))))
set_option maxHeartbeats 200000 in
set_option maxRecDepth 100000 in
theorem c_X12_look (l : Launch) (D : va_G) (ks : kS) (τ : Nat → Nat) (L : List Nat) (A : Nat → Prop) (N : State → Prop) (hN : cNk A N) (κ : kC) (hN0 : ∀ U, N U → N0 κ A U) (hlt : l.stackTraces = false) (ψ : Int32) (f : Nat → va_E) (o0 : Nat) (i1 : Int32) (i2 : Int32) (t_o0 : ty τ L o0 9) : vx_Met l yX12_look (Cond.code yX12_look cX12_look 4 (some .int) :: tC) ({ frames := 7, cells := 2, slots := 12, locals := 121 }) (va_Pc [.ref o0, .int i1, .int i2] (cB D ks τ L A N (ψ, f))) (va_Qi (fun r9 x9 => (x9.1 = ψ) ∧ ((0 : Int32), r9, view x9.2) = FC_X12_look (view f) o0 i1 i2) (cB D ks τ L A N) A) (cX D ks τ L A ["java/lang/IllegalArgumentException"] (fun e9 x9 => (x9.1 = ψ) ∧ ((e9 = "java/lang/IllegalArgumentException" ∧ ((1 : Int32), (0 : Int32), view x9.2) = FC_X12_look (view f) o0 i1 i2)))) 2 12 A := by
  refine cMetX (own := RX12) (by decide) rfl (Nat.le_of_ble_eq_true rfl) ?_
  intro p e s m below meth c ls C9 hml hr hlk hET V I hNs hl
  have hx := C9.1
  have hb := C9.2.1
  have hown := C9.2.2.1
  have hts := C9.2.2.2.1
  have h0 := hN0 s hNs
  have hS : va_S A s.heap s.heap [] := va_S.rf
  have hG := FC_X12_look.eq_1 (view f) o0 i1 i2
  have hl : lv_has ls 4 [(0, .ref o0), (1, .int i1), (2, .int i2)] := hl
  refine lv_aload_n hx hb dX12_look_0 rfl (lv_at hl 0 rfl) ?_
  refine lv_iload_n hx hb dX12_look_1 rfl (lv_at hl 1 rfl) ?_
  obtain ⟨v1_0, v1_1, v1_2, v1_3, v1_4, v1_5, hf1, t1_0, t1_1, t1_2⟩ := op9 I t_o0
  refine cGoQX (cRunX (As := [.int i1]) (rest := []) C9 hml hN hNs V I hS t_o0.1 hf1 rfl (c_X12_strandAt l D ks τ L A N hN κ hN0 hlt ψ f o0 i1 t_o0 ) gC_X12_108 okC_X12_strandAt ⟨rfl, rfl, Nat.le_of_ble_eq_true rfl, Nat.le_of_ble_eq_true rfl⟩ hl.1 rfl (Nat.le_of_ble_eq_true rfl) dX12_look_2 ⟨Nat.le_of_ble_eq_true rfl, Nat.le_of_ble_eq_true rfl⟩) hS hET hlk (by simp) (fun e9 x9 h9 => ⟨h9.1, ⟨h9.2.1, (gT_x hG h9.2.2 (by decide)).symm⟩⟩) ⟨Nat.le_of_ble_eq_true rfl, Nat.le_of_ble_eq_true rfl⟩ (fun r4 p3 f2 H locs hqf2 V I hS => ?_)
  obtain ⟨hqf2, y5, ey5, hy5, ghqf2⟩ := hqf2
  subst ey5
  replace hG := gT_e hG ghqf2
  have V : cV D L f A H := by rw [show f2 = f from congrArg Prod.snd hqf2] at V; exact V
  have I : cI ks τ L ψ f := by rw [show f2 = f from congrArg Prod.snd hqf2, show p3 = ψ from congrArg Prod.fst hqf2] at I; exact I
  refine W.eq (g2 := F0 m 5 ls [.ref y5]) rfl ?_
  refine lv_astore_n (lv' := [(3, .ref y5), (0, .ref o0), (1, .int i1), (2, .int i2)]) hx hb dX12_look_5 rfl hl (by decide) rfl (fun ls hl => ?_)
  refine lv_iload_n hx hb dX12_look_6 rfl (lv_at hl 3 rfl) ?_
  refine lv_if_lt (tgt := 15) hx hb dX12_look_7 (by decide) (fun c6 => ?_) (fun c6 => ?_)
  · replace hG := gIf_p hG c6
    exact cThr (text := "what is out of range") (names := xNm) C9 h0 V I hS hlt hET hlk hml hl.1 (xw_48_52 hts h0) (by simp [nMs]) (by simp) (⟨rfl, ⟨rfl, hG.symm⟩⟩) ⟨Nat.le_of_ble_eq_true rfl, Nat.le_of_ble_eq_true rfl, Nat.le_of_ble_eq_true rfl, Nat.le_of_ble_eq_true rfl⟩ ⟨Nat.le_of_ble_eq_true rfl, Nat.le_of_ble_eq_true rfl⟩ dX12_look_15 dX12_look_18 dX12_look_19 dX12_look_21 dX12_look_24
  · replace hG := gIf_n hG c6
    refine lv_iload_n hx hb dX12_look_10 rfl (lv_at hl 3 rfl) ?_
    refine lv_iconst (v := 5) hx hb dX12_look_11 (by decide) ?_
    refine lv_icmp_le (tgt := 25) hx hb dX12_look_12 (by decide) (fun c7 => ?_) (fun c7 => ?_)
    · replace hG := gIf_p hG c7
      refine lv_iload_n hx hb dX12_look_25 rfl (lv_at hl 3 rfl) ?_
      refine cTabG hx hb [134, 60, 65, 70, 94, 121] dX12_look_26 rfl (by decide) ?_
      intro t9 hm8 hThm8
      rcases List.mem_cons.mp hm8 with rfl | hm8
      · replace hG := gIf_p hG hThm8
        refine lv_aload_n hx hb dX12_look_134 rfl (lv_at hl 0 rfl) ?_
        obtain ⟨v9_0, v9_1, v9_2, v9_3, v9_4, v9_5, v9_6, v9_7, v9_8, v9_9, v9_10, v9_11, v9_12, hf9, t9_7, t9_8, t9_11⟩ := op7 I hy5
        refine cG C9 V hy5.1 hf9 rfl tC_lay7 4 (by decide) tCf_X12_169 (Or.inl rfl) rfl dX12_look_135 ?_
        replace hG := gLt_e hG (view_gI hf9 rfl)
        exact cRx (Nat.le_of_ble_eq_true rfl) (Nat.le_of_ble_eq_true rfl) (cRetI C9 hr hlk hN hNs V I hS (⟨rfl, hG.symm⟩) dX12_look_138)
      rcases List.mem_cons.mp hm8 with rfl | hm8
      · replace hG := gIf_n hG (fun z9 => absurd (hThm8.symm.trans z9) (by decide))
        replace hG := gIf_p hG hThm8
        refine lv_aload_n hx hb dX12_look_60 rfl (lv_at hl 0 rfl) ?_
        obtain ⟨v10_0, v10_1, v10_2, v10_3, v10_4, v10_5, v10_6, v10_7, v10_8, v10_9, v10_10, v10_11, v10_12, hf10, t10_7, t10_8, t10_11⟩ := op7 I hy5
        refine cG C9 V hy5.1 hf10 rfl tC_lay7 1 (by decide) tCf_X12_112 (Or.inl rfl) rfl dX12_look_61 ?_
        replace hG := gLt_e hG (view_gI hf10 rfl)
        exact cRx (Nat.le_of_ble_eq_true rfl) (Nat.le_of_ble_eq_true rfl) (cRetI C9 hr hlk hN hNs V I hS (⟨rfl, hG.symm⟩) dX12_look_64)
      rcases List.mem_cons.mp hm8 with rfl | hm8
      · replace hG := gIf_n hG (fun z9 => absurd (hThm8.symm.trans z9) (by decide))
        replace hG := gIf_n hG (fun z9 => absurd (hThm8.symm.trans z9) (by decide))
        replace hG := gIf_p hG hThm8
        refine lv_aload_n hx hb dX12_look_65 rfl (lv_at hl 0 rfl) ?_
        obtain ⟨v11_0, v11_1, v11_2, v11_3, v11_4, v11_5, v11_6, v11_7, v11_8, v11_9, v11_10, v11_11, v11_12, hf11, t11_7, t11_8, t11_11⟩ := op7 I hy5
        refine cG C9 V hy5.1 hf11 rfl tC_lay7 2 (by decide) tCf_X12_160 (Or.inl rfl) rfl dX12_look_66 ?_
        replace hG := gLt_e hG (view_gI hf11 rfl)
        exact cRx (Nat.le_of_ble_eq_true rfl) (Nat.le_of_ble_eq_true rfl) (cRetI C9 hr hlk hN hNs V I hS (⟨rfl, hG.symm⟩) dX12_look_69)
      rcases List.mem_cons.mp hm8 with rfl | hm8
      · replace hG := gIf_n hG (fun z9 => absurd (hThm8.symm.trans z9) (by decide))
        replace hG := gIf_n hG (fun z9 => absurd (hThm8.symm.trans z9) (by decide))
        replace hG := gIf_n hG (fun z9 => absurd (hThm8.symm.trans z9) (by decide))
        replace hG := gIf_p hG hThm8
        refine lv_aload_n hx hb dX12_look_70 rfl (lv_at hl 0 rfl) ?_
        obtain ⟨v12_0, v12_1, v12_2, v12_3, v12_4, v12_5, v12_6, v12_7, v12_8, v12_9, v12_10, v12_11, v12_12, hf12, t12_7, t12_8, t12_11⟩ := op7 I hy5
        refine cG C9 V hy5.1 hf12 rfl tC_lay7 1 (by decide) tCf_X12_112 (Or.inl rfl) rfl dX12_look_71 ?_
        replace hG := gLt_e hG (view_gI hf12 rfl)
        refine lv_if_eq (tgt := 85) hx hb dX12_look_74 (by decide) (fun c13 => ?_) (fun c13 => ?_)
        · replace hG := gIf_p hG c13
          refine lv_iconst (v := (-1)) hx hb dX12_look_85 (by decide) ?_
          refine lv_goto (tgt := 93) hx hb dX12_look_86 (by decide) ?_
          exact cRx (Nat.le_of_ble_eq_true rfl) (Nat.le_of_ble_eq_true rfl) (cRetI C9 hr hlk hN hNs V I hS (⟨rfl, hG.symm⟩) dX12_look_93)
        · replace hG := gIf_n hG c13
          refine lv_aload_n hx hb dX12_look_77 rfl (lv_at hl 0 rfl) ?_
          refine cG C9 V hy5.1 hf12 rfl tC_lay7 1 (by decide) tCf_X12_112 (Or.inl rfl) rfl dX12_look_78 ?_
          refine lv_iconst (v := 4) hx hb dX12_look_81 (by decide) ?_
          refine lv_icmp_ne (tgt := 89) hx hb dX12_look_82 (by decide) (fun c14 => ?_) (fun c14 => ?_)
          · replace hG := gIf_n hG c14
            refine lv_aload_n hx hb dX12_look_89 rfl (lv_at hl 0 rfl) ?_
            refine cG C9 V hy5.1 hf12 rfl tC_lay7 3 (by decide) tCf_X12_163 (Or.inl rfl) rfl dX12_look_90 ?_
            replace hG := gLt_e hG (view_gI hf12 rfl)
            exact cRx (Nat.le_of_ble_eq_true rfl) (Nat.le_of_ble_eq_true rfl) (cRetI C9 hr hlk hN hNs V I hS (⟨rfl, hG.symm⟩) dX12_look_93)
          · replace hG := gIf_p hG c14
            refine lv_iconst (v := (-1)) hx hb dX12_look_85 (by decide) ?_
            refine lv_goto (tgt := 93) hx hb dX12_look_86 (by decide) ?_
            exact cRx (Nat.le_of_ble_eq_true rfl) (Nat.le_of_ble_eq_true rfl) (cRetI C9 hr hlk hN hNs V I hS (⟨rfl, hG.symm⟩) dX12_look_93)
      rcases List.mem_cons.mp hm8 with rfl | hm8
      · replace hG := gIf_n hG (fun z9 => absurd (hThm8.symm.trans z9) (by decide))
        replace hG := gIf_n hG (fun z9 => absurd (hThm8.symm.trans z9) (by decide))
        replace hG := gIf_n hG (fun z9 => absurd (hThm8.symm.trans z9) (by decide))
        replace hG := gIf_n hG (fun z9 => absurd (hThm8.symm.trans z9) (by decide))
        replace hG := gIf_p hG hThm8
        refine lv_aload_n hx hb dX12_look_94 rfl (lv_at hl 0 rfl) ?_
        obtain ⟨v15_0, v15_1, v15_2, v15_3, v15_4, v15_5, v15_6, v15_7, v15_8, v15_9, v15_10, v15_11, v15_12, hf15, t15_7, t15_8, t15_11⟩ := op7 I hy5
        refine cG C9 V hy5.1 hf15 rfl tC_lay7 1 (by decide) tCf_X12_112 (Or.inl rfl) rfl dX12_look_95 ?_
        replace hG := gLt_e hG (view_gI hf15 rfl)
        refine lv_iconst (v := 2) hx hb dX12_look_98 (by decide) ?_
        refine lv_icmp_ne (tgt := 119) hx hb dX12_look_99 (by decide) (fun c16 => ?_) (fun c16 => ?_)
        · replace hG := gIf_n hG c16
          refine lv_iconst (v := (-1)) hx hb dX12_look_119 (by decide) ?_
          exact cRx (Nat.le_of_ble_eq_true rfl) (Nat.le_of_ble_eq_true rfl) (cRetI C9 hr hlk hN hNs V I hS (⟨rfl, hG.symm⟩) dX12_look_120)
        · replace hG := gIf_p hG c16
          refine lv_aload_n hx hb dX12_look_102 rfl (lv_at hl 0 rfl) ?_
          refine cG C9 V hy5.1 hf15 rfl tC_lay7 7 (by decide) tCf_X12_143 (Or.inl rfl) rfl dX12_look_103 ?_
          replace hG := gO_e hG (view_gO hf15 rfl)
          rcases v15_7 with _ | y17
          · replace hG := gO_n hG
            refine W.eq (g2 := F0 m 106 ls [.null]) rfl ?_
            refine lv_ifnullN (tgt := 119) hx hb dX12_look_106 (by decide) ?_
            refine lv_iconst (v := (-1)) hx hb dX12_look_119 (by decide) ?_
            exact cRx (Nat.le_of_ble_eq_true rfl) (Nat.le_of_ble_eq_true rfl) (cRetI C9 hr hlk hN hNs V I hS (⟨rfl, hG.symm⟩) dX12_look_120)
          · replace hG := gO_s hG
            have hy17 := t15_7 y17 rfl
            refine W.eq (g2 := F0 m 106 ls [.ref y17]) rfl ?_
            refine lv_ifnull hx hb dX12_look_106 ?_
            refine lv_aload_n hx hb dX12_look_109 rfl (lv_at hl 0 rfl) ?_
            refine cG C9 V hy5.1 hf15 rfl tC_lay7 7 (by decide) tCf_X12_143 (Or.inl rfl) rfl dX12_look_110 ?_
            refine W.eq (g2 := F0 m 113 ls [.ref y17]) rfl ?_
            refine cGS0 C9 V I hy17 tCf_X12_166 dX12_look_113 (fun x18 ex18 => ?_)
            replace hG := gLt_e hG (ex18)
            refine lv_goto (tgt := 120) hx hb dX12_look_116 (by decide) ?_
            exact cRx (Nat.le_of_ble_eq_true rfl) (Nat.le_of_ble_eq_true rfl) (cRetI C9 hr hlk hN hNs V I hS (⟨rfl, hG.symm⟩) dX12_look_120)
      rcases List.mem_cons.mp hm8 with rfl | hm8
      · replace hG := gIf_n hG (fun z9 => absurd (hThm8.symm.trans z9) (by decide))
        replace hG := gIf_n hG (fun z9 => absurd (hThm8.symm.trans z9) (by decide))
        replace hG := gIf_n hG (fun z9 => absurd (hThm8.symm.trans z9) (by decide))
        replace hG := gIf_n hG (fun z9 => absurd (hThm8.symm.trans z9) (by decide))
        replace hG := gIf_n hG (fun z9 => absurd (hThm8.symm.trans z9) (by decide))
        refine lv_aload_n hx hb dX12_look_121 rfl (lv_at hl 0 rfl) ?_
        obtain ⟨v19_0, v19_1, v19_2, v19_3, v19_4, v19_5, v19_6, v19_7, v19_8, v19_9, v19_10, v19_11, v19_12, hf19, t19_7, t19_8, t19_11⟩ := op7 I hy5
        refine cG C9 V hy5.1 hf19 rfl tC_lay7 5 (by decide) tCf_X12_139 (Or.inl rfl) rfl dX12_look_122 ?_
        replace hG := gLt_e hG (view_gI hf19 rfl)
        refine lv_if_eq (tgt := 132) hx hb dX12_look_125 (by decide) (fun c20 => ?_) (fun c20 => ?_)
        · replace hG := gIf_p hG c20
          refine lv_iconst (v := 0) hx hb dX12_look_132 (by decide) ?_
          exact cRx (Nat.le_of_ble_eq_true rfl) (Nat.le_of_ble_eq_true rfl) (cRetI C9 hr hlk hN hNs V I hS (⟨rfl, hG.symm⟩) dX12_look_133)
        · replace hG := gIf_n hG c20
          refine lv_iconst (v := 1) hx hb dX12_look_128 (by decide) ?_
          refine lv_goto (tgt := 133) hx hb dX12_look_129 (by decide) ?_
          exact cRx (Nat.le_of_ble_eq_true rfl) (Nat.le_of_ble_eq_true rfl) (cRetI C9 hr hlk hN hNs V I hS (⟨rfl, hG.symm⟩) dX12_look_133)
      exact absurd hm8 List.not_mem_nil
    · replace hG := gIf_n hG c7
      exact cThr (text := "what is out of range") (names := xNm) C9 h0 V I hS hlt hET hlk hml hl.1 (xw_48_52 hts h0) (by simp [nMs]) (by simp) (⟨rfl, ⟨rfl, hG.symm⟩⟩) ⟨Nat.le_of_ble_eq_true rfl, Nat.le_of_ble_eq_true rfl, Nat.le_of_ble_eq_true rfl, Nat.le_of_ble_eq_true rfl⟩ ⟨Nat.le_of_ble_eq_true rfl, Nat.le_of_ble_eq_true rfl⟩ dX12_look_15 dX12_look_18 dX12_look_19 dX12_look_21 dX12_look_24
def FC_X12_sync (X : xS) (o0 : Nat) (i1 : Int32) (i2 : Int32) : Int32 × Int64 × xS := gC (FC_X12_syncAt X o0 i1) (fun r4 Xf2 => gO (r4) (((1 : Int32), (0 : Int64), Xf2)) (fun y5 => if (i2 : Int32) < 0 then (((2 : Int32), (0 : Int64), Xf2)) else (if (i2 : Int32) ≤ 4 then (if xC Xf2 y5 = 0 then (gC (FC_X1_tells Xf2 y5 i2) (fun r12 Xf10 => if (r12 : Int32) = 0 then (((3 : Int32), (0 : Int64), Xf10)) else (if lookT 58 (40) [(0, 26), (1, 31)] i2 = 98 then (gC (FC_X1_detail Xf10 y5 i2) (fun r18 Xf16 => ((0 : Int32), (r18 : Int64), Xf16))) else (if lookT 58 (40) [(0, 26), (1, 31)] i2 = 84 then (gC (FC_X1_value Xf10 y5) (fun r22 Xf20 => ((0 : Int32), (r22 : Int64), Xf20))) else (gLt ((xR Xf10 y5 2).getD 0 : Nat) (fun v23_2 => gLt (xI Xf10 v23_2 0 : Int32) (fun v24_0 => ((0 : Int32), ((Int32.toInt64 v24_0) : Int64), Xf10)))))))) else (if xC Xf2 y5 = 1 then (gC (FC_X9_tells Xf2 y5 i2) (fun r28 Xf26 => if (r28 : Int32) = 0 then (((3 : Int32), (0 : Int64), Xf26)) else (if lookT 58 (40) [(0, 26), (1, 31)] i2 = 98 then (gC (FC_X9_detail Xf26 y5 i2) (fun r34 Xf32 => ((0 : Int32), (r34 : Int64), Xf32))) else (if lookT 58 (40) [(0, 26), (1, 31)] i2 = 84 then (gC (FC_X2_value Xf26 y5) (fun r38 Xf36 => ((0 : Int32), (r38 : Int64), Xf36))) else (gLt ((xR Xf26 y5 2).getD 0 : Nat) (fun v39_2 => gLt (xI Xf26 v39_2 0 : Int32) (fun v40_0 => ((0 : Int32), ((Int32.toInt64 v40_0) : Int64), Xf26)))))))) else (if xC Xf2 y5 = 2 then (gC (FC_X9_tells Xf2 y5 i2) (fun r44 Xf42 => if (r44 : Int32) = 0 then (((3 : Int32), (0 : Int64), Xf42)) else (if lookT 58 (40) [(0, 26), (1, 31)] i2 = 98 then (gC (FC_X9_detail Xf42 y5 i2) (fun r50 Xf48 => ((0 : Int32), (r50 : Int64), Xf48))) else (if lookT 58 (40) [(0, 26), (1, 31)] i2 = 84 then (gC (FC_X3_value Xf42 y5) (fun r54 Xf52 => ((0 : Int32), (r54 : Int64), Xf52))) else (gLt ((xR Xf42 y5 2).getD 0 : Nat) (fun v55_2 => gLt (xI Xf42 v55_2 0 : Int32) (fun v56_0 => ((0 : Int32), ((Int32.toInt64 v56_0) : Int64), Xf42)))))))) else (if xC Xf2 y5 = 3 then (gC (FC_X4_tells Xf2 y5 i2) (fun r60 Xf58 => if (r60 : Int32) = 0 then (((3 : Int32), (0 : Int64), Xf58)) else (if lookT 58 (40) [(0, 26), (1, 31)] i2 = 98 then (gC (FC_X4_detail Xf58 y5 i2) (fun r66 Xf64 => ((0 : Int32), (r66 : Int64), Xf64))) else (if lookT 58 (40) [(0, 26), (1, 31)] i2 = 84 then (gC (FC_X4_value Xf58 y5) (fun r70 Xf68 => ((0 : Int32), (r70 : Int64), Xf68))) else (gLt ((xR Xf58 y5 2).getD 0 : Nat) (fun v71_2 => gLt (xI Xf58 v71_2 0 : Int32) (fun v72_0 => ((0 : Int32), ((Int32.toInt64 v72_0) : Int64), Xf58)))))))) else (if xC Xf2 y5 = 4 then (gC (FC_X5_tells Xf2 y5 i2) (fun r76 Xf74 => if (r76 : Int32) = 0 then (((3 : Int32), (0 : Int64), Xf74)) else (if lookT 58 (40) [(0, 26), (1, 31)] i2 = 98 then (gC (FC_X5_detail Xf74 y5 i2) (fun r82 Xf80 => ((0 : Int32), (r82 : Int64), Xf80))) else (if lookT 58 (40) [(0, 26), (1, 31)] i2 = 84 then (gC (FC_X5_value Xf74 y5) (fun r86 Xf84 => ((0 : Int32), (r86 : Int64), Xf84))) else (gLt ((xR Xf74 y5 2).getD 0 : Nat) (fun v87_2 => gLt (xI Xf74 v87_2 0 : Int32) (fun v88_0 => ((0 : Int32), ((Int32.toInt64 v88_0) : Int64), Xf74)))))))) else (gC (FC_X9_tells Xf2 y5 i2) (fun r92 Xf90 => if (r92 : Int32) = 0 then (((3 : Int32), (0 : Int64), Xf90)) else (if lookT 58 (40) [(0, 26), (1, 31)] i2 = 98 then (gC (FC_X9_detail Xf90 y5 i2) (fun r98 Xf96 => ((0 : Int32), (r98 : Int64), Xf96))) else (if lookT 58 (40) [(0, 26), (1, 31)] i2 = 84 then (gC (FC_X7_value Xf90 y5) (fun r102 Xf100 => ((0 : Int32), (r102 : Int64), Xf100))) else (gLt ((xR Xf90 y5 2).getD 0 : Nat) (fun v103_2 => gLt (xI Xf90 v103_2 0 : Int32) (fun v104_0 => ((0 : Int32), ((Int32.toInt64 v104_0) : Int64), Xf90))))))))))))) else (((2 : Int32), (0 : Int64), Xf2)))))
set_option maxHeartbeats 200000 in
set_option maxRecDepth 100000 in
theorem c_X12_sync (l : Launch) (D : va_G) (ks : kS) (τ : Nat → Nat) (L : List Nat) (A : Nat → Prop) (N : State → Prop) (hN : cNk A N) (κ : kC) (hN0 : ∀ U, N U → N0 κ A U) (hlt : l.stackTraces = false) (ψ : Int32) (f : Nat → va_E) (o0 : Nat) (i1 : Int32) (i2 : Int32) (t_o0 : ty τ L o0 9) : vx_Met l yX12_sync (Cond.code yX12_sync cX12_sync 4 (some .long) :: tC) ({ frames := 6, cells := 1, slots := 6, locals := 100 }) (va_Pc [.ref o0, .int i1, .int i2] (cB D ks τ L A N (ψ, f))) (va_Ql (fun r9 x9 => (x9.1 = ψ) ∧ ((0 : Int32), r9, view x9.2) = FC_X12_sync (view f) o0 i1 i2) (cB D ks τ L A N) A) (cX D ks τ L A ["java/util/NoSuchElementException", "java/lang/IllegalArgumentException", "java/lang/UnsupportedOperationException"] (fun e9 x9 => (x9.1 = ψ) ∧ ((e9 = "java/util/NoSuchElementException" ∧ ((1 : Int32), (0 : Int64), view x9.2) = FC_X12_sync (view f) o0 i1 i2) ∨ (e9 = "java/lang/IllegalArgumentException" ∧ ((2 : Int32), (0 : Int64), view x9.2) = FC_X12_sync (view f) o0 i1 i2) ∨ (e9 = "java/lang/UnsupportedOperationException" ∧ ((3 : Int32), (0 : Int64), view x9.2) = FC_X12_sync (view f) o0 i1 i2)))) 1 6 A := by
  refine cMetX (own := RX12) (by decide) rfl (Nat.le_of_ble_eq_true rfl) ?_
  intro p e s m below meth c ls C9 hml hr hlk hET V I hNs hl
  have hx := C9.1
  have hb := C9.2.1
  have hown := C9.2.2.1
  have hts := C9.2.2.2.1
  have h0 := hN0 s hNs
  have hS : va_S A s.heap s.heap [] := va_S.rf
  have hG := FC_X12_sync.eq_1 (view f) o0 i1 i2
  have hl : lv_has ls 4 [(0, .ref o0), (1, .int i1), (2, .int i2)] := hl
  refine lv_aload_n hx hb dX12_sync_0 rfl (lv_at hl 0 rfl) ?_
  refine lv_iload_n hx hb dX12_sync_1 rfl (lv_at hl 1 rfl) ?_
  obtain ⟨v1_0, v1_1, v1_2, v1_3, v1_4, v1_5, hf1, t1_0, t1_1, t1_2⟩ := op9 I t_o0
  refine cGoQ (cRunV (As := [.int i1]) (rest := []) C9 hml hN hNs V I hS t_o0.1 hf1 rfl (c_X12_syncAt l D ks τ L A N hN  ψ f o0 i1 t_o0 ) gC_X12_176 okC_X12_syncAt ⟨rfl, rfl, Nat.le_of_ble_eq_true rfl, Nat.le_of_ble_eq_true rfl⟩ hl.1 rfl (Nat.le_of_ble_eq_true rfl) dX12_sync_2 ⟨Nat.le_of_ble_eq_true rfl, Nat.le_of_ble_eq_true rfl⟩) hS (fun r4 p3 f2 H locs hqf2 V I hS => ?_)
  obtain ⟨hqf2, ghqf2⟩ := hqf2
  replace hG := gC_e hG ghqf2
  have I : cI ks τ L ψ f2 := by rw [show p3 = ψ from hqf2.1] at I; exact I
  replace hG := gO_e hG (rfl)
  rcases r4 with _ | y5
  · replace hG := gO_n hG
    refine W.eq (g2 := F0 m 5 ls [.null]) rfl ?_
    refine lv_astore_nN (lv' := [(3, .null), (0, .ref o0), (1, .int i1), (2, .int i2)]) hx hb dX12_sync_5 rfl hl (by decide) rfl (fun ls hl => ?_)
    refine lv_aload_nN hx hb dX12_sync_6 rfl (lv_at hl 0 rfl) ?_
    refine lv_ifnonnullN hx hb dX12_sync_7 ?_
    exact cThN (text := "no such OBJECT") C9 h0 V I hS hlt hET hlk hml hl.1 (xw_72_76 hts h0) (by simp [nMs]) (by simp [nsN]) (⟨rfl, Or.inl (⟨rfl, hG.symm⟩)⟩) ⟨Nat.le_of_ble_eq_true rfl, Nat.le_of_ble_eq_true rfl, Nat.le_of_ble_eq_true rfl, Nat.le_of_ble_eq_true rfl⟩ ⟨Nat.le_of_ble_eq_true rfl, Nat.le_of_ble_eq_true rfl⟩ dX12_sync_10 dX12_sync_13 dX12_sync_14 dX12_sync_16 dX12_sync_19
  · replace hG := gO_s hG
    have hy5 := hqf2.2 y5 rfl
    refine W.eq (g2 := F0 m 5 ls [.ref y5]) rfl ?_
    refine lv_astore_n (lv' := [(3, .ref y5), (0, .ref o0), (1, .int i1), (2, .int i2)]) hx hb dX12_sync_5 rfl hl (by decide) rfl (fun ls hl => ?_)
    refine lv_aload_n hx hb dX12_sync_6 rfl (lv_at hl 0 rfl) ?_
    refine lv_ifnonnull (tgt := 20) hx hb dX12_sync_7 (by decide) ?_
    refine lv_iload_n hx hb dX12_sync_20 rfl (lv_at hl 3 rfl) ?_
    refine lv_if_lt (tgt := 29) hx hb dX12_sync_21 (by decide) (fun c6 => ?_) (fun c6 => ?_)
    · replace hG := gIf_p hG c6
      exact cThr (text := "what is out of range") (names := xNm) C9 h0 V I hS hlt hET hlk hml hl.1 (xw_48_52 hts h0) (by simp [nMs]) (by simp) (⟨rfl, Or.inr (Or.inl (⟨rfl, hG.symm⟩))⟩) ⟨Nat.le_of_ble_eq_true rfl, Nat.le_of_ble_eq_true rfl, Nat.le_of_ble_eq_true rfl, Nat.le_of_ble_eq_true rfl⟩ ⟨Nat.le_of_ble_eq_true rfl, Nat.le_of_ble_eq_true rfl⟩ dX12_sync_29 dX12_sync_32 dX12_sync_33 dX12_sync_35 dX12_sync_38
    · replace hG := gIf_n hG c6
      refine lv_iload_n hx hb dX12_sync_24 rfl (lv_at hl 3 rfl) ?_
      refine lv_iconst (v := 4) hx hb dX12_sync_25 (by decide) ?_
      refine lv_icmp_le (tgt := 39) hx hb dX12_sync_26 (by decide) (fun c7 => ?_) (fun c7 => ?_)
      · replace hG := gIf_p hG c7
        refine lv_aload_n hx hb dX12_sync_39 rfl (lv_at hl 0 rfl) ?_
        refine lv_iload_n hx hb dX12_sync_40 rfl (lv_at hl 3 rfl) ?_
        obtain ⟨hL8, hk8⟩ := id hy5
        rcases hk8 with hk8 | hk8 | hk8 | hk8 | hk8 | hk8
        · have tk8 : ty τ L y5 0 := ⟨hL8, hk8⟩
          obtain ⟨v9_0, v9_1, v9_2, v9_3, v9_4, hf9, t9_2⟩ := op0 I tk8
          replace hG := gIf_p hG (view_c hf9)
          refine cGoI (cRunU (As := [.int i2]) (rest := []) C9 hml hN hNs V I hS (cRc C9 V tk8.1 hf9 rfl) (c_X1_tells l D ks τ L A N hN  ψ f2 y5 i2 tk8 ) (va_cwO 1 hts gO_X12_180_X1 rfl rfl rfl gO0_X12_180_X1 okU_X12_180 ⟨Nat.le_of_ble_eq_true rfl, Nat.le_of_ble_eq_true rfl⟩) hl.1 rfl (Nat.le_of_ble_eq_true rfl) dX12_sync_41 ⟨Nat.le_of_ble_eq_true rfl, Nat.le_of_ble_eq_true rfl⟩) hS (fun r12 p11 f10 H locs hqf10 V I hS => ?_)
          obtain ⟨hqf10, ghqf10⟩ := hqf10
          replace hG := gC_e hG ghqf10
          have I : cI ks τ L ψ f10 := by rw [show p11 = ψ from hqf10] at I; exact I
          refine lv_if_ne (tgt := 57) hx hb dX12_sync_44 (by decide) (fun c13 => ?_) (fun c13 => ?_)
          · replace hG := gIf_n hG c13
            refine lv_iload_n hx hb dX12_sync_57 rfl (lv_at hl 3 rfl) ?_
            refine cLookG hx hb [98, 84, 89] dX12_sync_58 rfl (by decide) ?_
            intro t9 hm14 hThm14
            rcases List.mem_cons.mp hm14 with rfl | hm14
            · replace hG := gIf_p hG hThm14
              refine lv_aload_n hx hb dX12_sync_98 rfl (lv_at hl 0 rfl) ?_
              refine lv_iload_n hx hb dX12_sync_99 rfl (lv_at hl 3 rfl) ?_
              obtain ⟨v15_0, v15_1, v15_2, v15_3, v15_4, hf15, t15_2⟩ := op0 I tk8
              refine cGoL (cRunU (As := [.int i2]) (rest := []) C9 hml hN hNs V I hS (cRc C9 V tk8.1 hf15 rfl) (c_X1_detail l D ks τ L A N hN  ψ f10 y5 i2 tk8 ) (va_cwO 1 hts gO_X12_197_X1 rfl rfl rfl gO0_X12_197_X1 okU_X12_197 ⟨Nat.le_of_ble_eq_true rfl, Nat.le_of_ble_eq_true rfl⟩) hl.1 rfl (Nat.le_of_ble_eq_true rfl) dX12_sync_100 ⟨Nat.le_of_ble_eq_true rfl, Nat.le_of_ble_eq_true rfl⟩) hS (fun r18 p17 f16 H locs hqf16 V I hS => ?_)
              obtain ⟨hqf16, ghqf16⟩ := hqf16
              replace hG := gC_e hG ghqf16
              have I : cI ks τ L ψ f16 := by rw [show p17 = ψ from hqf16] at I; exact I
              exact cRx (Nat.le_of_ble_eq_true rfl) (Nat.le_of_ble_eq_true rfl) (cRetL C9 hr hlk hN hNs V I hS (⟨rfl, hG.symm⟩) dX12_sync_103)
            rcases List.mem_cons.mp hm14 with rfl | hm14
            · replace hG := gIf_n hG (fun z9 => absurd (hThm14.symm.trans z9) (by decide))
              replace hG := gIf_p hG hThm14
              refine lv_aload_n hx hb dX12_sync_84 rfl (lv_at hl 0 rfl) ?_
              obtain ⟨v19_0, v19_1, v19_2, v19_3, v19_4, hf19, t19_2⟩ := op0 I tk8
              refine cGoL (cRunU (As := []) (rest := []) C9 hml hN hNs V I hS (cRc C9 V tk8.1 hf19 rfl) (c_X1_value l D ks τ L A N hN  ψ f10 y5 tk8 ) (va_cwA 0 hts gA_X12_186_X1 rfl rfl rfl (h0.2.2.2.2.2.2.2.2.1 _ (by simp [nwL])) okU_X12_186 ⟨Nat.le_of_ble_eq_true rfl, Nat.le_of_ble_eq_true rfl⟩) hl.1 rfl (Nat.le_of_ble_eq_true rfl) dX12_sync_85 ⟨Nat.le_of_ble_eq_true rfl, Nat.le_of_ble_eq_true rfl⟩) hS (fun r22 p21 f20 H locs hqf20 V I hS => ?_)
              obtain ⟨hqf20, ghqf20⟩ := hqf20
              replace hG := gC_e hG ghqf20
              have I : cI ks τ L ψ f20 := by rw [show p21 = ψ from hqf20] at I; exact I
              exact cRx (Nat.le_of_ble_eq_true rfl) (Nat.le_of_ble_eq_true rfl) (cRetL C9 hr hlk hN hNs V I hS (⟨rfl, hG.symm⟩) dX12_sync_88)
            rcases List.mem_cons.mp hm14 with rfl | hm14
            · replace hG := gIf_n hG (fun z9 => absurd (hThm14.symm.trans z9) (by decide))
              replace hG := gIf_n hG (fun z9 => absurd (hThm14.symm.trans z9) (by decide))
              refine lv_aload_n hx hb dX12_sync_89 rfl (lv_at hl 0 rfl) ?_
              obtain ⟨v23_0, v23_1, v23_2, v23_3, v23_4, hf23, t23_2⟩ := op0 I tk8
              refine cG C9 V tk8.1 hf23 rfl tC_lay0 2 (by decide) tCf_X12_190 (Or.inl rfl) rfl dX12_sync_90 ?_
              replace hG := gLt_e hG (view_gR hf23 rfl)
              obtain ⟨v24_0, v24_1, hf24, hn24, t24_1⟩ := op5 I t23_2
              refine cG C9 V t23_2.1 hf24 rfl tC_lay5 0 (by decide) tCf_X12_194 (Or.inl rfl) rfl dX12_sync_93 ?_
              replace hG := gLt_e hG (view_gI hf24 rfl)
              refine lv_i2l hx hb dX12_sync_96 rfl ?_
              exact cRx (Nat.le_of_ble_eq_true rfl) (Nat.le_of_ble_eq_true rfl) (cRetL C9 hr hlk hN hNs V I hS (⟨rfl, hG.symm⟩) dX12_sync_97)
            exact absurd hm14 List.not_mem_nil
          · replace hG := gIf_p hG c13
            exact cThr (text := "its KIND has no such number") (names := xNm) C9 h0 V I hS hlt hET hlk hml hl.1 (xw_89_93 hts h0) (by simp [nMs]) (by simp) (⟨rfl, Or.inr (Or.inr (⟨rfl, hG.symm⟩))⟩) ⟨Nat.le_of_ble_eq_true rfl, Nat.le_of_ble_eq_true rfl, Nat.le_of_ble_eq_true rfl, Nat.le_of_ble_eq_true rfl⟩ ⟨Nat.le_of_ble_eq_true rfl, Nat.le_of_ble_eq_true rfl⟩ dX12_sync_47 dX12_sync_50 dX12_sync_51 dX12_sync_53 dX12_sync_56
        · have tk8 : ty τ L y5 1 := ⟨hL8, hk8⟩
          obtain ⟨v25_0, v25_1, v25_2, v25_3, v25_4, hf25, t25_2⟩ := op1 I tk8
          replace hG := gIf_n hG (view_cn hf25 (by decide : 1 ≠ 0))
          replace hG := gIf_p hG (view_c hf25)
          refine cGoI (cRunU (As := [.int i2]) (rest := []) C9 hml hN hNs V I hS (cRc C9 V tk8.1 hf25 rfl) (c_X9_tells l D ks τ L A N hN  ψ f2 y5 i2 (tyS_of tk8 (by decide)) ) (va_cwU 1 hts gU_X12_180_X2 rfl rfl rfl rfl okU_X12_180 ⟨Nat.le_of_ble_eq_true rfl, Nat.le_of_ble_eq_true rfl⟩) hl.1 rfl (Nat.le_of_ble_eq_true rfl) dX12_sync_41 ⟨Nat.le_of_ble_eq_true rfl, Nat.le_of_ble_eq_true rfl⟩) hS (fun r28 p27 f26 H locs hqf26 V I hS => ?_)
          obtain ⟨hqf26, ghqf26⟩ := hqf26
          replace hG := gC_e hG ghqf26
          have I : cI ks τ L ψ f26 := by rw [show p27 = ψ from hqf26] at I; exact I
          refine lv_if_ne (tgt := 57) hx hb dX12_sync_44 (by decide) (fun c29 => ?_) (fun c29 => ?_)
          · replace hG := gIf_n hG c29
            refine lv_iload_n hx hb dX12_sync_57 rfl (lv_at hl 3 rfl) ?_
            refine cLookG hx hb [98, 84, 89] dX12_sync_58 rfl (by decide) ?_
            intro t9 hm30 hThm30
            rcases List.mem_cons.mp hm30 with rfl | hm30
            · replace hG := gIf_p hG hThm30
              refine lv_aload_n hx hb dX12_sync_98 rfl (lv_at hl 0 rfl) ?_
              refine lv_iload_n hx hb dX12_sync_99 rfl (lv_at hl 3 rfl) ?_
              obtain ⟨v31_0, v31_1, v31_2, v31_3, v31_4, hf31, t31_2⟩ := op1 I tk8
              refine cGoL (cRunU (As := [.int i2]) (rest := []) C9 hml hN hNs V I hS (cRc C9 V tk8.1 hf31 rfl) (c_X9_detail l D ks τ L A N hN  ψ f26 y5 i2 (tyS_of tk8 (by decide)) ) (va_cwU 1 hts gU_X12_197_X2 rfl rfl rfl rfl okU_X12_197 ⟨Nat.le_of_ble_eq_true rfl, Nat.le_of_ble_eq_true rfl⟩) hl.1 rfl (Nat.le_of_ble_eq_true rfl) dX12_sync_100 ⟨Nat.le_of_ble_eq_true rfl, Nat.le_of_ble_eq_true rfl⟩) hS (fun r34 p33 f32 H locs hqf32 V I hS => ?_)
              obtain ⟨hqf32, ghqf32⟩ := hqf32
              replace hG := gC_e hG ghqf32
              have I : cI ks τ L ψ f32 := by rw [show p33 = ψ from hqf32] at I; exact I
              exact cRx (Nat.le_of_ble_eq_true rfl) (Nat.le_of_ble_eq_true rfl) (cRetL C9 hr hlk hN hNs V I hS (⟨rfl, hG.symm⟩) dX12_sync_103)
            rcases List.mem_cons.mp hm30 with rfl | hm30
            · replace hG := gIf_n hG (fun z9 => absurd (hThm30.symm.trans z9) (by decide))
              replace hG := gIf_p hG hThm30
              refine lv_aload_n hx hb dX12_sync_84 rfl (lv_at hl 0 rfl) ?_
              obtain ⟨v35_0, v35_1, v35_2, v35_3, v35_4, hf35, t35_2⟩ := op1 I tk8
              refine cGoL (cRunU (As := []) (rest := []) C9 hml hN hNs V I hS (cRc C9 V tk8.1 hf35 rfl) (c_X2_value l D ks τ L A N hN  ψ f26 y5 tk8 ) (va_cwA 0 hts gA_X12_186_X2 rfl rfl rfl (h0.2.2.2.2.2.2.2.2.1 _ (by simp [nwL])) okU_X12_186 ⟨Nat.le_of_ble_eq_true rfl, Nat.le_of_ble_eq_true rfl⟩) hl.1 rfl (Nat.le_of_ble_eq_true rfl) dX12_sync_85 ⟨Nat.le_of_ble_eq_true rfl, Nat.le_of_ble_eq_true rfl⟩) hS (fun r38 p37 f36 H locs hqf36 V I hS => ?_)
              obtain ⟨hqf36, ghqf36⟩ := hqf36
              replace hG := gC_e hG ghqf36
              have I : cI ks τ L ψ f36 := by rw [show p37 = ψ from hqf36] at I; exact I
              exact cRx (Nat.le_of_ble_eq_true rfl) (Nat.le_of_ble_eq_true rfl) (cRetL C9 hr hlk hN hNs V I hS (⟨rfl, hG.symm⟩) dX12_sync_88)
            rcases List.mem_cons.mp hm30 with rfl | hm30
            · replace hG := gIf_n hG (fun z9 => absurd (hThm30.symm.trans z9) (by decide))
              replace hG := gIf_n hG (fun z9 => absurd (hThm30.symm.trans z9) (by decide))
              refine lv_aload_n hx hb dX12_sync_89 rfl (lv_at hl 0 rfl) ?_
              obtain ⟨v39_0, v39_1, v39_2, v39_3, v39_4, hf39, t39_2⟩ := op1 I tk8
              refine cG C9 V tk8.1 hf39 rfl tC_lay1 2 (by decide) tCf_X12_190 (Or.inl rfl) rfl dX12_sync_90 ?_
              replace hG := gLt_e hG (view_gR hf39 rfl)
              obtain ⟨v40_0, v40_1, hf40, hn40, t40_1⟩ := op5 I t39_2
              refine cG C9 V t39_2.1 hf40 rfl tC_lay5 0 (by decide) tCf_X12_194 (Or.inl rfl) rfl dX12_sync_93 ?_
              replace hG := gLt_e hG (view_gI hf40 rfl)
              refine lv_i2l hx hb dX12_sync_96 rfl ?_
              exact cRx (Nat.le_of_ble_eq_true rfl) (Nat.le_of_ble_eq_true rfl) (cRetL C9 hr hlk hN hNs V I hS (⟨rfl, hG.symm⟩) dX12_sync_97)
            exact absurd hm30 List.not_mem_nil
          · replace hG := gIf_p hG c29
            exact cThr (text := "its KIND has no such number") (names := xNm) C9 h0 V I hS hlt hET hlk hml hl.1 (xw_89_93 hts h0) (by simp [nMs]) (by simp) (⟨rfl, Or.inr (Or.inr (⟨rfl, hG.symm⟩))⟩) ⟨Nat.le_of_ble_eq_true rfl, Nat.le_of_ble_eq_true rfl, Nat.le_of_ble_eq_true rfl, Nat.le_of_ble_eq_true rfl⟩ ⟨Nat.le_of_ble_eq_true rfl, Nat.le_of_ble_eq_true rfl⟩ dX12_sync_47 dX12_sync_50 dX12_sync_51 dX12_sync_53 dX12_sync_56
        · have tk8 : ty τ L y5 2 := ⟨hL8, hk8⟩
          obtain ⟨v41_0, v41_1, v41_2, v41_3, hf41, t41_2⟩ := op2 I tk8
          replace hG := gIf_n hG (view_cn hf41 (by decide : 2 ≠ 0))
          replace hG := gIf_n hG (view_cn hf41 (by decide : 2 ≠ 1))
          replace hG := gIf_p hG (view_c hf41)
          refine cGoI (cRunU (As := [.int i2]) (rest := []) C9 hml hN hNs V I hS (cRc C9 V tk8.1 hf41 rfl) (c_X9_tells l D ks τ L A N hN  ψ f2 y5 i2 (tyS_of tk8 (by decide)) ) (va_cwU 1 hts gU_X12_180_X3 rfl rfl rfl rfl okU_X12_180 ⟨Nat.le_of_ble_eq_true rfl, Nat.le_of_ble_eq_true rfl⟩) hl.1 rfl (Nat.le_of_ble_eq_true rfl) dX12_sync_41 ⟨Nat.le_of_ble_eq_true rfl, Nat.le_of_ble_eq_true rfl⟩) hS (fun r44 p43 f42 H locs hqf42 V I hS => ?_)
          obtain ⟨hqf42, ghqf42⟩ := hqf42
          replace hG := gC_e hG ghqf42
          have I : cI ks τ L ψ f42 := by rw [show p43 = ψ from hqf42] at I; exact I
          refine lv_if_ne (tgt := 57) hx hb dX12_sync_44 (by decide) (fun c45 => ?_) (fun c45 => ?_)
          · replace hG := gIf_n hG c45
            refine lv_iload_n hx hb dX12_sync_57 rfl (lv_at hl 3 rfl) ?_
            refine cLookG hx hb [98, 84, 89] dX12_sync_58 rfl (by decide) ?_
            intro t9 hm46 hThm46
            rcases List.mem_cons.mp hm46 with rfl | hm46
            · replace hG := gIf_p hG hThm46
              refine lv_aload_n hx hb dX12_sync_98 rfl (lv_at hl 0 rfl) ?_
              refine lv_iload_n hx hb dX12_sync_99 rfl (lv_at hl 3 rfl) ?_
              obtain ⟨v47_0, v47_1, v47_2, v47_3, hf47, t47_2⟩ := op2 I tk8
              refine cGoL (cRunU (As := [.int i2]) (rest := []) C9 hml hN hNs V I hS (cRc C9 V tk8.1 hf47 rfl) (c_X9_detail l D ks τ L A N hN  ψ f42 y5 i2 (tyS_of tk8 (by decide)) ) (va_cwU 1 hts gU_X12_197_X3 rfl rfl rfl rfl okU_X12_197 ⟨Nat.le_of_ble_eq_true rfl, Nat.le_of_ble_eq_true rfl⟩) hl.1 rfl (Nat.le_of_ble_eq_true rfl) dX12_sync_100 ⟨Nat.le_of_ble_eq_true rfl, Nat.le_of_ble_eq_true rfl⟩) hS (fun r50 p49 f48 H locs hqf48 V I hS => ?_)
              obtain ⟨hqf48, ghqf48⟩ := hqf48
              replace hG := gC_e hG ghqf48
              have I : cI ks τ L ψ f48 := by rw [show p49 = ψ from hqf48] at I; exact I
              exact cRx (Nat.le_of_ble_eq_true rfl) (Nat.le_of_ble_eq_true rfl) (cRetL C9 hr hlk hN hNs V I hS (⟨rfl, hG.symm⟩) dX12_sync_103)
            rcases List.mem_cons.mp hm46 with rfl | hm46
            · replace hG := gIf_n hG (fun z9 => absurd (hThm46.symm.trans z9) (by decide))
              replace hG := gIf_p hG hThm46
              refine lv_aload_n hx hb dX12_sync_84 rfl (lv_at hl 0 rfl) ?_
              obtain ⟨v51_0, v51_1, v51_2, v51_3, hf51, t51_2⟩ := op2 I tk8
              refine cGoL (cRunU (As := []) (rest := []) C9 hml hN hNs V I hS (cRc C9 V tk8.1 hf51 rfl) (c_X3_value l D ks τ L A N hN  ψ f42 y5 tk8 ) (va_cwA 0 hts gA_X12_186_X3 rfl rfl rfl (h0.2.2.2.2.2.2.2.2.1 _ (by simp [nwL])) okU_X12_186 ⟨Nat.le_of_ble_eq_true rfl, Nat.le_of_ble_eq_true rfl⟩) hl.1 rfl (Nat.le_of_ble_eq_true rfl) dX12_sync_85 ⟨Nat.le_of_ble_eq_true rfl, Nat.le_of_ble_eq_true rfl⟩) hS (fun r54 p53 f52 H locs hqf52 V I hS => ?_)
              obtain ⟨hqf52, ghqf52⟩ := hqf52
              replace hG := gC_e hG ghqf52
              have I : cI ks τ L ψ f52 := by rw [show p53 = ψ from hqf52] at I; exact I
              exact cRx (Nat.le_of_ble_eq_true rfl) (Nat.le_of_ble_eq_true rfl) (cRetL C9 hr hlk hN hNs V I hS (⟨rfl, hG.symm⟩) dX12_sync_88)
            rcases List.mem_cons.mp hm46 with rfl | hm46
            · replace hG := gIf_n hG (fun z9 => absurd (hThm46.symm.trans z9) (by decide))
              replace hG := gIf_n hG (fun z9 => absurd (hThm46.symm.trans z9) (by decide))
              refine lv_aload_n hx hb dX12_sync_89 rfl (lv_at hl 0 rfl) ?_
              obtain ⟨v55_0, v55_1, v55_2, v55_3, hf55, t55_2⟩ := op2 I tk8
              refine cG C9 V tk8.1 hf55 rfl tC_lay2 2 (by decide) tCf_X12_190 (Or.inl rfl) rfl dX12_sync_90 ?_
              replace hG := gLt_e hG (view_gR hf55 rfl)
              obtain ⟨v56_0, v56_1, hf56, hn56, t56_1⟩ := op5 I t55_2
              refine cG C9 V t55_2.1 hf56 rfl tC_lay5 0 (by decide) tCf_X12_194 (Or.inl rfl) rfl dX12_sync_93 ?_
              replace hG := gLt_e hG (view_gI hf56 rfl)
              refine lv_i2l hx hb dX12_sync_96 rfl ?_
              exact cRx (Nat.le_of_ble_eq_true rfl) (Nat.le_of_ble_eq_true rfl) (cRetL C9 hr hlk hN hNs V I hS (⟨rfl, hG.symm⟩) dX12_sync_97)
            exact absurd hm46 List.not_mem_nil
          · replace hG := gIf_p hG c45
            exact cThr (text := "its KIND has no such number") (names := xNm) C9 h0 V I hS hlt hET hlk hml hl.1 (xw_89_93 hts h0) (by simp [nMs]) (by simp) (⟨rfl, Or.inr (Or.inr (⟨rfl, hG.symm⟩))⟩) ⟨Nat.le_of_ble_eq_true rfl, Nat.le_of_ble_eq_true rfl, Nat.le_of_ble_eq_true rfl, Nat.le_of_ble_eq_true rfl⟩ ⟨Nat.le_of_ble_eq_true rfl, Nat.le_of_ble_eq_true rfl⟩ dX12_sync_47 dX12_sync_50 dX12_sync_51 dX12_sync_53 dX12_sync_56
        · have tk8 : ty τ L y5 3 := ⟨hL8, hk8⟩
          obtain ⟨v57_0, v57_1, v57_2, v57_3, v57_4, v57_5, v57_6, hf57, t57_2, t57_6⟩ := op3 I tk8
          replace hG := gIf_n hG (view_cn hf57 (by decide : 3 ≠ 0))
          replace hG := gIf_n hG (view_cn hf57 (by decide : 3 ≠ 1))
          replace hG := gIf_n hG (view_cn hf57 (by decide : 3 ≠ 2))
          replace hG := gIf_p hG (view_c hf57)
          refine cGoI (cRunU (As := [.int i2]) (rest := []) C9 hml hN hNs V I hS (cRc C9 V tk8.1 hf57 rfl) (c_X4_tells l D ks τ L A N hN  ψ f2 y5 i2 tk8 ) (va_cwO 1 hts gO_X12_180_X4 rfl rfl rfl gO0_X12_180_X4 okU_X12_180 ⟨Nat.le_of_ble_eq_true rfl, Nat.le_of_ble_eq_true rfl⟩) hl.1 rfl (Nat.le_of_ble_eq_true rfl) dX12_sync_41 ⟨Nat.le_of_ble_eq_true rfl, Nat.le_of_ble_eq_true rfl⟩) hS (fun r60 p59 f58 H locs hqf58 V I hS => ?_)
          obtain ⟨hqf58, ghqf58⟩ := hqf58
          replace hG := gC_e hG ghqf58
          have I : cI ks τ L ψ f58 := by rw [show p59 = ψ from hqf58] at I; exact I
          refine lv_if_ne (tgt := 57) hx hb dX12_sync_44 (by decide) (fun c61 => ?_) (fun c61 => ?_)
          · replace hG := gIf_n hG c61
            refine lv_iload_n hx hb dX12_sync_57 rfl (lv_at hl 3 rfl) ?_
            refine cLookG hx hb [98, 84, 89] dX12_sync_58 rfl (by decide) ?_
            intro t9 hm62 hThm62
            rcases List.mem_cons.mp hm62 with rfl | hm62
            · replace hG := gIf_p hG hThm62
              refine lv_aload_n hx hb dX12_sync_98 rfl (lv_at hl 0 rfl) ?_
              refine lv_iload_n hx hb dX12_sync_99 rfl (lv_at hl 3 rfl) ?_
              obtain ⟨v63_0, v63_1, v63_2, v63_3, v63_4, v63_5, v63_6, hf63, t63_2, t63_6⟩ := op3 I tk8
              refine cGoL (cRunU (As := [.int i2]) (rest := []) C9 hml hN hNs V I hS (cRc C9 V tk8.1 hf63 rfl) (c_X4_detail l D ks τ L A N hN  ψ f58 y5 i2 tk8 ) (va_cwO 1 hts gO_X12_197_X4 rfl rfl rfl gO0_X12_197_X4 okU_X12_197 ⟨Nat.le_of_ble_eq_true rfl, Nat.le_of_ble_eq_true rfl⟩) hl.1 rfl (Nat.le_of_ble_eq_true rfl) dX12_sync_100 ⟨Nat.le_of_ble_eq_true rfl, Nat.le_of_ble_eq_true rfl⟩) hS (fun r66 p65 f64 H locs hqf64 V I hS => ?_)
              obtain ⟨hqf64, ghqf64⟩ := hqf64
              replace hG := gC_e hG ghqf64
              have I : cI ks τ L ψ f64 := by rw [show p65 = ψ from hqf64] at I; exact I
              exact cRx (Nat.le_of_ble_eq_true rfl) (Nat.le_of_ble_eq_true rfl) (cRetL C9 hr hlk hN hNs V I hS (⟨rfl, hG.symm⟩) dX12_sync_103)
            rcases List.mem_cons.mp hm62 with rfl | hm62
            · replace hG := gIf_n hG (fun z9 => absurd (hThm62.symm.trans z9) (by decide))
              replace hG := gIf_p hG hThm62
              refine lv_aload_n hx hb dX12_sync_84 rfl (lv_at hl 0 rfl) ?_
              obtain ⟨v67_0, v67_1, v67_2, v67_3, v67_4, v67_5, v67_6, hf67, t67_2, t67_6⟩ := op3 I tk8
              refine cGoL (cRunU (As := []) (rest := []) C9 hml hN hNs V I hS (cRc C9 V tk8.1 hf67 rfl) (c_X4_value l D ks τ L A N hN  ψ f58 y5 tk8 ) (va_cwA 0 hts gA_X12_186_X4 rfl rfl rfl (h0.2.2.2.2.2.2.2.2.1 _ (by simp [nwL])) okU_X12_186 ⟨Nat.le_of_ble_eq_true rfl, Nat.le_of_ble_eq_true rfl⟩) hl.1 rfl (Nat.le_of_ble_eq_true rfl) dX12_sync_85 ⟨Nat.le_of_ble_eq_true rfl, Nat.le_of_ble_eq_true rfl⟩) hS (fun r70 p69 f68 H locs hqf68 V I hS => ?_)
              obtain ⟨hqf68, ghqf68⟩ := hqf68
              replace hG := gC_e hG ghqf68
              have I : cI ks τ L ψ f68 := by rw [show p69 = ψ from hqf68] at I; exact I
              exact cRx (Nat.le_of_ble_eq_true rfl) (Nat.le_of_ble_eq_true rfl) (cRetL C9 hr hlk hN hNs V I hS (⟨rfl, hG.symm⟩) dX12_sync_88)
            rcases List.mem_cons.mp hm62 with rfl | hm62
            · replace hG := gIf_n hG (fun z9 => absurd (hThm62.symm.trans z9) (by decide))
              replace hG := gIf_n hG (fun z9 => absurd (hThm62.symm.trans z9) (by decide))
              refine lv_aload_n hx hb dX12_sync_89 rfl (lv_at hl 0 rfl) ?_
              obtain ⟨v71_0, v71_1, v71_2, v71_3, v71_4, v71_5, v71_6, hf71, t71_2, t71_6⟩ := op3 I tk8
              refine cG C9 V tk8.1 hf71 rfl tC_lay3 2 (by decide) tCf_X12_190 (Or.inl rfl) rfl dX12_sync_90 ?_
              replace hG := gLt_e hG (view_gR hf71 rfl)
              obtain ⟨v72_0, v72_1, hf72, hn72, t72_1⟩ := op5 I t71_2
              refine cG C9 V t71_2.1 hf72 rfl tC_lay5 0 (by decide) tCf_X12_194 (Or.inl rfl) rfl dX12_sync_93 ?_
              replace hG := gLt_e hG (view_gI hf72 rfl)
              refine lv_i2l hx hb dX12_sync_96 rfl ?_
              exact cRx (Nat.le_of_ble_eq_true rfl) (Nat.le_of_ble_eq_true rfl) (cRetL C9 hr hlk hN hNs V I hS (⟨rfl, hG.symm⟩) dX12_sync_97)
            exact absurd hm62 List.not_mem_nil
          · replace hG := gIf_p hG c61
            exact cThr (text := "its KIND has no such number") (names := xNm) C9 h0 V I hS hlt hET hlk hml hl.1 (xw_89_93 hts h0) (by simp [nMs]) (by simp) (⟨rfl, Or.inr (Or.inr (⟨rfl, hG.symm⟩))⟩) ⟨Nat.le_of_ble_eq_true rfl, Nat.le_of_ble_eq_true rfl, Nat.le_of_ble_eq_true rfl, Nat.le_of_ble_eq_true rfl⟩ ⟨Nat.le_of_ble_eq_true rfl, Nat.le_of_ble_eq_true rfl⟩ dX12_sync_47 dX12_sync_50 dX12_sync_51 dX12_sync_53 dX12_sync_56
        · have tk8 : ty τ L y5 4 := ⟨hL8, hk8⟩
          obtain ⟨v73_0, v73_1, v73_2, v73_3, v73_4, v73_5, c73, hf73, t73_2, t73_3, hc73, h073, h173⟩ := op4 I tk8
          replace hG := gIf_n hG (view_cn hf73 (by decide : 4 ≠ 0))
          replace hG := gIf_n hG (view_cn hf73 (by decide : 4 ≠ 1))
          replace hG := gIf_n hG (view_cn hf73 (by decide : 4 ≠ 2))
          replace hG := gIf_n hG (view_cn hf73 (by decide : 4 ≠ 3))
          replace hG := gIf_p hG (view_c hf73)
          refine cGoI (cRunU (As := [.int i2]) (rest := []) C9 hml hN hNs V I hS (cRc C9 V tk8.1 hf73 rfl) (c_X5_tells l D ks τ L A N hN  ψ f2 y5 i2 tk8 ) (va_cwO 1 hts gO_X12_180_X5 rfl rfl rfl gO0_X12_180_X5 okU_X12_180 ⟨Nat.le_of_ble_eq_true rfl, Nat.le_of_ble_eq_true rfl⟩) hl.1 rfl (Nat.le_of_ble_eq_true rfl) dX12_sync_41 ⟨Nat.le_of_ble_eq_true rfl, Nat.le_of_ble_eq_true rfl⟩) hS (fun r76 p75 f74 H locs hqf74 V I hS => ?_)
          obtain ⟨hqf74, ghqf74⟩ := hqf74
          replace hG := gC_e hG ghqf74
          have I : cI ks τ L ψ f74 := by rw [show p75 = ψ from hqf74] at I; exact I
          refine lv_if_ne (tgt := 57) hx hb dX12_sync_44 (by decide) (fun c77 => ?_) (fun c77 => ?_)
          · replace hG := gIf_n hG c77
            refine lv_iload_n hx hb dX12_sync_57 rfl (lv_at hl 3 rfl) ?_
            refine cLookG hx hb [98, 84, 89] dX12_sync_58 rfl (by decide) ?_
            intro t9 hm78 hThm78
            rcases List.mem_cons.mp hm78 with rfl | hm78
            · replace hG := gIf_p hG hThm78
              refine lv_aload_n hx hb dX12_sync_98 rfl (lv_at hl 0 rfl) ?_
              refine lv_iload_n hx hb dX12_sync_99 rfl (lv_at hl 3 rfl) ?_
              obtain ⟨v79_0, v79_1, v79_2, v79_3, v79_4, v79_5, c79, hf79, t79_2, t79_3, hc79, h079, h179⟩ := op4 I tk8
              refine cGoL (cRunU (As := [.int i2]) (rest := []) C9 hml hN hNs V I hS (cRc C9 V tk8.1 hf79 rfl) (c_X5_detail l D ks τ L A N hN  ψ f74 y5 i2 tk8 ) (va_cwO 1 hts gO_X12_197_X5 rfl rfl rfl gO0_X12_197_X5 okU_X12_197 ⟨Nat.le_of_ble_eq_true rfl, Nat.le_of_ble_eq_true rfl⟩) hl.1 rfl (Nat.le_of_ble_eq_true rfl) dX12_sync_100 ⟨Nat.le_of_ble_eq_true rfl, Nat.le_of_ble_eq_true rfl⟩) hS (fun r82 p81 f80 H locs hqf80 V I hS => ?_)
              obtain ⟨hqf80, ghqf80⟩ := hqf80
              replace hG := gC_e hG ghqf80
              have I : cI ks τ L ψ f80 := by rw [show p81 = ψ from hqf80] at I; exact I
              exact cRx (Nat.le_of_ble_eq_true rfl) (Nat.le_of_ble_eq_true rfl) (cRetL C9 hr hlk hN hNs V I hS (⟨rfl, hG.symm⟩) dX12_sync_103)
            rcases List.mem_cons.mp hm78 with rfl | hm78
            · replace hG := gIf_n hG (fun z9 => absurd (hThm78.symm.trans z9) (by decide))
              replace hG := gIf_p hG hThm78
              refine lv_aload_n hx hb dX12_sync_84 rfl (lv_at hl 0 rfl) ?_
              obtain ⟨v83_0, v83_1, v83_2, v83_3, v83_4, v83_5, c83, hf83, t83_2, t83_3, hc83, h083, h183⟩ := op4 I tk8
              refine cGoL (cRunU (As := []) (rest := []) C9 hml hN hNs V I hS (cRc C9 V tk8.1 hf83 rfl) (c_X5_value l D ks τ L A N hN  ψ f74 y5 tk8 ) (va_cwA 0 hts gA_X12_186_X5 rfl rfl rfl (h0.2.2.2.2.2.2.2.2.1 _ (by simp [nwL])) okU_X12_186 ⟨Nat.le_of_ble_eq_true rfl, Nat.le_of_ble_eq_true rfl⟩) hl.1 rfl (Nat.le_of_ble_eq_true rfl) dX12_sync_85 ⟨Nat.le_of_ble_eq_true rfl, Nat.le_of_ble_eq_true rfl⟩) hS (fun r86 p85 f84 H locs hqf84 V I hS => ?_)
              obtain ⟨hqf84, ghqf84⟩ := hqf84
              replace hG := gC_e hG ghqf84
              have I : cI ks τ L ψ f84 := by rw [show p85 = ψ from hqf84] at I; exact I
              exact cRx (Nat.le_of_ble_eq_true rfl) (Nat.le_of_ble_eq_true rfl) (cRetL C9 hr hlk hN hNs V I hS (⟨rfl, hG.symm⟩) dX12_sync_88)
            rcases List.mem_cons.mp hm78 with rfl | hm78
            · replace hG := gIf_n hG (fun z9 => absurd (hThm78.symm.trans z9) (by decide))
              replace hG := gIf_n hG (fun z9 => absurd (hThm78.symm.trans z9) (by decide))
              refine lv_aload_n hx hb dX12_sync_89 rfl (lv_at hl 0 rfl) ?_
              obtain ⟨v87_0, v87_1, v87_2, v87_3, v87_4, v87_5, c87, hf87, t87_2, t87_3, hc87, h087, h187⟩ := op4 I tk8
              refine cG C9 V tk8.1 hf87 rfl tC_lay4 2 (by decide) tCf_X12_190 (Or.inl rfl) rfl dX12_sync_90 ?_
              replace hG := gLt_e hG (view_gR hf87 rfl)
              obtain ⟨v88_0, v88_1, hf88, hn88, t88_1⟩ := op5 I t87_2
              refine cG C9 V t87_2.1 hf88 rfl tC_lay5 0 (by decide) tCf_X12_194 (Or.inl rfl) rfl dX12_sync_93 ?_
              replace hG := gLt_e hG (view_gI hf88 rfl)
              refine lv_i2l hx hb dX12_sync_96 rfl ?_
              exact cRx (Nat.le_of_ble_eq_true rfl) (Nat.le_of_ble_eq_true rfl) (cRetL C9 hr hlk hN hNs V I hS (⟨rfl, hG.symm⟩) dX12_sync_97)
            exact absurd hm78 List.not_mem_nil
          · replace hG := gIf_p hG c77
            exact cThr (text := "its KIND has no such number") (names := xNm) C9 h0 V I hS hlt hET hlk hml hl.1 (xw_89_93 hts h0) (by simp [nMs]) (by simp) (⟨rfl, Or.inr (Or.inr (⟨rfl, hG.symm⟩))⟩) ⟨Nat.le_of_ble_eq_true rfl, Nat.le_of_ble_eq_true rfl, Nat.le_of_ble_eq_true rfl, Nat.le_of_ble_eq_true rfl⟩ ⟨Nat.le_of_ble_eq_true rfl, Nat.le_of_ble_eq_true rfl⟩ dX12_sync_47 dX12_sync_50 dX12_sync_51 dX12_sync_53 dX12_sync_56
        · have tk8 : ty τ L y5 6 := ⟨hL8, hk8⟩
          obtain ⟨v89_0, v89_1, v89_2, v89_3, hf89, t89_2⟩ := op6 I tk8
          replace hG := gIf_n hG (view_cn hf89 (by decide : 6 ≠ 0))
          replace hG := gIf_n hG (view_cn hf89 (by decide : 6 ≠ 1))
          replace hG := gIf_n hG (view_cn hf89 (by decide : 6 ≠ 2))
          replace hG := gIf_n hG (view_cn hf89 (by decide : 6 ≠ 3))
          replace hG := gIf_n hG (view_cn hf89 (by decide : 6 ≠ 4))
          refine cGoI (cRunU (As := [.int i2]) (rest := []) C9 hml hN hNs V I hS (cRc C9 V tk8.1 hf89 rfl) (c_X9_tells l D ks τ L A N hN  ψ f2 y5 i2 (tyS_of tk8 (by decide)) ) (va_cwU 1 hts gU_X12_180_X7 rfl rfl rfl rfl okU_X12_180 ⟨Nat.le_of_ble_eq_true rfl, Nat.le_of_ble_eq_true rfl⟩) hl.1 rfl (Nat.le_of_ble_eq_true rfl) dX12_sync_41 ⟨Nat.le_of_ble_eq_true rfl, Nat.le_of_ble_eq_true rfl⟩) hS (fun r92 p91 f90 H locs hqf90 V I hS => ?_)
          obtain ⟨hqf90, ghqf90⟩ := hqf90
          replace hG := gC_e hG ghqf90
          have I : cI ks τ L ψ f90 := by rw [show p91 = ψ from hqf90] at I; exact I
          refine lv_if_ne (tgt := 57) hx hb dX12_sync_44 (by decide) (fun c93 => ?_) (fun c93 => ?_)
          · replace hG := gIf_n hG c93
            refine lv_iload_n hx hb dX12_sync_57 rfl (lv_at hl 3 rfl) ?_
            refine cLookG hx hb [98, 84, 89] dX12_sync_58 rfl (by decide) ?_
            intro t9 hm94 hThm94
            rcases List.mem_cons.mp hm94 with rfl | hm94
            · replace hG := gIf_p hG hThm94
              refine lv_aload_n hx hb dX12_sync_98 rfl (lv_at hl 0 rfl) ?_
              refine lv_iload_n hx hb dX12_sync_99 rfl (lv_at hl 3 rfl) ?_
              obtain ⟨v95_0, v95_1, v95_2, v95_3, hf95, t95_2⟩ := op6 I tk8
              refine cGoL (cRunU (As := [.int i2]) (rest := []) C9 hml hN hNs V I hS (cRc C9 V tk8.1 hf95 rfl) (c_X9_detail l D ks τ L A N hN  ψ f90 y5 i2 (tyS_of tk8 (by decide)) ) (va_cwU 1 hts gU_X12_197_X7 rfl rfl rfl rfl okU_X12_197 ⟨Nat.le_of_ble_eq_true rfl, Nat.le_of_ble_eq_true rfl⟩) hl.1 rfl (Nat.le_of_ble_eq_true rfl) dX12_sync_100 ⟨Nat.le_of_ble_eq_true rfl, Nat.le_of_ble_eq_true rfl⟩) hS (fun r98 p97 f96 H locs hqf96 V I hS => ?_)
              obtain ⟨hqf96, ghqf96⟩ := hqf96
              replace hG := gC_e hG ghqf96
              have I : cI ks τ L ψ f96 := by rw [show p97 = ψ from hqf96] at I; exact I
              exact cRx (Nat.le_of_ble_eq_true rfl) (Nat.le_of_ble_eq_true rfl) (cRetL C9 hr hlk hN hNs V I hS (⟨rfl, hG.symm⟩) dX12_sync_103)
            rcases List.mem_cons.mp hm94 with rfl | hm94
            · replace hG := gIf_n hG (fun z9 => absurd (hThm94.symm.trans z9) (by decide))
              replace hG := gIf_p hG hThm94
              refine lv_aload_n hx hb dX12_sync_84 rfl (lv_at hl 0 rfl) ?_
              obtain ⟨v99_0, v99_1, v99_2, v99_3, hf99, t99_2⟩ := op6 I tk8
              refine cGoL (cRunU (As := []) (rest := []) C9 hml hN hNs V I hS (cRc C9 V tk8.1 hf99 rfl) (c_X7_value l D ks τ L A N hN  ψ f90 y5 tk8 ) (va_cwA 0 hts gA_X12_186_X7 rfl rfl rfl (h0.2.2.2.2.2.2.2.2.1 _ (by simp [nwL])) okU_X12_186 ⟨Nat.le_of_ble_eq_true rfl, Nat.le_of_ble_eq_true rfl⟩) hl.1 rfl (Nat.le_of_ble_eq_true rfl) dX12_sync_85 ⟨Nat.le_of_ble_eq_true rfl, Nat.le_of_ble_eq_true rfl⟩) hS (fun r102 p101 f100 H locs hqf100 V I hS => ?_)
              obtain ⟨hqf100, ghqf100⟩ := hqf100
              replace hG := gC_e hG ghqf100
              have I : cI ks τ L ψ f100 := by rw [show p101 = ψ from hqf100] at I; exact I
              exact cRx (Nat.le_of_ble_eq_true rfl) (Nat.le_of_ble_eq_true rfl) (cRetL C9 hr hlk hN hNs V I hS (⟨rfl, hG.symm⟩) dX12_sync_88)
            rcases List.mem_cons.mp hm94 with rfl | hm94
            · replace hG := gIf_n hG (fun z9 => absurd (hThm94.symm.trans z9) (by decide))
              replace hG := gIf_n hG (fun z9 => absurd (hThm94.symm.trans z9) (by decide))
              refine lv_aload_n hx hb dX12_sync_89 rfl (lv_at hl 0 rfl) ?_
              obtain ⟨v103_0, v103_1, v103_2, v103_3, hf103, t103_2⟩ := op6 I tk8
              refine cG C9 V tk8.1 hf103 rfl tC_lay6 2 (by decide) tCf_X12_190 (Or.inl rfl) rfl dX12_sync_90 ?_
              replace hG := gLt_e hG (view_gR hf103 rfl)
              obtain ⟨v104_0, v104_1, hf104, hn104, t104_1⟩ := op5 I t103_2
              refine cG C9 V t103_2.1 hf104 rfl tC_lay5 0 (by decide) tCf_X12_194 (Or.inl rfl) rfl dX12_sync_93 ?_
              replace hG := gLt_e hG (view_gI hf104 rfl)
              refine lv_i2l hx hb dX12_sync_96 rfl ?_
              exact cRx (Nat.le_of_ble_eq_true rfl) (Nat.le_of_ble_eq_true rfl) (cRetL C9 hr hlk hN hNs V I hS (⟨rfl, hG.symm⟩) dX12_sync_97)
            exact absurd hm94 List.not_mem_nil
          · replace hG := gIf_p hG c93
            exact cThr (text := "its KIND has no such number") (names := xNm) C9 h0 V I hS hlt hET hlk hml hl.1 (xw_89_93 hts h0) (by simp [nMs]) (by simp) (⟨rfl, Or.inr (Or.inr (⟨rfl, hG.symm⟩))⟩) ⟨Nat.le_of_ble_eq_true rfl, Nat.le_of_ble_eq_true rfl, Nat.le_of_ble_eq_true rfl, Nat.le_of_ble_eq_true rfl⟩ ⟨Nat.le_of_ble_eq_true rfl, Nat.le_of_ble_eq_true rfl⟩ dX12_sync_47 dX12_sync_50 dX12_sync_51 dX12_sync_53 dX12_sync_56
      · replace hG := gIf_n hG c7
        exact cThr (text := "what is out of range") (names := xNm) C9 h0 V I hS hlt hET hlk hml hl.1 (xw_48_52 hts h0) (by simp [nMs]) (by simp) (⟨rfl, Or.inr (Or.inl (⟨rfl, hG.symm⟩))⟩) ⟨Nat.le_of_ble_eq_true rfl, Nat.le_of_ble_eq_true rfl, Nat.le_of_ble_eq_true rfl, Nat.le_of_ble_eq_true rfl⟩ ⟨Nat.le_of_ble_eq_true rfl, Nat.le_of_ble_eq_true rfl⟩ dX12_sync_29 dX12_sync_32 dX12_sync_33 dX12_sync_35 dX12_sync_38
def FC_X12_count (X : xS) (o0 : Nat) (i1 : Int32) : Int32 × Int64 × xS := if (i1 : Int32) < 10 then (if tabT 38 (68) (0) (4) [34, 43, 49, 58, 63] i1 = 106 then (((1 : Int32), (0 : Int64), X)) else (if tabT 38 (68) (0) (4) [34, 43, 49, 58, 63] i1 = 72 then (gLt ((xR X o0 0).getD 0 : Nat) (fun v3_0 => gLt (xI X v3_0 2 : Int32) (fun ψ => ((0 : Int32), ((Int32.toInt64 ψ) : Int64), X)))) else (if tabT 38 (68) (0) (4) [34, 43, 49, 58, 63] i1 = 81 then (gC (FC_X12_howManySyncs X o0) (fun r8 Xf6 => ((0 : Int32), ((Int32.toInt64 r8) : Int64), Xf6))) else (if tabT 38 (68) (0) (4) [34, 43, 49, 58, 63] i1 = 87 then (gLt ((xR X o0 0).getD 0 : Nat) (fun v9_0 => gLt (xI X v9_0 3 : Int32) (fun v10_3 => ((0 : Int32), ((Int32.toInt64 v10_3) : Int64), X)))) else (if tabT 38 (68) (0) (4) [34, 43, 49, 58, 63] i1 = 96 then (gLt (xJ X o0 3 : Int64) (fun v11_3 => ((0 : Int32), (v11_3 : Int64), X))) else (gLt (xJ X o0 4 : Int64) (fun v12_4 => ((0 : Int32), (v12_4 : Int64), X)))))))) else (if 34 ≤ (i1 : Int32) then (if tabT 38 (68) (0) (4) [34, 43, 49, 58, 63] i1 = 106 then (((1 : Int32), (0 : Int64), X)) else (if tabT 38 (68) (0) (4) [34, 43, 49, 58, 63] i1 = 72 then (gLt ((xR X o0 0).getD 0 : Nat) (fun v15_0 => gLt (xI X v15_0 2 : Int32) (fun ψ => ((0 : Int32), ((Int32.toInt64 ψ) : Int64), X)))) else (if tabT 38 (68) (0) (4) [34, 43, 49, 58, 63] i1 = 81 then (gC (FC_X12_howManySyncs X o0) (fun r20 Xf18 => ((0 : Int32), ((Int32.toInt64 r20) : Int64), Xf18))) else (if tabT 38 (68) (0) (4) [34, 43, 49, 58, 63] i1 = 87 then (gLt ((xR X o0 0).getD 0 : Nat) (fun v21_0 => gLt (xI X v21_0 3 : Int32) (fun v22_3 => ((0 : Int32), ((Int32.toInt64 v22_3) : Int64), X)))) else (if tabT 38 (68) (0) (4) [34, 43, 49, 58, 63] i1 = 96 then (gLt (xJ X o0 3 : Int64) (fun v23_3 => ((0 : Int32), (v23_3 : Int64), X))) else (gLt (xJ X o0 4 : Int64) (fun v24_4 => ((0 : Int32), (v24_4 : Int64), X)))))))) else (gC (FC_X12_syncAt X o0 (i1 - 10)) (fun r28 Xf26 => gO (r28) (((0 : Int32), ((-1) : Int64), Xf26)) (fun y29 => gLt (xI Xf26 y29 1 : Int32) (fun x30 => ((0 : Int32), ((Int32.toInt64 x30) : Int64), Xf26))))))
set_option maxHeartbeats 200000 in
set_option maxRecDepth 100000 in
theorem c_X12_count (l : Launch) (D : va_G) (ks : kS) (τ : Nat → Nat) (L : List Nat) (A : Nat → Prop) (N : State → Prop) (hN : cNk A N) (κ : kC) (hN0 : ∀ U, N U → N0 κ A U) (hlt : l.stackTraces = false) (ψ : Int32) (f : Nat → va_E) (o0 : Nat) (i1 : Int32) (t_o0 : ty τ L o0 9) : vx_Met l yX12_count (Cond.code yX12_count cX12_count 3 (some .long) :: tC) ({ frames := 6, cells := 1, slots := 6, locals := 100 }) (va_Pc [.ref o0, .int i1] (cB D ks τ L A N (ψ, f))) (va_Ql (fun r9 x9 => (x9.1 = ψ) ∧ ((0 : Int32), r9, view x9.2) = FC_X12_count (view f) o0 i1) (cB D ks τ L A N) A) (cX D ks τ L A ["java/lang/IllegalArgumentException"] (fun e9 x9 => (x9.1 = ψ) ∧ ((e9 = "java/lang/IllegalArgumentException" ∧ ((1 : Int32), (0 : Int64), view x9.2) = FC_X12_count (view f) o0 i1)))) 1 6 A := by
  refine cMetX (own := RX12) (by decide) rfl (Nat.le_of_ble_eq_true rfl) ?_
  intro p e s m below meth c ls C9 hml hr hlk hET V I hNs hl
  have hx := C9.1
  have hb := C9.2.1
  have hown := C9.2.2.1
  have hts := C9.2.2.2.1
  have h0 := hN0 s hNs
  have hS : va_S A s.heap s.heap [] := va_S.rf
  have hG := FC_X12_count.eq_1 (view f) o0 i1
  have hl : lv_has ls 3 [(0, .ref o0), (1, .int i1)] := hl
  refine lv_iload_n hx hb dX12_count_0 rfl (lv_at hl 1 rfl) ?_
  refine lv_bipush (v := 10) hx hb dX12_count_1 (by decide) ?_
  refine lv_icmp_lt (tgt := 37) hx hb dX12_count_3 (by decide) (fun c1 => ?_) (fun c1 => ?_)
  · replace hG := gIf_p hG c1
    refine lv_iload_n hx hb dX12_count_37 rfl (lv_at hl 1 rfl) ?_
    refine cTabG hx hb [106, 72, 81, 87, 96, 101] dX12_count_38 rfl (by decide) ?_
    intro t9 hm2 hThm2
    rcases List.mem_cons.mp hm2 with rfl | hm2
    · replace hG := gIf_p hG hThm2
      exact cThr (text := "what is out of range") (names := xNm) C9 h0 V I hS hlt hET hlk hml hl.1 (xw_48_52 hts h0) (by simp [nMs]) (by simp) (⟨rfl, ⟨rfl, hG.symm⟩⟩) ⟨Nat.le_of_ble_eq_true rfl, Nat.le_of_ble_eq_true rfl, Nat.le_of_ble_eq_true rfl, Nat.le_of_ble_eq_true rfl⟩ ⟨Nat.le_of_ble_eq_true rfl, Nat.le_of_ble_eq_true rfl⟩ dX12_count_106 dX12_count_109 dX12_count_110 dX12_count_112 dX12_count_115
    rcases List.mem_cons.mp hm2 with rfl | hm2
    · replace hG := gIf_n hG (fun z9 => absurd (hThm2.symm.trans z9) (by decide))
      replace hG := gIf_p hG hThm2
      refine lv_aload_n hx hb dX12_count_72 rfl (lv_at hl 0 rfl) ?_
      obtain ⟨v3_0, v3_1, v3_2, v3_3, v3_4, v3_5, hf3, t3_0, t3_1, t3_2⟩ := op9 I t_o0
      refine cG C9 V t_o0.1 hf3 rfl tC_lay9 0 (by decide) tCf_X12_10 (Or.inl rfl) rfl dX12_count_73 ?_
      replace hG := gLt_e hG (view_gR hf3 rfl)
      obtain ⟨v4_0, v4_1, v4_3, v4_4, v4_5, hf4, t4_0, t4_4, hp4, h04, h14⟩ := op8 I t3_0
      refine cG C9 V t3_0.1 hf4 rfl tC_lay8 2 (by decide) tCf_X12_35 (Or.inl rfl) rfl dX12_count_76 ?_
      replace hG := gLt_e hG (view_gI hf4 rfl)
      refine lv_i2l hx hb dX12_count_79 rfl ?_
      exact cRx (Nat.le_of_ble_eq_true rfl) (Nat.le_of_ble_eq_true rfl) (cRetL C9 hr hlk hN hNs V I hS (⟨rfl, hG.symm⟩) dX12_count_80)
    rcases List.mem_cons.mp hm2 with rfl | hm2
    · replace hG := gIf_n hG (fun z9 => absurd (hThm2.symm.trans z9) (by decide))
      replace hG := gIf_n hG (fun z9 => absurd (hThm2.symm.trans z9) (by decide))
      replace hG := gIf_p hG hThm2
      refine lv_aload_n hx hb dX12_count_81 rfl (lv_at hl 0 rfl) ?_
      obtain ⟨v5_0, v5_1, v5_2, v5_3, v5_4, v5_5, hf5, t5_0, t5_1, t5_2⟩ := op9 I t_o0
      refine cGoI (cRunV (As := []) (rest := []) C9 hml hN hNs V I hS t_o0.1 hf5 rfl (c_X12_howManySyncs l D ks τ L A N hN  ψ f o0 t_o0 ) gC_X12_83 okC_X12_howManySyncs ⟨rfl, rfl, Nat.le_of_ble_eq_true rfl, Nat.le_of_ble_eq_true rfl⟩ hl.1 rfl (Nat.le_of_ble_eq_true rfl) dX12_count_82 ⟨Nat.le_of_ble_eq_true rfl, Nat.le_of_ble_eq_true rfl⟩) hS (fun r8 p7 f6 H locs hqf6 V I hS => ?_)
      obtain ⟨hqf6, ghqf6⟩ := hqf6
      replace hG := gC_e hG ghqf6
      have I : cI ks τ L ψ f6 := by rw [show p7 = ψ from hqf6] at I; exact I
      refine lv_i2l hx hb dX12_count_85 rfl ?_
      exact cRx (Nat.le_of_ble_eq_true rfl) (Nat.le_of_ble_eq_true rfl) (cRetL C9 hr hlk hN hNs V I hS (⟨rfl, hG.symm⟩) dX12_count_86)
    rcases List.mem_cons.mp hm2 with rfl | hm2
    · replace hG := gIf_n hG (fun z9 => absurd (hThm2.symm.trans z9) (by decide))
      replace hG := gIf_n hG (fun z9 => absurd (hThm2.symm.trans z9) (by decide))
      replace hG := gIf_n hG (fun z9 => absurd (hThm2.symm.trans z9) (by decide))
      replace hG := gIf_p hG hThm2
      refine lv_aload_n hx hb dX12_count_87 rfl (lv_at hl 0 rfl) ?_
      obtain ⟨v9_0, v9_1, v9_2, v9_3, v9_4, v9_5, hf9, t9_0, t9_1, t9_2⟩ := op9 I t_o0
      refine cG C9 V t_o0.1 hf9 rfl tC_lay9 0 (by decide) tCf_X12_10 (Or.inl rfl) rfl dX12_count_88 ?_
      replace hG := gLt_e hG (view_gR hf9 rfl)
      obtain ⟨v10_0, v10_1, v10_3, v10_4, v10_5, hf10, t10_0, t10_4, hp10, h010, h110⟩ := op8 I t9_0
      refine cG C9 V t9_0.1 hf10 rfl tC_lay8 3 (by decide) tCf_X12_206 (Or.inl rfl) rfl dX12_count_91 ?_
      replace hG := gLt_e hG (view_gI hf10 rfl)
      refine lv_i2l hx hb dX12_count_94 rfl ?_
      exact cRx (Nat.le_of_ble_eq_true rfl) (Nat.le_of_ble_eq_true rfl) (cRetL C9 hr hlk hN hNs V I hS (⟨rfl, hG.symm⟩) dX12_count_95)
    rcases List.mem_cons.mp hm2 with rfl | hm2
    · replace hG := gIf_n hG (fun z9 => absurd (hThm2.symm.trans z9) (by decide))
      replace hG := gIf_n hG (fun z9 => absurd (hThm2.symm.trans z9) (by decide))
      replace hG := gIf_n hG (fun z9 => absurd (hThm2.symm.trans z9) (by decide))
      replace hG := gIf_n hG (fun z9 => absurd (hThm2.symm.trans z9) (by decide))
      replace hG := gIf_p hG hThm2
      refine lv_aload_n hx hb dX12_count_96 rfl (lv_at hl 0 rfl) ?_
      obtain ⟨v11_0, v11_1, v11_2, v11_3, v11_4, v11_5, hf11, t11_0, t11_1, t11_2⟩ := op9 I t_o0
      refine cG C9 V t_o0.1 hf11 rfl tC_lay9 3 (by decide) tCf_X12_129 (Or.inl rfl) rfl dX12_count_97 ?_
      replace hG := gLt_e hG (view_gJ hf11 rfl)
      exact cRx (Nat.le_of_ble_eq_true rfl) (Nat.le_of_ble_eq_true rfl) (cRetL C9 hr hlk hN hNs V I hS (⟨rfl, hG.symm⟩) dX12_count_100)
    rcases List.mem_cons.mp hm2 with rfl | hm2
    · replace hG := gIf_n hG (fun z9 => absurd (hThm2.symm.trans z9) (by decide))
      replace hG := gIf_n hG (fun z9 => absurd (hThm2.symm.trans z9) (by decide))
      replace hG := gIf_n hG (fun z9 => absurd (hThm2.symm.trans z9) (by decide))
      replace hG := gIf_n hG (fun z9 => absurd (hThm2.symm.trans z9) (by decide))
      replace hG := gIf_n hG (fun z9 => absurd (hThm2.symm.trans z9) (by decide))
      refine lv_aload_n hx hb dX12_count_101 rfl (lv_at hl 0 rfl) ?_
      obtain ⟨v12_0, v12_1, v12_2, v12_3, v12_4, v12_5, hf12, t12_0, t12_1, t12_2⟩ := op9 I t_o0
      refine cG C9 V t_o0.1 hf12 rfl tC_lay9 4 (by decide) tCf_X12_209 (Or.inl rfl) rfl dX12_count_102 ?_
      replace hG := gLt_e hG (view_gJ hf12 rfl)
      exact cRx (Nat.le_of_ble_eq_true rfl) (Nat.le_of_ble_eq_true rfl) (cRetL C9 hr hlk hN hNs V I hS (⟨rfl, hG.symm⟩) dX12_count_105)
    exact absurd hm2 List.not_mem_nil
  · replace hG := gIf_n hG c1
    refine lv_iload_n hx hb dX12_count_6 rfl (lv_at hl 1 rfl) ?_
    refine lv_bipush (v := 34) hx hb dX12_count_7 (by decide) ?_
    refine lv_icmp_ge (tgt := 37) hx hb dX12_count_9 (by decide) (fun c13 => ?_) (fun c13 => ?_)
    · replace hG := gIf_p hG c13
      refine lv_iload_n hx hb dX12_count_37 rfl (lv_at hl 1 rfl) ?_
      refine cTabG hx hb [106, 72, 81, 87, 96, 101] dX12_count_38 rfl (by decide) ?_
      intro t9 hm14 hThm14
      rcases List.mem_cons.mp hm14 with rfl | hm14
      · replace hG := gIf_p hG hThm14
        exact cThr (text := "what is out of range") (names := xNm) C9 h0 V I hS hlt hET hlk hml hl.1 (xw_48_52 hts h0) (by simp [nMs]) (by simp) (⟨rfl, ⟨rfl, hG.symm⟩⟩) ⟨Nat.le_of_ble_eq_true rfl, Nat.le_of_ble_eq_true rfl, Nat.le_of_ble_eq_true rfl, Nat.le_of_ble_eq_true rfl⟩ ⟨Nat.le_of_ble_eq_true rfl, Nat.le_of_ble_eq_true rfl⟩ dX12_count_106 dX12_count_109 dX12_count_110 dX12_count_112 dX12_count_115
      rcases List.mem_cons.mp hm14 with rfl | hm14
      · replace hG := gIf_n hG (fun z9 => absurd (hThm14.symm.trans z9) (by decide))
        replace hG := gIf_p hG hThm14
        refine lv_aload_n hx hb dX12_count_72 rfl (lv_at hl 0 rfl) ?_
        obtain ⟨v15_0, v15_1, v15_2, v15_3, v15_4, v15_5, hf15, t15_0, t15_1, t15_2⟩ := op9 I t_o0
        refine cG C9 V t_o0.1 hf15 rfl tC_lay9 0 (by decide) tCf_X12_10 (Or.inl rfl) rfl dX12_count_73 ?_
        replace hG := gLt_e hG (view_gR hf15 rfl)
        obtain ⟨v16_0, v16_1, v16_3, v16_4, v16_5, hf16, t16_0, t16_4, hp16, h016, h116⟩ := op8 I t15_0
        refine cG C9 V t15_0.1 hf16 rfl tC_lay8 2 (by decide) tCf_X12_35 (Or.inl rfl) rfl dX12_count_76 ?_
        replace hG := gLt_e hG (view_gI hf16 rfl)
        refine lv_i2l hx hb dX12_count_79 rfl ?_
        exact cRx (Nat.le_of_ble_eq_true rfl) (Nat.le_of_ble_eq_true rfl) (cRetL C9 hr hlk hN hNs V I hS (⟨rfl, hG.symm⟩) dX12_count_80)
      rcases List.mem_cons.mp hm14 with rfl | hm14
      · replace hG := gIf_n hG (fun z9 => absurd (hThm14.symm.trans z9) (by decide))
        replace hG := gIf_n hG (fun z9 => absurd (hThm14.symm.trans z9) (by decide))
        replace hG := gIf_p hG hThm14
        refine lv_aload_n hx hb dX12_count_81 rfl (lv_at hl 0 rfl) ?_
        obtain ⟨v17_0, v17_1, v17_2, v17_3, v17_4, v17_5, hf17, t17_0, t17_1, t17_2⟩ := op9 I t_o0
        refine cGoI (cRunV (As := []) (rest := []) C9 hml hN hNs V I hS t_o0.1 hf17 rfl (c_X12_howManySyncs l D ks τ L A N hN  ψ f o0 t_o0 ) gC_X12_83 okC_X12_howManySyncs ⟨rfl, rfl, Nat.le_of_ble_eq_true rfl, Nat.le_of_ble_eq_true rfl⟩ hl.1 rfl (Nat.le_of_ble_eq_true rfl) dX12_count_82 ⟨Nat.le_of_ble_eq_true rfl, Nat.le_of_ble_eq_true rfl⟩) hS (fun r20 p19 f18 H locs hqf18 V I hS => ?_)
        obtain ⟨hqf18, ghqf18⟩ := hqf18
        replace hG := gC_e hG ghqf18
        have I : cI ks τ L ψ f18 := by rw [show p19 = ψ from hqf18] at I; exact I
        refine lv_i2l hx hb dX12_count_85 rfl ?_
        exact cRx (Nat.le_of_ble_eq_true rfl) (Nat.le_of_ble_eq_true rfl) (cRetL C9 hr hlk hN hNs V I hS (⟨rfl, hG.symm⟩) dX12_count_86)
      rcases List.mem_cons.mp hm14 with rfl | hm14
      · replace hG := gIf_n hG (fun z9 => absurd (hThm14.symm.trans z9) (by decide))
        replace hG := gIf_n hG (fun z9 => absurd (hThm14.symm.trans z9) (by decide))
        replace hG := gIf_n hG (fun z9 => absurd (hThm14.symm.trans z9) (by decide))
        replace hG := gIf_p hG hThm14
        refine lv_aload_n hx hb dX12_count_87 rfl (lv_at hl 0 rfl) ?_
        obtain ⟨v21_0, v21_1, v21_2, v21_3, v21_4, v21_5, hf21, t21_0, t21_1, t21_2⟩ := op9 I t_o0
        refine cG C9 V t_o0.1 hf21 rfl tC_lay9 0 (by decide) tCf_X12_10 (Or.inl rfl) rfl dX12_count_88 ?_
        replace hG := gLt_e hG (view_gR hf21 rfl)
        obtain ⟨v22_0, v22_1, v22_3, v22_4, v22_5, hf22, t22_0, t22_4, hp22, h022, h122⟩ := op8 I t21_0
        refine cG C9 V t21_0.1 hf22 rfl tC_lay8 3 (by decide) tCf_X12_206 (Or.inl rfl) rfl dX12_count_91 ?_
        replace hG := gLt_e hG (view_gI hf22 rfl)
        refine lv_i2l hx hb dX12_count_94 rfl ?_
        exact cRx (Nat.le_of_ble_eq_true rfl) (Nat.le_of_ble_eq_true rfl) (cRetL C9 hr hlk hN hNs V I hS (⟨rfl, hG.symm⟩) dX12_count_95)
      rcases List.mem_cons.mp hm14 with rfl | hm14
      · replace hG := gIf_n hG (fun z9 => absurd (hThm14.symm.trans z9) (by decide))
        replace hG := gIf_n hG (fun z9 => absurd (hThm14.symm.trans z9) (by decide))
        replace hG := gIf_n hG (fun z9 => absurd (hThm14.symm.trans z9) (by decide))
        replace hG := gIf_n hG (fun z9 => absurd (hThm14.symm.trans z9) (by decide))
        replace hG := gIf_p hG hThm14
        refine lv_aload_n hx hb dX12_count_96 rfl (lv_at hl 0 rfl) ?_
        obtain ⟨v23_0, v23_1, v23_2, v23_3, v23_4, v23_5, hf23, t23_0, t23_1, t23_2⟩ := op9 I t_o0
        refine cG C9 V t_o0.1 hf23 rfl tC_lay9 3 (by decide) tCf_X12_129 (Or.inl rfl) rfl dX12_count_97 ?_
        replace hG := gLt_e hG (view_gJ hf23 rfl)
        exact cRx (Nat.le_of_ble_eq_true rfl) (Nat.le_of_ble_eq_true rfl) (cRetL C9 hr hlk hN hNs V I hS (⟨rfl, hG.symm⟩) dX12_count_100)
      rcases List.mem_cons.mp hm14 with rfl | hm14
      · replace hG := gIf_n hG (fun z9 => absurd (hThm14.symm.trans z9) (by decide))
        replace hG := gIf_n hG (fun z9 => absurd (hThm14.symm.trans z9) (by decide))
        replace hG := gIf_n hG (fun z9 => absurd (hThm14.symm.trans z9) (by decide))
        replace hG := gIf_n hG (fun z9 => absurd (hThm14.symm.trans z9) (by decide))
        replace hG := gIf_n hG (fun z9 => absurd (hThm14.symm.trans z9) (by decide))
        refine lv_aload_n hx hb dX12_count_101 rfl (lv_at hl 0 rfl) ?_
        obtain ⟨v24_0, v24_1, v24_2, v24_3, v24_4, v24_5, hf24, t24_0, t24_1, t24_2⟩ := op9 I t_o0
        refine cG C9 V t_o0.1 hf24 rfl tC_lay9 4 (by decide) tCf_X12_209 (Or.inl rfl) rfl dX12_count_102 ?_
        replace hG := gLt_e hG (view_gJ hf24 rfl)
        exact cRx (Nat.le_of_ble_eq_true rfl) (Nat.le_of_ble_eq_true rfl) (cRetL C9 hr hlk hN hNs V I hS (⟨rfl, hG.symm⟩) dX12_count_105)
      exact absurd hm14 List.not_mem_nil
    · replace hG := gIf_n hG c13
      refine lv_aload_n hx hb dX12_count_12 rfl (lv_at hl 0 rfl) ?_
      refine lv_iload_n hx hb dX12_count_13 rfl (lv_at hl 1 rfl) ?_
      refine lv_bipush (v := 10) hx hb dX12_count_14 (by decide) ?_
      refine lv_isub hx hb dX12_count_16 ?_
      obtain ⟨v25_0, v25_1, v25_2, v25_3, v25_4, v25_5, hf25, t25_0, t25_1, t25_2⟩ := op9 I t_o0
      refine cGoQ (cRunV (As := [.int (i1 - 10)]) (rest := []) C9 hml hN hNs V I hS t_o0.1 hf25 rfl (c_X12_syncAt l D ks τ L A N hN  ψ f o0 (i1 - 10) t_o0 ) gC_X12_176 okC_X12_syncAt ⟨rfl, rfl, Nat.le_of_ble_eq_true rfl, Nat.le_of_ble_eq_true rfl⟩ hl.1 rfl (Nat.le_of_ble_eq_true rfl) dX12_count_17 ⟨Nat.le_of_ble_eq_true rfl, Nat.le_of_ble_eq_true rfl⟩) hS (fun r28 p27 f26 H locs hqf26 V I hS => ?_)
      obtain ⟨hqf26, ghqf26⟩ := hqf26
      replace hG := gC_e hG ghqf26
      have I : cI ks τ L ψ f26 := by rw [show p27 = ψ from hqf26.1] at I; exact I
      replace hG := gO_e hG (rfl)
      rcases r28 with _ | y29
      · replace hG := gO_n hG
        refine W.eq (g2 := F0 m 20 ls [.null]) rfl ?_
        refine lv_astore_nN (lv' := [(2, .null), (0, .ref o0), (1, .int i1)]) hx hb dX12_count_20 rfl hl (by decide) rfl (fun ls hl => ?_)
        refine lv_aload_nN hx hb dX12_count_21 rfl (lv_at hl 0 rfl) ?_
        refine lv_ifnonnullN hx hb dX12_count_22 ?_
        refine lv_ldc2 hx hb hown (hts _ tCc_X12_201) dX12_count_25 ?_
        refine lv_goto (tgt := 36) hx hb dX12_count_28 (by decide) ?_
        exact cRx (Nat.le_of_ble_eq_true rfl) (Nat.le_of_ble_eq_true rfl) (cRetL C9 hr hlk hN hNs V I hS (⟨rfl, hG.symm⟩) dX12_count_36)
      · replace hG := gO_s hG
        have hy29 := hqf26.2 y29 rfl
        refine W.eq (g2 := F0 m 20 ls [.ref y29]) rfl ?_
        refine lv_astore_n (lv' := [(2, .ref y29), (0, .ref o0), (1, .int i1)]) hx hb dX12_count_20 rfl hl (by decide) rfl (fun ls hl => ?_)
        refine lv_aload_n hx hb dX12_count_21 rfl (lv_at hl 0 rfl) ?_
        refine lv_ifnonnull (tgt := 31) hx hb dX12_count_22 (by decide) ?_
        refine lv_aload_n hx hb dX12_count_31 rfl (lv_at hl 0 rfl) ?_
        refine cGS1 C9 V I hy29 tCf_X12_203 dX12_count_32 (fun x30 ex30 => ?_)
        replace hG := gLt_e hG (ex30)
        refine lv_i2l hx hb dX12_count_35 rfl ?_
        exact cRx (Nat.le_of_ble_eq_true rfl) (Nat.le_of_ble_eq_true rfl) (cRetL C9 hr hlk hN hNs V I hS (⟨rfl, hG.symm⟩) dX12_count_36)
def FC_X12_drop (X : xS) (o0 : Nat) (i1 : Int32) : Int32 × Int32 × xS := if (i1 : Int32) < 0 then (((1 : Int32), (0 : Int32), X)) else (gLt ((xR X o0 1).getD 0 : Nat) (fun v2_1 => if 24 ≤ (i1 : Int32) then (((1 : Int32), (0 : Int32), X)) else (gO (xQ X v2_1 i1) (((1 : Int32), (0 : Int32), X)) (fun y6 => if xC X y6 = 0 then (gC (FC_X9_hasStrands X y6) (fun r11 Xf9 => if (r11 : Int32) = 0 then (gLt ((xR Xf9 o0 1).getD 0 : Nat) (fun v13_1 => gLt (xwQ Xf9 v13_1 i1 none : xS) (fun Xf15 => gC (FC_X12_howManySyncs Xf15 o0) (fun r21 Xf19 => ((0 : Int32), (r21 : Int32), Xf19))))) else (((2 : Int32), (0 : Int32), Xf9)))) else (if xC X y6 = 1 then (gC (FC_X9_hasStrands X y6) (fun r25 Xf23 => if (r25 : Int32) = 0 then (gLt ((xR Xf23 o0 1).getD 0 : Nat) (fun v27_1 => gLt (xwQ Xf23 v27_1 i1 none : xS) (fun Xf29 => gC (FC_X12_howManySyncs Xf29 o0) (fun r35 Xf33 => ((0 : Int32), (r35 : Int32), Xf33))))) else (((2 : Int32), (0 : Int32), Xf23)))) else (if xC X y6 = 2 then (gC (FC_X9_hasStrands X y6) (fun r39 Xf37 => if (r39 : Int32) = 0 then (gLt ((xR Xf37 o0 1).getD 0 : Nat) (fun v41_1 => gLt (xwQ Xf37 v41_1 i1 none : xS) (fun Xf43 => gC (FC_X12_howManySyncs Xf43 o0) (fun r49 Xf47 => ((0 : Int32), (r49 : Int32), Xf47))))) else (((2 : Int32), (0 : Int32), Xf37)))) else (if xC X y6 = 3 then (gC (FC_X4_hasStrands X y6) (fun r53 Xf51 => if (r53 : Int32) = 0 then (gLt ((xR Xf51 o0 1).getD 0 : Nat) (fun v55_1 => gLt (xwQ Xf51 v55_1 i1 none : xS) (fun Xf57 => gC (FC_X12_howManySyncs Xf57 o0) (fun r63 Xf61 => ((0 : Int32), (r63 : Int32), Xf61))))) else (((2 : Int32), (0 : Int32), Xf51)))) else (if xC X y6 = 4 then (gC (FC_X9_hasStrands X y6) (fun r67 Xf65 => if (r67 : Int32) = 0 then (gLt ((xR Xf65 o0 1).getD 0 : Nat) (fun v69_1 => gLt (xwQ Xf65 v69_1 i1 none : xS) (fun Xf71 => gC (FC_X12_howManySyncs Xf71 o0) (fun r77 Xf75 => ((0 : Int32), (r77 : Int32), Xf75))))) else (((2 : Int32), (0 : Int32), Xf65)))) else (gC (FC_X9_hasStrands X y6) (fun r81 Xf79 => if (r81 : Int32) = 0 then (gLt ((xR Xf79 o0 1).getD 0 : Nat) (fun v83_1 => gLt (xwQ Xf79 v83_1 i1 none : xS) (fun Xf85 => gC (FC_X12_howManySyncs Xf85 o0) (fun r91 Xf89 => ((0 : Int32), (r91 : Int32), Xf89))))) else (((2 : Int32), (0 : Int32), Xf79))))))))))))
set_option maxHeartbeats 200000 in
set_option maxRecDepth 100000 in
theorem c_X12_drop (l : Launch) (D : va_G) (ks : kS) (τ : Nat → Nat) (L : List Nat) (A : Nat → Prop) (N : State → Prop) (hN : cNk A N) (κ : kC) (hN0 : ∀ U, N U → N0 κ A U) (hlt : l.stackTraces = false) (ψ : Int32) (f : Nat → va_E) (o0 : Nat) (i1 : Int32) (t_o0 : ty τ L o0 9) : vx_Met l yX12_drop (Cond.code yX12_drop cX12_drop 2 (some .int) :: tC) ({ frames := 6, cells := 1, slots := 6, locals := 100 }) (va_Pc [.ref o0, .int i1] (cB D ks τ L A N (ψ, f))) (va_Qi (fun r9 x9 => (x9.1 = ψ) ∧ ((0 : Int32), r9, view x9.2) = FC_X12_drop (view f) o0 i1) (cB D ks τ L A N) A) (cX D ks τ L A ["java/util/NoSuchElementException", "java/lang/IllegalStateException"] (fun e9 x9 => (x9.1 = ψ) ∧ ((e9 = "java/util/NoSuchElementException" ∧ ((1 : Int32), (0 : Int32), view x9.2) = FC_X12_drop (view f) o0 i1) ∨ (e9 = "java/lang/IllegalStateException" ∧ ((2 : Int32), (0 : Int32), view x9.2) = FC_X12_drop (view f) o0 i1)))) 1 6 A := by
  refine cMetX (own := RX12) (by decide) rfl (Nat.le_of_ble_eq_true rfl) ?_
  intro p e s m below meth c ls C9 hml hr hlk hET V I hNs hl
  have hx := C9.1
  have hb := C9.2.1
  have hown := C9.2.2.1
  have hts := C9.2.2.2.1
  have h0 := hN0 s hNs
  have hS : va_S A s.heap s.heap [] := va_S.rf
  have hG := FC_X12_drop.eq_1 (view f) o0 i1
  have hl : lv_has ls 2 [(0, .ref o0), (1, .int i1)] := hl
  refine lv_iload_n hx hb dX12_drop_0 rfl (lv_at hl 1 rfl) ?_
  refine lv_if_lt (tgt := 22) hx hb dX12_drop_1 (by decide) (fun c1 => ?_) (fun c1 => ?_)
  · replace hG := gIf_p hG c1
    exact cThN (text := "no such OBJECT") C9 h0 V I hS hlt hET hlk hml hl.1 (xw_72_76 hts h0) (by simp [nMs]) (by simp [nsN]) (⟨rfl, Or.inl (⟨rfl, hG.symm⟩)⟩) ⟨Nat.le_of_ble_eq_true rfl, Nat.le_of_ble_eq_true rfl, Nat.le_of_ble_eq_true rfl, Nat.le_of_ble_eq_true rfl⟩ ⟨Nat.le_of_ble_eq_true rfl, Nat.le_of_ble_eq_true rfl⟩ dX12_drop_22 dX12_drop_25 dX12_drop_26 dX12_drop_28 dX12_drop_31
  · replace hG := gIf_n hG c1
    refine lv_iload_n hx hb dX12_drop_4 rfl (lv_at hl 1 rfl) ?_
    refine lv_aload_n hx hb dX12_drop_5 rfl (lv_at hl 0 rfl) ?_
    obtain ⟨v2_0, v2_1, v2_2, v2_3, v2_4, v2_5, hf2, t2_0, t2_1, t2_2⟩ := op9 I t_o0
    refine cG C9 V t_o0.1 hf2 rfl tC_lay9 1 (by decide) tCf_X12_18 (Or.inl rfl) rfl dX12_drop_6 ?_
    replace hG := gLt_e hG (view_gR hf2 rfl)
    obtain ⟨g3, hf3, hg3⟩ := op15 I t2_1
    refine cAl (t0 := 3) (v := 24) C9 V t2_1.1 hf3 rfl (by first | rfl | decide) dX12_drop_9 ?_
    refine lv_icmp_ge (tgt := 22) hx hb dX12_drop_10 (by decide) (fun c4 => ?_) (fun c4 => ?_)
    · replace hG := gIf_p hG c4
      exact cThN (text := "no such OBJECT") C9 h0 V I hS hlt hET hlk hml hl.1 (xw_72_76 hts h0) (by simp [nMs]) (by simp [nsN]) (⟨rfl, Or.inl (⟨rfl, hG.symm⟩)⟩) ⟨Nat.le_of_ble_eq_true rfl, Nat.le_of_ble_eq_true rfl, Nat.le_of_ble_eq_true rfl, Nat.le_of_ble_eq_true rfl⟩ ⟨Nat.le_of_ble_eq_true rfl, Nat.le_of_ble_eq_true rfl⟩ dX12_drop_22 dX12_drop_25 dX12_drop_26 dX12_drop_28 dX12_drop_31
    · replace hG := gIf_n hG c4
      refine lv_aload_n hx hb dX12_drop_13 rfl (lv_at hl 0 rfl) ?_
      refine cG C9 V t_o0.1 hf2 rfl tC_lay9 1 (by decide) tCf_X12_18 (Or.inl rfl) rfl dX12_drop_14 ?_
      refine lv_iload_n hx hb dX12_drop_17 rfl (lv_at hl 1 rfl) ?_
      refine cLr (t0 := 3) C9 V t2_1.1 hf3 rfl (cvin (N := 24) rfl (ci_le c1) (ci_lt c4)) dX12_drop_18 ?_
      obtain ⟨r5, er5⟩ : ∃ z, z = g3 (Int32.toNatClampNeg i1) := ⟨_, rfl⟩
      rw [← er5]
      have tr5 : tySO τ L r5 := by rw [er5]; exact hg3 _
      replace hG := gO_e hG (er5.trans (view_gQ hf3))
      rcases r5 with _ | y6
      · replace hG := gO_n hG
        refine W.eq (g2 := F0 m 19 ls [.null]) rfl ?_
        refine lv_ifnonnullN hx hb dX12_drop_19 ?_
        exact cThN (text := "no such OBJECT") C9 h0 V I hS hlt hET hlk hml hl.1 (xw_72_76 hts h0) (by simp [nMs]) (by simp [nsN]) (⟨rfl, Or.inl (⟨rfl, hG.symm⟩)⟩) ⟨Nat.le_of_ble_eq_true rfl, Nat.le_of_ble_eq_true rfl, Nat.le_of_ble_eq_true rfl, Nat.le_of_ble_eq_true rfl⟩ ⟨Nat.le_of_ble_eq_true rfl, Nat.le_of_ble_eq_true rfl⟩ dX12_drop_22 dX12_drop_25 dX12_drop_26 dX12_drop_28 dX12_drop_31
      · replace hG := gO_s hG
        have hy6 := tr5 y6 rfl
        refine W.eq (g2 := F0 m 19 ls [.ref y6]) rfl ?_
        refine lv_ifnonnull (tgt := 32) hx hb dX12_drop_19 (by decide) ?_
        refine lv_aload_n hx hb dX12_drop_32 rfl (lv_at hl 0 rfl) ?_
        refine cG C9 V t_o0.1 hf2 rfl tC_lay9 1 (by decide) tCf_X12_18 (Or.inl rfl) rfl dX12_drop_33 ?_
        refine lv_iload_n hx hb dX12_drop_36 rfl (lv_at hl 1 rfl) ?_
        refine cLr (t0 := 3) C9 V t2_1.1 hf3 rfl (cvin (N := 24) rfl (ci_le c1) (ci_lt c4)) dX12_drop_37 ?_
        rw [← er5]
        refine W.eq (g2 := F0 m 38 ls [.ref y6]) rfl ?_
        obtain ⟨hL7, hk7⟩ := id hy6
        rcases hk7 with hk7 | hk7 | hk7 | hk7 | hk7 | hk7
        · have tk7 : ty τ L y6 0 := ⟨hL7, hk7⟩
          obtain ⟨v8_0, v8_1, v8_2, v8_3, v8_4, hf8, t8_2⟩ := op0 I tk7
          replace hG := gIf_p hG (view_c hf8)
          refine cGoI (cRunU (As := []) (rest := []) C9 hml hN hNs V I hS (cRc C9 V tk7.1 hf8 rfl) (c_X9_hasStrands l D ks τ L A N hN  ψ f y6 (tyS_of tk7 (by decide)) ) (va_cwU 0 hts gU_X12_77_X1 rfl rfl rfl rfl okU_X12_77 ⟨Nat.le_of_ble_eq_true rfl, Nat.le_of_ble_eq_true rfl⟩) hl.1 rfl (Nat.le_of_ble_eq_true rfl) dX12_drop_38 ⟨Nat.le_of_ble_eq_true rfl, Nat.le_of_ble_eq_true rfl⟩) hS (fun r11 p10 f9 H locs hqf9 V I hS => ?_)
          obtain ⟨hqf9, ghqf9⟩ := hqf9
          replace hG := gC_e hG ghqf9
          have I : cI ks τ L ψ f9 := by rw [show p10 = ψ from hqf9] at I; exact I
          refine lv_if_eq (tgt := 54) hx hb dX12_drop_41 (by decide) (fun c12 => ?_) (fun c12 => ?_)
          · replace hG := gIf_p hG c12
            refine lv_aload_n hx hb dX12_drop_54 rfl (lv_at hl 0 rfl) ?_
            obtain ⟨v13_0, v13_1, v13_2, v13_3, v13_4, v13_5, hf13, t13_0, t13_1, t13_2⟩ := op9 I t_o0
            refine cG C9 V t_o0.1 hf13 rfl tC_lay9 1 (by decide) tCf_X12_18 (Or.inl rfl) rfl dX12_drop_55 ?_
            replace hG := gLt_e hG (view_gR hf13 rfl)
            refine lv_iload_n hx hb dX12_drop_58 rfl (lv_at hl 1 rfl) ?_
            refine lv_null hx hb dX12_drop_59 ?_
            obtain ⟨g14, hf14, hg14⟩ := op15 I t13_1
            refine cSn (t0 := 3) C9 V hS t13_1.1 hf14 rfl (cvin (N := 24) rfl (ci_le c1) (ci_lt c4)) dX12_drop_60 (fun f15 H locs ef15 V hS => ?_)
            replace hG := gLt_e hG (view_Q hf14 ef15)
            have hgg16 := tySO_up (i := Int32.toNatClampNeg i1) (v := none) hg14 tySO_n
            obtain ⟨g16, eg16⟩ : ∃ z, z = va_up g14 (Int32.toNatClampNeg i1) none := ⟨_, rfl⟩
            rw [← eg16] at ef15 hgg16
            have hf17 := up_s ef15
            have I := cI_up I t13_1.2 ef15 (mk15 hgg16)
            have hf18 := up_n ef15 t13_1.2 t_o0.2 (by first | decide | omega) hf13
            refine lv_aload_n hx hb dX12_drop_61 rfl (lv_at hl 0 rfl) ?_
            refine cGoI (cRunV (As := []) (rest := []) C9 hml hN hNs V I hS t_o0.1 hf18 rfl (c_X12_howManySyncs l D ks τ L A N hN  ψ f15 o0 t_o0 ) gC_X12_83 okC_X12_howManySyncs ⟨rfl, rfl, Nat.le_of_ble_eq_true rfl, Nat.le_of_ble_eq_true rfl⟩ hl.1 rfl (Nat.le_of_ble_eq_true rfl) dX12_drop_62 ⟨Nat.le_of_ble_eq_true rfl, Nat.le_of_ble_eq_true rfl⟩) hS (fun r21 p20 f19 H locs hqf19 V I hS => ?_)
            obtain ⟨hqf19, ghqf19⟩ := hqf19
            replace hG := gC_e hG ghqf19
            have I : cI ks τ L ψ f19 := by rw [show p20 = ψ from hqf19] at I; exact I
            exact cRx (Nat.le_of_ble_eq_true rfl) (Nat.le_of_ble_eq_true rfl) (cRetI C9 hr hlk hN hNs V I hS (⟨rfl, hG.symm⟩) dX12_drop_65)
          · replace hG := gIf_n hG c12
            exact cThr (text := "a THREAD is in a row of it") (names := xNm) C9 h0 V I hS hlt hET hlk hml hl.1 (xw_63_67 hts h0) (by simp [nMs]) (by simp) (⟨rfl, Or.inr (⟨rfl, hG.symm⟩)⟩) ⟨Nat.le_of_ble_eq_true rfl, Nat.le_of_ble_eq_true rfl, Nat.le_of_ble_eq_true rfl, Nat.le_of_ble_eq_true rfl⟩ ⟨Nat.le_of_ble_eq_true rfl, Nat.le_of_ble_eq_true rfl⟩ dX12_drop_44 dX12_drop_47 dX12_drop_48 dX12_drop_50 dX12_drop_53
        · have tk7 : ty τ L y6 1 := ⟨hL7, hk7⟩
          obtain ⟨v22_0, v22_1, v22_2, v22_3, v22_4, hf22, t22_2⟩ := op1 I tk7
          replace hG := gIf_n hG (view_cn hf22 (by decide : 1 ≠ 0))
          replace hG := gIf_p hG (view_c hf22)
          refine cGoI (cRunU (As := []) (rest := []) C9 hml hN hNs V I hS (cRc C9 V tk7.1 hf22 rfl) (c_X9_hasStrands l D ks τ L A N hN  ψ f y6 (tyS_of tk7 (by decide)) ) (va_cwU 0 hts gU_X12_77_X2 rfl rfl rfl rfl okU_X12_77 ⟨Nat.le_of_ble_eq_true rfl, Nat.le_of_ble_eq_true rfl⟩) hl.1 rfl (Nat.le_of_ble_eq_true rfl) dX12_drop_38 ⟨Nat.le_of_ble_eq_true rfl, Nat.le_of_ble_eq_true rfl⟩) hS (fun r25 p24 f23 H locs hqf23 V I hS => ?_)
          obtain ⟨hqf23, ghqf23⟩ := hqf23
          replace hG := gC_e hG ghqf23
          have I : cI ks τ L ψ f23 := by rw [show p24 = ψ from hqf23] at I; exact I
          refine lv_if_eq (tgt := 54) hx hb dX12_drop_41 (by decide) (fun c26 => ?_) (fun c26 => ?_)
          · replace hG := gIf_p hG c26
            refine lv_aload_n hx hb dX12_drop_54 rfl (lv_at hl 0 rfl) ?_
            obtain ⟨v27_0, v27_1, v27_2, v27_3, v27_4, v27_5, hf27, t27_0, t27_1, t27_2⟩ := op9 I t_o0
            refine cG C9 V t_o0.1 hf27 rfl tC_lay9 1 (by decide) tCf_X12_18 (Or.inl rfl) rfl dX12_drop_55 ?_
            replace hG := gLt_e hG (view_gR hf27 rfl)
            refine lv_iload_n hx hb dX12_drop_58 rfl (lv_at hl 1 rfl) ?_
            refine lv_null hx hb dX12_drop_59 ?_
            obtain ⟨g28, hf28, hg28⟩ := op15 I t27_1
            refine cSn (t0 := 3) C9 V hS t27_1.1 hf28 rfl (cvin (N := 24) rfl (ci_le c1) (ci_lt c4)) dX12_drop_60 (fun f29 H locs ef29 V hS => ?_)
            replace hG := gLt_e hG (view_Q hf28 ef29)
            have hgg30 := tySO_up (i := Int32.toNatClampNeg i1) (v := none) hg28 tySO_n
            obtain ⟨g30, eg30⟩ : ∃ z, z = va_up g28 (Int32.toNatClampNeg i1) none := ⟨_, rfl⟩
            rw [← eg30] at ef29 hgg30
            have hf31 := up_s ef29
            have I := cI_up I t27_1.2 ef29 (mk15 hgg30)
            have hf32 := up_n ef29 t27_1.2 t_o0.2 (by first | decide | omega) hf27
            refine lv_aload_n hx hb dX12_drop_61 rfl (lv_at hl 0 rfl) ?_
            refine cGoI (cRunV (As := []) (rest := []) C9 hml hN hNs V I hS t_o0.1 hf32 rfl (c_X12_howManySyncs l D ks τ L A N hN  ψ f29 o0 t_o0 ) gC_X12_83 okC_X12_howManySyncs ⟨rfl, rfl, Nat.le_of_ble_eq_true rfl, Nat.le_of_ble_eq_true rfl⟩ hl.1 rfl (Nat.le_of_ble_eq_true rfl) dX12_drop_62 ⟨Nat.le_of_ble_eq_true rfl, Nat.le_of_ble_eq_true rfl⟩) hS (fun r35 p34 f33 H locs hqf33 V I hS => ?_)
            obtain ⟨hqf33, ghqf33⟩ := hqf33
            replace hG := gC_e hG ghqf33
            have I : cI ks τ L ψ f33 := by rw [show p34 = ψ from hqf33] at I; exact I
            exact cRx (Nat.le_of_ble_eq_true rfl) (Nat.le_of_ble_eq_true rfl) (cRetI C9 hr hlk hN hNs V I hS (⟨rfl, hG.symm⟩) dX12_drop_65)
          · replace hG := gIf_n hG c26
            exact cThr (text := "a THREAD is in a row of it") (names := xNm) C9 h0 V I hS hlt hET hlk hml hl.1 (xw_63_67 hts h0) (by simp [nMs]) (by simp) (⟨rfl, Or.inr (⟨rfl, hG.symm⟩)⟩) ⟨Nat.le_of_ble_eq_true rfl, Nat.le_of_ble_eq_true rfl, Nat.le_of_ble_eq_true rfl, Nat.le_of_ble_eq_true rfl⟩ ⟨Nat.le_of_ble_eq_true rfl, Nat.le_of_ble_eq_true rfl⟩ dX12_drop_44 dX12_drop_47 dX12_drop_48 dX12_drop_50 dX12_drop_53
        · have tk7 : ty τ L y6 2 := ⟨hL7, hk7⟩
          obtain ⟨v36_0, v36_1, v36_2, v36_3, hf36, t36_2⟩ := op2 I tk7
          replace hG := gIf_n hG (view_cn hf36 (by decide : 2 ≠ 0))
          replace hG := gIf_n hG (view_cn hf36 (by decide : 2 ≠ 1))
          replace hG := gIf_p hG (view_c hf36)
          refine cGoI (cRunU (As := []) (rest := []) C9 hml hN hNs V I hS (cRc C9 V tk7.1 hf36 rfl) (c_X9_hasStrands l D ks τ L A N hN  ψ f y6 (tyS_of tk7 (by decide)) ) (va_cwU 0 hts gU_X12_77_X3 rfl rfl rfl rfl okU_X12_77 ⟨Nat.le_of_ble_eq_true rfl, Nat.le_of_ble_eq_true rfl⟩) hl.1 rfl (Nat.le_of_ble_eq_true rfl) dX12_drop_38 ⟨Nat.le_of_ble_eq_true rfl, Nat.le_of_ble_eq_true rfl⟩) hS (fun r39 p38 f37 H locs hqf37 V I hS => ?_)
          obtain ⟨hqf37, ghqf37⟩ := hqf37
          replace hG := gC_e hG ghqf37
          have I : cI ks τ L ψ f37 := by rw [show p38 = ψ from hqf37] at I; exact I
          refine lv_if_eq (tgt := 54) hx hb dX12_drop_41 (by decide) (fun c40 => ?_) (fun c40 => ?_)
          · replace hG := gIf_p hG c40
            refine lv_aload_n hx hb dX12_drop_54 rfl (lv_at hl 0 rfl) ?_
            obtain ⟨v41_0, v41_1, v41_2, v41_3, v41_4, v41_5, hf41, t41_0, t41_1, t41_2⟩ := op9 I t_o0
            refine cG C9 V t_o0.1 hf41 rfl tC_lay9 1 (by decide) tCf_X12_18 (Or.inl rfl) rfl dX12_drop_55 ?_
            replace hG := gLt_e hG (view_gR hf41 rfl)
            refine lv_iload_n hx hb dX12_drop_58 rfl (lv_at hl 1 rfl) ?_
            refine lv_null hx hb dX12_drop_59 ?_
            obtain ⟨g42, hf42, hg42⟩ := op15 I t41_1
            refine cSn (t0 := 3) C9 V hS t41_1.1 hf42 rfl (cvin (N := 24) rfl (ci_le c1) (ci_lt c4)) dX12_drop_60 (fun f43 H locs ef43 V hS => ?_)
            replace hG := gLt_e hG (view_Q hf42 ef43)
            have hgg44 := tySO_up (i := Int32.toNatClampNeg i1) (v := none) hg42 tySO_n
            obtain ⟨g44, eg44⟩ : ∃ z, z = va_up g42 (Int32.toNatClampNeg i1) none := ⟨_, rfl⟩
            rw [← eg44] at ef43 hgg44
            have hf45 := up_s ef43
            have I := cI_up I t41_1.2 ef43 (mk15 hgg44)
            have hf46 := up_n ef43 t41_1.2 t_o0.2 (by first | decide | omega) hf41
            refine lv_aload_n hx hb dX12_drop_61 rfl (lv_at hl 0 rfl) ?_
            refine cGoI (cRunV (As := []) (rest := []) C9 hml hN hNs V I hS t_o0.1 hf46 rfl (c_X12_howManySyncs l D ks τ L A N hN  ψ f43 o0 t_o0 ) gC_X12_83 okC_X12_howManySyncs ⟨rfl, rfl, Nat.le_of_ble_eq_true rfl, Nat.le_of_ble_eq_true rfl⟩ hl.1 rfl (Nat.le_of_ble_eq_true rfl) dX12_drop_62 ⟨Nat.le_of_ble_eq_true rfl, Nat.le_of_ble_eq_true rfl⟩) hS (fun r49 p48 f47 H locs hqf47 V I hS => ?_)
            obtain ⟨hqf47, ghqf47⟩ := hqf47
            replace hG := gC_e hG ghqf47
            have I : cI ks τ L ψ f47 := by rw [show p48 = ψ from hqf47] at I; exact I
            exact cRx (Nat.le_of_ble_eq_true rfl) (Nat.le_of_ble_eq_true rfl) (cRetI C9 hr hlk hN hNs V I hS (⟨rfl, hG.symm⟩) dX12_drop_65)
          · replace hG := gIf_n hG c40
            exact cThr (text := "a THREAD is in a row of it") (names := xNm) C9 h0 V I hS hlt hET hlk hml hl.1 (xw_63_67 hts h0) (by simp [nMs]) (by simp) (⟨rfl, Or.inr (⟨rfl, hG.symm⟩)⟩) ⟨Nat.le_of_ble_eq_true rfl, Nat.le_of_ble_eq_true rfl, Nat.le_of_ble_eq_true rfl, Nat.le_of_ble_eq_true rfl⟩ ⟨Nat.le_of_ble_eq_true rfl, Nat.le_of_ble_eq_true rfl⟩ dX12_drop_44 dX12_drop_47 dX12_drop_48 dX12_drop_50 dX12_drop_53
        · have tk7 : ty τ L y6 3 := ⟨hL7, hk7⟩
          obtain ⟨v50_0, v50_1, v50_2, v50_3, v50_4, v50_5, v50_6, hf50, t50_2, t50_6⟩ := op3 I tk7
          replace hG := gIf_n hG (view_cn hf50 (by decide : 3 ≠ 0))
          replace hG := gIf_n hG (view_cn hf50 (by decide : 3 ≠ 1))
          replace hG := gIf_n hG (view_cn hf50 (by decide : 3 ≠ 2))
          replace hG := gIf_p hG (view_c hf50)
          refine cGoI (cRunU (As := []) (rest := []) C9 hml hN hNs V I hS (cRc C9 V tk7.1 hf50 rfl) (c_X4_hasStrands l D ks τ L A N hN  ψ f y6 tk7 ) (va_cwO 0 hts gO_X12_77_X4 rfl rfl rfl gO0_X12_77_X4 okU_X12_77 ⟨Nat.le_of_ble_eq_true rfl, Nat.le_of_ble_eq_true rfl⟩) hl.1 rfl (Nat.le_of_ble_eq_true rfl) dX12_drop_38 ⟨Nat.le_of_ble_eq_true rfl, Nat.le_of_ble_eq_true rfl⟩) hS (fun r53 p52 f51 H locs hqf51 V I hS => ?_)
          obtain ⟨hqf51, ghqf51⟩ := hqf51
          replace hG := gC_e hG ghqf51
          have I : cI ks τ L ψ f51 := by rw [show p52 = ψ from hqf51] at I; exact I
          refine lv_if_eq (tgt := 54) hx hb dX12_drop_41 (by decide) (fun c54 => ?_) (fun c54 => ?_)
          · replace hG := gIf_p hG c54
            refine lv_aload_n hx hb dX12_drop_54 rfl (lv_at hl 0 rfl) ?_
            obtain ⟨v55_0, v55_1, v55_2, v55_3, v55_4, v55_5, hf55, t55_0, t55_1, t55_2⟩ := op9 I t_o0
            refine cG C9 V t_o0.1 hf55 rfl tC_lay9 1 (by decide) tCf_X12_18 (Or.inl rfl) rfl dX12_drop_55 ?_
            replace hG := gLt_e hG (view_gR hf55 rfl)
            refine lv_iload_n hx hb dX12_drop_58 rfl (lv_at hl 1 rfl) ?_
            refine lv_null hx hb dX12_drop_59 ?_
            obtain ⟨g56, hf56, hg56⟩ := op15 I t55_1
            refine cSn (t0 := 3) C9 V hS t55_1.1 hf56 rfl (cvin (N := 24) rfl (ci_le c1) (ci_lt c4)) dX12_drop_60 (fun f57 H locs ef57 V hS => ?_)
            replace hG := gLt_e hG (view_Q hf56 ef57)
            have hgg58 := tySO_up (i := Int32.toNatClampNeg i1) (v := none) hg56 tySO_n
            obtain ⟨g58, eg58⟩ : ∃ z, z = va_up g56 (Int32.toNatClampNeg i1) none := ⟨_, rfl⟩
            rw [← eg58] at ef57 hgg58
            have hf59 := up_s ef57
            have I := cI_up I t55_1.2 ef57 (mk15 hgg58)
            have hf60 := up_n ef57 t55_1.2 t_o0.2 (by first | decide | omega) hf55
            refine lv_aload_n hx hb dX12_drop_61 rfl (lv_at hl 0 rfl) ?_
            refine cGoI (cRunV (As := []) (rest := []) C9 hml hN hNs V I hS t_o0.1 hf60 rfl (c_X12_howManySyncs l D ks τ L A N hN  ψ f57 o0 t_o0 ) gC_X12_83 okC_X12_howManySyncs ⟨rfl, rfl, Nat.le_of_ble_eq_true rfl, Nat.le_of_ble_eq_true rfl⟩ hl.1 rfl (Nat.le_of_ble_eq_true rfl) dX12_drop_62 ⟨Nat.le_of_ble_eq_true rfl, Nat.le_of_ble_eq_true rfl⟩) hS (fun r63 p62 f61 H locs hqf61 V I hS => ?_)
            obtain ⟨hqf61, ghqf61⟩ := hqf61
            replace hG := gC_e hG ghqf61
            have I : cI ks τ L ψ f61 := by rw [show p62 = ψ from hqf61] at I; exact I
            exact cRx (Nat.le_of_ble_eq_true rfl) (Nat.le_of_ble_eq_true rfl) (cRetI C9 hr hlk hN hNs V I hS (⟨rfl, hG.symm⟩) dX12_drop_65)
          · replace hG := gIf_n hG c54
            exact cThr (text := "a THREAD is in a row of it") (names := xNm) C9 h0 V I hS hlt hET hlk hml hl.1 (xw_63_67 hts h0) (by simp [nMs]) (by simp) (⟨rfl, Or.inr (⟨rfl, hG.symm⟩)⟩) ⟨Nat.le_of_ble_eq_true rfl, Nat.le_of_ble_eq_true rfl, Nat.le_of_ble_eq_true rfl, Nat.le_of_ble_eq_true rfl⟩ ⟨Nat.le_of_ble_eq_true rfl, Nat.le_of_ble_eq_true rfl⟩ dX12_drop_44 dX12_drop_47 dX12_drop_48 dX12_drop_50 dX12_drop_53
        · have tk7 : ty τ L y6 4 := ⟨hL7, hk7⟩
          obtain ⟨v64_0, v64_1, v64_2, v64_3, v64_4, v64_5, c64, hf64, t64_2, t64_3, hc64, h064, h164⟩ := op4 I tk7
          replace hG := gIf_n hG (view_cn hf64 (by decide : 4 ≠ 0))
          replace hG := gIf_n hG (view_cn hf64 (by decide : 4 ≠ 1))
          replace hG := gIf_n hG (view_cn hf64 (by decide : 4 ≠ 2))
          replace hG := gIf_n hG (view_cn hf64 (by decide : 4 ≠ 3))
          replace hG := gIf_p hG (view_c hf64)
          refine cGoI (cRunU (As := []) (rest := []) C9 hml hN hNs V I hS (cRc C9 V tk7.1 hf64 rfl) (c_X9_hasStrands l D ks τ L A N hN  ψ f y6 (tyS_of tk7 (by decide)) ) (va_cwU 0 hts gU_X12_77_X5 rfl rfl rfl rfl okU_X12_77 ⟨Nat.le_of_ble_eq_true rfl, Nat.le_of_ble_eq_true rfl⟩) hl.1 rfl (Nat.le_of_ble_eq_true rfl) dX12_drop_38 ⟨Nat.le_of_ble_eq_true rfl, Nat.le_of_ble_eq_true rfl⟩) hS (fun r67 p66 f65 H locs hqf65 V I hS => ?_)
          obtain ⟨hqf65, ghqf65⟩ := hqf65
          replace hG := gC_e hG ghqf65
          have I : cI ks τ L ψ f65 := by rw [show p66 = ψ from hqf65] at I; exact I
          refine lv_if_eq (tgt := 54) hx hb dX12_drop_41 (by decide) (fun c68 => ?_) (fun c68 => ?_)
          · replace hG := gIf_p hG c68
            refine lv_aload_n hx hb dX12_drop_54 rfl (lv_at hl 0 rfl) ?_
            obtain ⟨v69_0, v69_1, v69_2, v69_3, v69_4, v69_5, hf69, t69_0, t69_1, t69_2⟩ := op9 I t_o0
            refine cG C9 V t_o0.1 hf69 rfl tC_lay9 1 (by decide) tCf_X12_18 (Or.inl rfl) rfl dX12_drop_55 ?_
            replace hG := gLt_e hG (view_gR hf69 rfl)
            refine lv_iload_n hx hb dX12_drop_58 rfl (lv_at hl 1 rfl) ?_
            refine lv_null hx hb dX12_drop_59 ?_
            obtain ⟨g70, hf70, hg70⟩ := op15 I t69_1
            refine cSn (t0 := 3) C9 V hS t69_1.1 hf70 rfl (cvin (N := 24) rfl (ci_le c1) (ci_lt c4)) dX12_drop_60 (fun f71 H locs ef71 V hS => ?_)
            replace hG := gLt_e hG (view_Q hf70 ef71)
            have hgg72 := tySO_up (i := Int32.toNatClampNeg i1) (v := none) hg70 tySO_n
            obtain ⟨g72, eg72⟩ : ∃ z, z = va_up g70 (Int32.toNatClampNeg i1) none := ⟨_, rfl⟩
            rw [← eg72] at ef71 hgg72
            have hf73 := up_s ef71
            have I := cI_up I t69_1.2 ef71 (mk15 hgg72)
            have hf74 := up_n ef71 t69_1.2 t_o0.2 (by first | decide | omega) hf69
            refine lv_aload_n hx hb dX12_drop_61 rfl (lv_at hl 0 rfl) ?_
            refine cGoI (cRunV (As := []) (rest := []) C9 hml hN hNs V I hS t_o0.1 hf74 rfl (c_X12_howManySyncs l D ks τ L A N hN  ψ f71 o0 t_o0 ) gC_X12_83 okC_X12_howManySyncs ⟨rfl, rfl, Nat.le_of_ble_eq_true rfl, Nat.le_of_ble_eq_true rfl⟩ hl.1 rfl (Nat.le_of_ble_eq_true rfl) dX12_drop_62 ⟨Nat.le_of_ble_eq_true rfl, Nat.le_of_ble_eq_true rfl⟩) hS (fun r77 p76 f75 H locs hqf75 V I hS => ?_)
            obtain ⟨hqf75, ghqf75⟩ := hqf75
            replace hG := gC_e hG ghqf75
            have I : cI ks τ L ψ f75 := by rw [show p76 = ψ from hqf75] at I; exact I
            exact cRx (Nat.le_of_ble_eq_true rfl) (Nat.le_of_ble_eq_true rfl) (cRetI C9 hr hlk hN hNs V I hS (⟨rfl, hG.symm⟩) dX12_drop_65)
          · replace hG := gIf_n hG c68
            exact cThr (text := "a THREAD is in a row of it") (names := xNm) C9 h0 V I hS hlt hET hlk hml hl.1 (xw_63_67 hts h0) (by simp [nMs]) (by simp) (⟨rfl, Or.inr (⟨rfl, hG.symm⟩)⟩) ⟨Nat.le_of_ble_eq_true rfl, Nat.le_of_ble_eq_true rfl, Nat.le_of_ble_eq_true rfl, Nat.le_of_ble_eq_true rfl⟩ ⟨Nat.le_of_ble_eq_true rfl, Nat.le_of_ble_eq_true rfl⟩ dX12_drop_44 dX12_drop_47 dX12_drop_48 dX12_drop_50 dX12_drop_53
        · have tk7 : ty τ L y6 6 := ⟨hL7, hk7⟩
          obtain ⟨v78_0, v78_1, v78_2, v78_3, hf78, t78_2⟩ := op6 I tk7
          replace hG := gIf_n hG (view_cn hf78 (by decide : 6 ≠ 0))
          replace hG := gIf_n hG (view_cn hf78 (by decide : 6 ≠ 1))
          replace hG := gIf_n hG (view_cn hf78 (by decide : 6 ≠ 2))
          replace hG := gIf_n hG (view_cn hf78 (by decide : 6 ≠ 3))
          replace hG := gIf_n hG (view_cn hf78 (by decide : 6 ≠ 4))
          refine cGoI (cRunU (As := []) (rest := []) C9 hml hN hNs V I hS (cRc C9 V tk7.1 hf78 rfl) (c_X9_hasStrands l D ks τ L A N hN  ψ f y6 (tyS_of tk7 (by decide)) ) (va_cwU 0 hts gU_X12_77_X7 rfl rfl rfl rfl okU_X12_77 ⟨Nat.le_of_ble_eq_true rfl, Nat.le_of_ble_eq_true rfl⟩) hl.1 rfl (Nat.le_of_ble_eq_true rfl) dX12_drop_38 ⟨Nat.le_of_ble_eq_true rfl, Nat.le_of_ble_eq_true rfl⟩) hS (fun r81 p80 f79 H locs hqf79 V I hS => ?_)
          obtain ⟨hqf79, ghqf79⟩ := hqf79
          replace hG := gC_e hG ghqf79
          have I : cI ks τ L ψ f79 := by rw [show p80 = ψ from hqf79] at I; exact I
          refine lv_if_eq (tgt := 54) hx hb dX12_drop_41 (by decide) (fun c82 => ?_) (fun c82 => ?_)
          · replace hG := gIf_p hG c82
            refine lv_aload_n hx hb dX12_drop_54 rfl (lv_at hl 0 rfl) ?_
            obtain ⟨v83_0, v83_1, v83_2, v83_3, v83_4, v83_5, hf83, t83_0, t83_1, t83_2⟩ := op9 I t_o0
            refine cG C9 V t_o0.1 hf83 rfl tC_lay9 1 (by decide) tCf_X12_18 (Or.inl rfl) rfl dX12_drop_55 ?_
            replace hG := gLt_e hG (view_gR hf83 rfl)
            refine lv_iload_n hx hb dX12_drop_58 rfl (lv_at hl 1 rfl) ?_
            refine lv_null hx hb dX12_drop_59 ?_
            obtain ⟨g84, hf84, hg84⟩ := op15 I t83_1
            refine cSn (t0 := 3) C9 V hS t83_1.1 hf84 rfl (cvin (N := 24) rfl (ci_le c1) (ci_lt c4)) dX12_drop_60 (fun f85 H locs ef85 V hS => ?_)
            replace hG := gLt_e hG (view_Q hf84 ef85)
            have hgg86 := tySO_up (i := Int32.toNatClampNeg i1) (v := none) hg84 tySO_n
            obtain ⟨g86, eg86⟩ : ∃ z, z = va_up g84 (Int32.toNatClampNeg i1) none := ⟨_, rfl⟩
            rw [← eg86] at ef85 hgg86
            have hf87 := up_s ef85
            have I := cI_up I t83_1.2 ef85 (mk15 hgg86)
            have hf88 := up_n ef85 t83_1.2 t_o0.2 (by first | decide | omega) hf83
            refine lv_aload_n hx hb dX12_drop_61 rfl (lv_at hl 0 rfl) ?_
            refine cGoI (cRunV (As := []) (rest := []) C9 hml hN hNs V I hS t_o0.1 hf88 rfl (c_X12_howManySyncs l D ks τ L A N hN  ψ f85 o0 t_o0 ) gC_X12_83 okC_X12_howManySyncs ⟨rfl, rfl, Nat.le_of_ble_eq_true rfl, Nat.le_of_ble_eq_true rfl⟩ hl.1 rfl (Nat.le_of_ble_eq_true rfl) dX12_drop_62 ⟨Nat.le_of_ble_eq_true rfl, Nat.le_of_ble_eq_true rfl⟩) hS (fun r91 p90 f89 H locs hqf89 V I hS => ?_)
            obtain ⟨hqf89, ghqf89⟩ := hqf89
            replace hG := gC_e hG ghqf89
            have I : cI ks τ L ψ f89 := by rw [show p90 = ψ from hqf89] at I; exact I
            exact cRx (Nat.le_of_ble_eq_true rfl) (Nat.le_of_ble_eq_true rfl) (cRetI C9 hr hlk hN hNs V I hS (⟨rfl, hG.symm⟩) dX12_drop_65)
          · replace hG := gIf_n hG c82
            exact cThr (text := "a THREAD is in a row of it") (names := xNm) C9 h0 V I hS hlt hET hlk hml hl.1 (xw_63_67 hts h0) (by simp [nMs]) (by simp) (⟨rfl, Or.inr (⟨rfl, hG.symm⟩)⟩) ⟨Nat.le_of_ble_eq_true rfl, Nat.le_of_ble_eq_true rfl, Nat.le_of_ble_eq_true rfl, Nat.le_of_ble_eq_true rfl⟩ ⟨Nat.le_of_ble_eq_true rfl, Nat.le_of_ble_eq_true rfl⟩ dX12_drop_44 dX12_drop_47 dX12_drop_48 dX12_drop_50 dX12_drop_53
def FC_X12_tick_L39 (o0 : Nat) (v2_2 : Nat) (x8 : Int32) : Nat → Int32 → Int32 → xS → Int32 × Int32 × xS
  | 0, w39_2, w39_5, XGf39 => ((0 : Int32), (0 : Int32), XGf39)
  | N9_39 + 1, w39_2, w39_5, XGf39 => if x8 ≤ (w39_5 : Int32) then (((0 : Int32), (w39_2 : Int32), XGf39)) else (gLt ((xQ XGf39 v2_2 w39_5).getD 0 : Nat) (fun y12 => gLt (xI XGf39 y12 1 : Int32) (fun v13_1 => if (v13_1 : Int32) = 3 then (gLt (xJ XGf39 y12 6 : Int64) (fun v13_6 => gLt (xJ XGf39 o0 3 : Int64) (fun v16_3 => if 0 < ((lg_cmp v13_6 v16_3) : Int32) then (gLt (w39_5 + (1) : Int32) (fun x18 => FC_X12_tick_L39 o0 v2_2 x8 N9_39 w39_2 x18 XGf39)) else (gLt (FC_X8_goOn XGf39 y12 : xS) (fun Xf19 => gLt (w39_2 + (1) : Int32) (fun x22 => gLt (w39_5 + (1) : Int32) (fun x23 => FC_X12_tick_L39 o0 v2_2 x8 N9_39 x22 x23 Xf19))))))) else (gLt (w39_5 + (1) : Int32) (fun x15 => FC_X12_tick_L39 o0 v2_2 x8 N9_39 w39_2 x15 XGf39)))))
def FC_X12_tick (X : xS) (o0 : Nat) (i1 : Int32) : Int32 × Int32 × xS := if 0 ≤ (i1 : Int32) then (gLt (xJ X o0 3 : Int64) (fun v2_3 => gLt ((v2_3 + (Int32.toInt64 i1)) : Int64) (fun x3 => gLt (xwJ X o0 3 x3 : xS) (fun Xf4 => gLt (0 : Int32) (fun x6 => gLt ((xR Xf4 o0 2).getD 0 : Nat) (fun v2_2 => gLt (8 : Int32) (fun x8 => gLt (0 : Int32) (fun x9 => FC_X12_tick_L39 o0 v2_2 x8 ((8 - x9).toInt.toNat + 1) x6 x9 Xf4)))))))) else (((1 : Int32), (0 : Int32), X))
set_option maxHeartbeats 200000 in
set_option maxRecDepth 100000 in
theorem c_X12_tick (l : Launch) (D : va_G) (ks : kS) (τ : Nat → Nat) (L : List Nat) (A : Nat → Prop) (N : State → Prop) (hN : cNk A N) (κ : kC) (hN0 : ∀ U, N U → N0 κ A U) (hlt : l.stackTraces = false) (ψ : Int32) (f : Nat → va_E) (o0 : Nat) (i1 : Int32) (t_o0 : ty τ L o0 9) : vx_Met l yX12_tick (Cond.code yX12_tick cX12_tick 7 (some .int) :: tC) ({ frames := 6, cells := 1, slots := 6, locals := 100 }) (va_Pc [.ref o0, .int i1] (cB D ks τ L A N (ψ, f))) (va_Qi (fun r9 x9 => (x9.1 = ψ) ∧ ((0 : Int32), r9, view x9.2) = FC_X12_tick (view f) o0 i1) (cB D ks τ L A N) A) (cX D ks τ L A ["java/lang/IllegalArgumentException"] (fun e9 x9 => (x9.1 = ψ) ∧ ((e9 = "java/lang/IllegalArgumentException" ∧ ((1 : Int32), (0 : Int32), view x9.2) = FC_X12_tick (view f) o0 i1)))) 1 6 A := by
  refine cMetX (own := RX12) (by decide) rfl (Nat.le_of_ble_eq_true rfl) ?_
  intro p e s m below meth c ls C9 hml hr hlk hET V I hNs hl
  have hx := C9.1
  have hb := C9.2.1
  have hown := C9.2.2.1
  have hts := C9.2.2.2.1
  have h0 := hN0 s hNs
  have hS : va_S A s.heap s.heap [] := va_S.rf
  have hG := FC_X12_tick.eq_1 (view f) o0 i1
  have hl : lv_has ls 7 [(0, .ref o0), (1, .int i1)] := hl
  refine lv_iload_n hx hb dX12_tick_0 rfl (lv_at hl 1 rfl) ?_
  refine lv_if_ge (tgt := 14) hx hb dX12_tick_1 (by decide) (fun c1 => ?_) (fun c1 => ?_)
  · replace hG := gIf_p hG c1
    refine lv_aload_n hx hb dX12_tick_14 rfl (lv_at hl 0 rfl) ?_
    refine lv_dup hx hb dX12_tick_15 rfl ?_
    obtain ⟨v2_0, v2_1, v2_2, v2_3, v2_4, v2_5, hf2, t2_0, t2_1, t2_2⟩ := op9 I t_o0
    refine cG C9 V t_o0.1 hf2 rfl tC_lay9 3 (by decide) tCf_X12_129 (Or.inl rfl) rfl dX12_tick_16 ?_
    replace hG := gLt_e hG (view_gJ hf2 rfl)
    refine lv_iload_n hx hb dX12_tick_19 rfl (lv_at hl 1 rfl) ?_
    refine lv_i2l hx hb dX12_tick_20 rfl ?_
    refine lv_ladd hx hb dX12_tick_21 ?_
    refine lv_topl (fun x3 ex3 => ?_)
    replace hG := gLt_e hG ex3
    refine cP (v := .long x3) (ty := .long) C9 V hS t_o0.1 hf2 rfl tC_lay9 tyX12 tyX12_ok nmX12 3 (by decide) tCf_X12_129 rfl rfl (by decide +kernel) rfl rfl (Nat.le_of_ble_eq_true rfl) dX12_tick_22 (fun f4 H locs ef4 V hS => ?_)
    replace hG := gLt_e hG (view_J hf2 rfl ef4)
    have hf5 : f4 o0 = .inr (9, [.ref v2_0, .ref v2_1, .ref v2_2, .long x3, .long v2_4, .int v2_5]) := up_s ef4
    have I := cI_up I t_o0.2 ef4 (mk9 t2_0 t2_1 t2_2)
    refine lv_iconst (v := 0) hx hb dX12_tick_25 (by decide) ?_
    refine lv_topi (fun x6 ex6 => ?_)
    replace hG := gLt_e hG ex6
    refine lv_istore_n (lv' := [(2, .int x6), (0, .ref o0), (1, .int i1)]) hx hb dX12_tick_26 rfl hl (by decide) rfl (fun ls hl => ?_)
    refine lv_aload_n hx hb dX12_tick_27 rfl (lv_at hl 1 rfl) ?_
    refine cG C9 V t_o0.1 hf5 rfl tC_lay9 2 (by decide) tCf_X12_24 (Or.inl rfl) rfl dX12_tick_28 ?_
    replace hG := gLt_e hG (view_gR hf5 rfl)
    refine lv_astore_n (lv' := [(3, .ref v2_2), (2, .int x6), (0, .ref o0), (1, .int i1)]) hx hb dX12_tick_31 rfl hl (by decide) rfl (fun ls hl => ?_)
    refine lv_aload_n hx hb dX12_tick_32 rfl (lv_at hl 0 rfl) ?_
    obtain ⟨g7, hf7, hg7⟩ := op14 I t2_2
    refine cAl (t0 := 2) (v := 8) C9 V t2_2.1 hf7 rfl (by first | rfl | decide) dX12_tick_33 ?_
    refine lv_topi (fun x8 ex8 => ?_)
    replace hG := gLt_e hG ex8
    refine lv_istore (lv' := [(4, .int x8), (3, .ref v2_2), (2, .int x6), (0, .ref o0), (1, .int i1)]) hx hb dX12_tick_34 hl (by decide) rfl (fun ls hl => ?_)
    refine lv_iconst (v := 0) hx hb dX12_tick_36 (by decide) ?_
    refine lv_topi (fun x9 ex9 => ?_)
    replace hG := gLt_e hG ex9
    refine lv_istore (lv' := [(5, .int x9), (4, .int x8), (3, .ref v2_2), (2, .int x6), (0, .ref o0), (1, .int i1)]) hx hb dX12_tick_37 hl (by decide) rfl (fun ls hl => ?_)
    have loop39 : ∀ (N9_39 : Nat) (w39_2 : Int32) (w39_5 : Int32)  (Gf39 : Nat → va_E) (H : Heap) (locs : List Loc) (ls : Array Slot), cI ks τ L ψ Gf39 → (0 ≤ w39_5 ∧ w39_5 ≤ 8) → ((8 - w39_5).toInt.toNat) < N9_39 → (FC_X12_tick (view f) o0 i1 = FC_X12_tick_L39 o0 v2_2 x8 N9_39 w39_2 w39_5 (view Gf39)) → cV D L Gf39 A H → va_S A s.heap H locs → lv_has ls 7 [(0, .ref o0), (2, .int w39_2), (3, .ref v2_2), (4, .int x8), (5, .int w39_5)] → W p l e ({ frames := 6, cells := 1, slots := 6, locals := 100 } : Room) s m ([.ref o0, .int i1] : List Value).toArray below meth c H locs 0 0 (vx_MQ below (va_Qi (fun r9 x9 => (x9.1 = ψ) ∧ ((0 : Int32), r9, view x9.2) = FC_X12_tick (view f) o0 i1) (cB D ks τ L A N) A) (cX D ks τ L A ["java/lang/IllegalArgumentException"] (fun e9 x9 => (x9.1 = ψ) ∧ ((e9 = "java/lang/IllegalArgumentException" ∧ ((1 : Int32), (0 : Int32), view x9.2) = FC_X12_tick (view f) o0 i1)))) ([.ref o0, .int i1] : List Value).toArray s 1 6 A) (F0 m 39 ls []) := by
      intro N9_39
      induction N9_39 with
      | zero => intro w39_2 w39_5  Gf39 H locs ls I hi39 hm39; exact absurd hm39 (Nat.not_lt_zero _)
      | succ N9_39 ih39 =>
        intro w39_2 w39_5  Gf39 H locs ls I hi39 hm39 hG V hS hl
        rw [FC_X12_tick_L39] at hG
        refine lv_iload hx hb dX12_tick_39 (lv_at hl 4 rfl) ?_
        refine lv_iload hx hb dX12_tick_41 (lv_at hl 3 rfl) ?_
        refine lv_icmp_ge (tgt := 88) hx hb dX12_tick_43 (by decide) (fun c10 => ?_) (fun c10 => ?_)
        · replace hG := gIf_p hG c10
          refine lv_iload_n hx hb dX12_tick_88 rfl (lv_at hl 1 rfl) ?_
          exact cRx (Nat.le_of_ble_eq_true rfl) (Nat.le_of_ble_eq_true rfl) (cRetI C9 hr hlk hN hNs V I hS (⟨rfl, hG.symm⟩) dX12_tick_89)
        · replace hG := gIf_n hG c10
          refine lv_aload_n hx hb dX12_tick_46 rfl (lv_at hl 2 rfl) ?_
          refine lv_iload hx hb dX12_tick_47 (lv_at hl 4 rfl) ?_
          obtain ⟨g11, hf11, hg11⟩ := op14 I t2_2
          refine cLr (t0 := 2) C9 V t2_2.1 hf11 rfl (cvin (N := 8) rfl (hi39.1) (lt_e ex8 c10)) dX12_tick_49 ?_
          obtain ⟨y12, ey12, hy12⟩ := hg11 _ ((ca_lt8 hi39.1 (lt_e ex8 c10)))
          rw [ey12]
          replace hG := gLt_e hG (view_gQs hf11 ey12)
          refine W.eq (g2 := F0 m 50 ls [.ref y12]) rfl ?_
          refine lv_astore (lv' := [(6, .ref y12), (0, .ref o0), (2, .int w39_2), (3, .ref v2_2), (4, .int x8), (5, .int w39_5)]) hx hb dX12_tick_50 hl (by decide) rfl (fun ls hl => ?_)
          refine lv_aload hx hb dX12_tick_52 (lv_at hl 0 rfl) ?_
          obtain ⟨v13_0, v13_1, v13_2, v13_3, v13_4, v13_5, v13_6, v13_7, v13_8, v13_9, v13_10, v13_11, v13_12, hf13, t13_7, t13_8, t13_11⟩ := op7 I hy12
          refine cG C9 V hy12.1 hf13 rfl tC_lay7 1 (by decide) tCf_X12_112 (Or.inl rfl) rfl dX12_tick_54 ?_
          replace hG := gLt_e hG (view_gI hf13 rfl)
          refine lv_iconst (v := 3) hx hb dX12_tick_57 (by decide) ?_
          refine lv_icmp_ne (tgt := 82) hx hb dX12_tick_58 (by decide) (fun c14 => ?_) (fun c14 => ?_)
          · replace hG := gIf_n hG c14
            obtain ⟨x15, ex15⟩ : ∃ y : Int32, y = w39_5 + (1) := ⟨_, rfl⟩
            replace hG := gLt_e hG ex15
            refine lv_iinc (v := x15) (lv' := [(5, .int x15), (6, .ref y12), (0, .ref o0), (2, .int w39_2), (3, .ref v2_2), (4, .int x8)]) hx hb dX12_tick_82 hl (k := 5) rfl (by rw [ex15]; rfl) (by decide) rfl (fun ls hl => ?_)
            refine lv_goto (tgt := 39) hx hb dX12_tick_85 (by decide) ?_
            exact ih39 w39_2 x15  Gf39 _ _ _ I (ca_up ex15 hi39.1 (lt_e ex8 c10)) (cmsd hm39 (ca_dec ex15 hi39.1 (lt_e ex8 c10)).1 (ca_dec ex15 hi39.1 (lt_e ex8 c10)).2) hG V hS (lv_sub hl [2, 3, 4, 5, 0] rfl)
          · replace hG := gIf_p hG c14
            refine lv_aload hx hb dX12_tick_61 (lv_at hl 0 rfl) ?_
            refine cG C9 V hy12.1 hf13 rfl tC_lay7 6 (by decide) tCf_X12_133 (Or.inl rfl) rfl dX12_tick_63 ?_
            replace hG := gLt_e hG (view_gJ hf13 rfl)
            refine lv_aload_n hx hb dX12_tick_66 rfl (lv_at hl 1 rfl) ?_
            obtain ⟨v16_0, v16_1, v16_2, v16_3, v16_4, v16_5, hf16, t16_0, t16_1, t16_2⟩ := op9 I t_o0
            refine cG C9 V t_o0.1 hf16 rfl tC_lay9 3 (by decide) tCf_X12_129 (Or.inl rfl) rfl dX12_tick_67 ?_
            replace hG := gLt_e hG (view_gJ hf16 rfl)
            refine W.lcmp hx hb dX12_tick_70 ?_
            refine lv_if_gt (tgt := 82) hx hb dX12_tick_71 (by decide) (fun c17 => ?_) (fun c17 => ?_)
            · replace hG := gIf_p hG c17
              obtain ⟨x18, ex18⟩ : ∃ y : Int32, y = w39_5 + (1) := ⟨_, rfl⟩
              replace hG := gLt_e hG ex18
              refine lv_iinc (v := x18) (lv' := [(5, .int x18), (6, .ref y12), (0, .ref o0), (2, .int w39_2), (3, .ref v2_2), (4, .int x8)]) hx hb dX12_tick_82 hl (k := 5) rfl (by rw [ex18]; rfl) (by decide) rfl (fun ls hl => ?_)
              refine lv_goto (tgt := 39) hx hb dX12_tick_85 (by decide) ?_
              exact ih39 w39_2 x18  Gf39 _ _ _ I (ca_up ex18 hi39.1 (lt_e ex8 c10)) (cmsd hm39 (ca_dec ex18 hi39.1 (lt_e ex8 c10)).1 (ca_dec ex18 hi39.1 (lt_e ex8 c10)).2) hG V hS (lv_sub hl [2, 3, 4, 5, 0] rfl)
            · replace hG := gIf_n hG c17
              refine lv_aload hx hb dX12_tick_74 (lv_at hl 0 rfl) ?_
              refine cGoV (cRunV (As := []) (rest := []) C9 hml hN hNs V I hS hy12.1 hf13 rfl (c_X8_goOn l D ks τ L A N hN  ψ Gf39 y12 hy12 ) gC_X12_136 okC_X8_goOn ⟨rfl, rfl, Nat.le_of_ble_eq_true rfl, Nat.le_of_ble_eq_true rfl⟩ hl.1 rfl (Nat.le_of_ble_eq_true rfl) dX12_tick_76 ⟨Nat.le_of_ble_eq_true rfl, Nat.le_of_ble_eq_true rfl⟩) hS (fun p20 f19 H locs hqf19 V I hS => ?_)
              obtain ⟨hqf19, ghqf19⟩ := hqf19
              replace hG := gLt_e hG (ghqf19)
              have I : cI ks τ L ψ f19 := by rw [show p20 = ψ from hqf19] at I; exact I
              obtain ⟨x22, ex22⟩ : ∃ y : Int32, y = w39_2 + (1) := ⟨_, rfl⟩
              replace hG := gLt_e hG ex22
              refine lv_iinc (v := x22) (lv' := [(2, .int x22), (6, .ref y12), (0, .ref o0), (3, .ref v2_2), (4, .int x8), (5, .int w39_5)]) hx hb dX12_tick_79 hl (k := 2) rfl (by rw [ex22]; rfl) (by decide) rfl (fun ls hl => ?_)
              obtain ⟨x23, ex23⟩ : ∃ y : Int32, y = w39_5 + (1) := ⟨_, rfl⟩
              replace hG := gLt_e hG ex23
              refine lv_iinc (v := x23) (lv' := [(5, .int x23), (2, .int x22), (6, .ref y12), (0, .ref o0), (3, .ref v2_2), (4, .int x8)]) hx hb dX12_tick_82 hl (k := 5) rfl (by rw [ex23]; rfl) (by decide) rfl (fun ls hl => ?_)
              refine lv_goto (tgt := 39) hx hb dX12_tick_85 (by decide) ?_
              exact ih39 x22 x23  f19 _ _ _ I (ca_up ex23 hi39.1 (lt_e ex8 c10)) (cmsd hm39 (ca_dec ex23 hi39.1 (lt_e ex8 c10)).1 (ca_dec ex23 hi39.1 (lt_e ex8 c10)).2) hG V hS (lv_sub hl [3, 1, 4, 5, 0] rfl)
    exact loop39 ((8 - x9).toInt.toNat + 1) x6 x9  f4 _ _ _ I (by clear hG V hS hl C9 hts hown hx hb hml hr hlk h0 hN0 hET hlt; subst_vars; decide) (Nat.lt_succ_self _) hG V hS (lv_sub hl [4, 3, 2, 1, 0] rfl)
  · replace hG := gIf_n hG c1
    exact cThr (text := "n is out of range") (names := xNm) C9 h0 V I hS hlt hET hlk hml hl.1 (xw_48_52 hts h0) (by simp [nMs]) (by simp) (⟨rfl, ⟨rfl, hG.symm⟩⟩) ⟨Nat.le_of_ble_eq_true rfl, Nat.le_of_ble_eq_true rfl, Nat.le_of_ble_eq_true rfl, Nat.le_of_ble_eq_true rfl⟩ ⟨Nat.le_of_ble_eq_true rfl, Nat.le_of_ble_eq_true rfl⟩ dX12_tick_4 dX12_tick_7 dX12_tick_8 dX12_tick_10 dX12_tick_13
def FC_X12_run_L36 (o0 : Nat) (i1 : Int32) (i3 : Int32) : Nat → Int32 → Int32 → xS → Int32 × Int32 × xS
  | 0, w36_4, w36_5, XGf36 => ((0 : Int32), (0 : Int32), XGf36)
  | N9_36 + 1, w36_4, w36_5, XGf36 => if i3 ≤ (w36_5 : Int32) then (((0 : Int32), (i3 : Int32), XGf36)) else (gC (FC_X12_howManyReady XGf36 o0) (fun r10 Xf8 => if 1 ≤ (r10 : Int32) then (gLt (0 : Int32) (fun x12 => if (i1 : Int32) = 0 then (gLt (((w36_4 * 1103515245) + 12345) : Int32) (fun x45 => gLt (((x45 : Int32).toUInt32 >>> ((8 : Int32).toUInt32 &&& Int32.toUInt32 31)).toInt32 : Int32) (fun x46 => gLt ((x46 - x46 / r10 * r10) : Int32) (fun x47 => if (i1 : Int32) = 2 then (gLt (xI Xf8 o0 5 : Int32) (fun v64_5 => gC (FC_X12_readyFrom Xf8 o0 (v64_5 + 1) x47) (fun r67 Xf65 => gO (r67) (gLt (FC_X12_takeTurn Xf65 o0 none : xS) (fun Xf70 => gLt (w36_5 + (1) : Int32) (fun x73 => FC_X12_run_L36 o0 i1 i3 N9_36 x45 x73 Xf70))) (fun y68 => gLt (FC_X12_takeTurn Xf65 o0 (some y68) : xS) (fun Xf75 => gLt (w36_5 + (1) : Int32) (fun x78 => FC_X12_run_L36 o0 i1 i3 N9_36 x45 x78 Xf75)))))) else (gC (FC_X12_readyFrom Xf8 o0 0 x47) (fun r52 Xf50 => gO (r52) (gLt (FC_X12_takeTurn Xf50 o0 none : xS) (fun Xf55 => gLt (w36_5 + (1) : Int32) (fun x58 => FC_X12_run_L36 o0 i1 i3 N9_36 x45 x58 Xf55))) (fun y53 => gLt (FC_X12_takeTurn Xf50 o0 (some y53) : xS) (fun Xf60 => gLt (w36_5 + (1) : Int32) (fun x63 => FC_X12_run_L36 o0 i1 i3 N9_36 x45 x63 Xf60))))))))) else (if (i1 : Int32) = 2 then (gLt (xI Xf8 o0 5 : Int32) (fun v30_5 => gC (FC_X12_readyFrom Xf8 o0 (v30_5 + 1) x12) (fun r33 Xf31 => gO (r33) (gLt (FC_X12_takeTurn Xf31 o0 none : xS) (fun Xf36 => gLt (w36_5 + (1) : Int32) (fun x39 => FC_X12_run_L36 o0 i1 i3 N9_36 w36_4 x39 Xf36))) (fun y34 => gLt (FC_X12_takeTurn Xf31 o0 (some y34) : xS) (fun Xf41 => gLt (w36_5 + (1) : Int32) (fun x44 => FC_X12_run_L36 o0 i1 i3 N9_36 w36_4 x44 Xf41)))))) else (gC (FC_X12_readyFrom Xf8 o0 0 x12) (fun r18 Xf16 => gO (r18) (gLt (FC_X12_takeTurn Xf16 o0 none : xS) (fun Xf21 => gLt (w36_5 + (1) : Int32) (fun x24 => FC_X12_run_L36 o0 i1 i3 N9_36 w36_4 x24 Xf21))) (fun y19 => gLt (FC_X12_takeTurn Xf16 o0 (some y19) : xS) (fun Xf26 => gLt (w36_5 + (1) : Int32) (fun x29 => FC_X12_run_L36 o0 i1 i3 N9_36 w36_4 x29 Xf26)))))))) else (((0 : Int32), (w36_5 : Int32), Xf8))))
def FC_X12_run (X : xS) (o0 : Nat) (i1 : Int32) (i2 : Int32) (i3 : Int32) : Int32 × Int32 × xS := if (i1 : Int32) < 0 then (((1 : Int32), (0 : Int32), X)) else (if 2 < (i1 : Int32) then (((1 : Int32), (0 : Int32), X)) else (if (i3 : Int32) < 0 then (((1 : Int32), (0 : Int32), X)) else (if (i3 : Int32) ≤ 4000 then (gLt (0 : Int32) (fun x5 => FC_X12_run_L36 o0 i1 i3 ((i3 - x5).toInt.toNat + 1) i2 x5 X)) else (((1 : Int32), (0 : Int32), X)))))
set_option maxHeartbeats 200000 in
set_option maxRecDepth 100000 in
theorem c_X12_run (l : Launch) (D : va_G) (ks : kS) (τ : Nat → Nat) (L : List Nat) (A : Nat → Prop) (N : State → Prop) (hN : cNk A N) (κ : kC) (hN0 : ∀ U, N U → N0 κ A U) (hlt : l.stackTraces = false) (ψ : Int32) (f : Nat → va_E) (o0 : Nat) (i1 : Int32) (i2 : Int32) (i3 : Int32) (t_o0 : ty τ L o0 9) : vx_Met l yX12_run (Cond.code yX12_run cX12_run 8 (some .int) :: tC) ({ frames := 6, cells := 1, slots := 6, locals := 133 }) (va_Pc [.ref o0, .int i1, .int i2, .int i3] (cB D ks τ L A N (ψ, f))) (va_Qi (fun r9 x9 => (x9.1 = ψ) ∧ ((0 : Int32), r9, view x9.2) = FC_X12_run (view f) o0 i1 i2 i3) (cB D ks τ L A N) A) (cX D ks τ L A ["java/lang/IllegalArgumentException"] (fun e9 x9 => (x9.1 = ψ) ∧ ((e9 = "java/lang/IllegalArgumentException" ∧ ((1 : Int32), (0 : Int32), view x9.2) = FC_X12_run (view f) o0 i1 i2 i3)))) 1 6 A := by
  refine cMetX (own := RX12) (by decide) rfl (Nat.le_of_ble_eq_true rfl) ?_
  intro p e s m below meth c ls C9 hml hr hlk hET V I hNs hl
  have hx := C9.1
  have hb := C9.2.1
  have hown := C9.2.2.1
  have hts := C9.2.2.2.1
  have h0 := hN0 s hNs
  have hS : va_S A s.heap s.heap [] := va_S.rf
  have hG := FC_X12_run.eq_1 (view f) o0 i1 i2 i3
  have hl : lv_has ls 8 [(0, .ref o0), (1, .int i1), (2, .int i2), (3, .int i3)] := hl
  refine lv_iload_n hx hb dX12_run_0 rfl (lv_at hl 1 rfl) ?_
  refine lv_if_lt (tgt := 20) hx hb dX12_run_1 (by decide) (fun c1 => ?_) (fun c1 => ?_)
  · replace hG := gIf_p hG c1
    exact cThr (text := "how or n is out of range") (names := xNm) C9 h0 V I hS hlt hET hlk hml hl.1 (xw_48_52 hts h0) (by simp [nMs]) (by simp) (⟨rfl, ⟨rfl, hG.symm⟩⟩) ⟨Nat.le_of_ble_eq_true rfl, Nat.le_of_ble_eq_true rfl, Nat.le_of_ble_eq_true rfl, Nat.le_of_ble_eq_true rfl⟩ ⟨Nat.le_of_ble_eq_true rfl, Nat.le_of_ble_eq_true rfl⟩ dX12_run_20 dX12_run_23 dX12_run_24 dX12_run_26 dX12_run_29
  · replace hG := gIf_n hG c1
    refine lv_iload_n hx hb dX12_run_4 rfl (lv_at hl 1 rfl) ?_
    refine lv_iconst (v := 2) hx hb dX12_run_5 (by decide) ?_
    refine lv_icmp_gt (tgt := 20) hx hb dX12_run_6 (by decide) (fun c2 => ?_) (fun c2 => ?_)
    · replace hG := gIf_p hG c2
      exact cThr (text := "how or n is out of range") (names := xNm) C9 h0 V I hS hlt hET hlk hml hl.1 (xw_48_52 hts h0) (by simp [nMs]) (by simp) (⟨rfl, ⟨rfl, hG.symm⟩⟩) ⟨Nat.le_of_ble_eq_true rfl, Nat.le_of_ble_eq_true rfl, Nat.le_of_ble_eq_true rfl, Nat.le_of_ble_eq_true rfl⟩ ⟨Nat.le_of_ble_eq_true rfl, Nat.le_of_ble_eq_true rfl⟩ dX12_run_20 dX12_run_23 dX12_run_24 dX12_run_26 dX12_run_29
    · replace hG := gIf_n hG c2
      refine lv_iload_n hx hb dX12_run_9 rfl (lv_at hl 3 rfl) ?_
      refine lv_if_lt (tgt := 20) hx hb dX12_run_10 (by decide) (fun c3 => ?_) (fun c3 => ?_)
      · replace hG := gIf_p hG c3
        exact cThr (text := "how or n is out of range") (names := xNm) C9 h0 V I hS hlt hET hlk hml hl.1 (xw_48_52 hts h0) (by simp [nMs]) (by simp) (⟨rfl, ⟨rfl, hG.symm⟩⟩) ⟨Nat.le_of_ble_eq_true rfl, Nat.le_of_ble_eq_true rfl, Nat.le_of_ble_eq_true rfl, Nat.le_of_ble_eq_true rfl⟩ ⟨Nat.le_of_ble_eq_true rfl, Nat.le_of_ble_eq_true rfl⟩ dX12_run_20 dX12_run_23 dX12_run_24 dX12_run_26 dX12_run_29
      · replace hG := gIf_n hG c3
        refine lv_iload_n hx hb dX12_run_13 rfl (lv_at hl 3 rfl) ?_
        refine lv_sipush (v := 4000) hx hb dX12_run_14 (by decide) ?_
        refine lv_icmp_le (tgt := 30) hx hb dX12_run_17 (by decide) (fun c4 => ?_) (fun c4 => ?_)
        · replace hG := gIf_p hG c4
          refine lv_iload_n hx hb dX12_run_30 rfl (lv_at hl 2 rfl) ?_
          refine lv_istore (lv' := [(4, .int i2), (0, .ref o0), (1, .int i1), (2, .int i2), (3, .int i3)]) hx hb dX12_run_31 hl (by decide) rfl (fun ls hl => ?_)
          refine lv_iconst (v := 0) hx hb dX12_run_33 (by decide) ?_
          refine lv_topi (fun x5 ex5 => ?_)
          replace hG := gLt_e hG ex5
          refine lv_istore (lv' := [(5, .int x5), (4, .int i2), (0, .ref o0), (1, .int i1), (2, .int i2), (3, .int i3)]) hx hb dX12_run_34 hl (by decide) rfl (fun ls hl => ?_)
          have loop36 : ∀ (N9_36 : Nat) (w36_4 : Int32) (w36_5 : Int32)  (Gf36 : Nat → va_E) (H : Heap) (locs : List Loc) (ls : Array Slot), cI ks τ L ψ Gf36 → (0 ≤ w36_5 ∧ w36_5 ≤ i3) → ((i3 - w36_5).toInt.toNat) < N9_36 → (FC_X12_run (view f) o0 i1 i2 i3 = FC_X12_run_L36 o0 i1 i3 N9_36 w36_4 w36_5 (view Gf36)) → cV D L Gf36 A H → va_S A s.heap H locs → lv_has ls 8 [(0, .ref o0), (1, .int i1), (3, .int i3), (4, .int w36_4), (5, .int w36_5)] → W p l e ({ frames := 6, cells := 1, slots := 6, locals := 133 } : Room) s m ([.ref o0, .int i1, .int i2, .int i3] : List Value).toArray below meth c H locs 0 0 (vx_MQ below (va_Qi (fun r9 x9 => (x9.1 = ψ) ∧ ((0 : Int32), r9, view x9.2) = FC_X12_run (view f) o0 i1 i2 i3) (cB D ks τ L A N) A) (cX D ks τ L A ["java/lang/IllegalArgumentException"] (fun e9 x9 => (x9.1 = ψ) ∧ ((e9 = "java/lang/IllegalArgumentException" ∧ ((1 : Int32), (0 : Int32), view x9.2) = FC_X12_run (view f) o0 i1 i2 i3)))) ([.ref o0, .int i1, .int i2, .int i3] : List Value).toArray s 1 6 A) (F0 m 36 ls []) := by
            intro N9_36
            induction N9_36 with
            | zero => intro w36_4 w36_5  Gf36 H locs ls I hi36 hm36; exact absurd hm36 (Nat.not_lt_zero _)
            | succ N9_36 ih36 =>
              intro w36_4 w36_5  Gf36 H locs ls I hi36 hm36 hG V hS hl
              rw [FC_X12_run_L36] at hG
              refine lv_iload hx hb dX12_run_36 (lv_at hl 4 rfl) ?_
              refine lv_iload_n hx hb dX12_run_38 rfl (lv_at hl 2 rfl) ?_
              refine lv_icmp_ge (tgt := 116) hx hb dX12_run_39 (by decide) (fun c6 => ?_) (fun c6 => ?_)
              · replace hG := gIf_p hG c6
                refine lv_iload_n hx hb dX12_run_116 rfl (lv_at hl 2 rfl) ?_
                exact cRx (Nat.le_of_ble_eq_true rfl) (Nat.le_of_ble_eq_true rfl) (cRetI C9 hr hlk hN hNs V I hS (⟨rfl, hG.symm⟩) dX12_run_117)
              · replace hG := gIf_n hG c6
                refine lv_aload_n hx hb dX12_run_42 rfl (lv_at hl 0 rfl) ?_
                obtain ⟨v7_0, v7_1, v7_2, v7_3, v7_4, v7_5, hf7, t7_0, t7_1, t7_2⟩ := op9 I t_o0
                refine cGoI (cRunV (As := []) (rest := []) C9 hml hN hNs V I hS t_o0.1 hf7 rfl (c_X12_howManyReady l D ks τ L A N hN  ψ Gf36 o0 t_o0 ) gC_X12_121 okC_X12_howManyReady ⟨rfl, rfl, Nat.le_of_ble_eq_true rfl, Nat.le_of_ble_eq_true rfl⟩ hl.1 rfl (Nat.le_of_ble_eq_true rfl) dX12_run_43 ⟨Nat.le_of_ble_eq_true rfl, Nat.le_of_ble_eq_true rfl⟩) hS (fun r10 p9 f8 H locs hqf8 V I hS => ?_)
                obtain ⟨hqf8, ghqf8⟩ := hqf8
                replace hG := gC_e hG ghqf8
                have I : cI ks τ L ψ f8 := by rw [show p9 = ψ from hqf8] at I; exact I
                refine lv_istore (lv' := [(6, .int r10), (0, .ref o0), (1, .int i1), (3, .int i3), (4, .int w36_4), (5, .int w36_5)]) hx hb dX12_run_46 hl (by decide) rfl (fun ls hl => ?_)
                refine lv_iload hx hb dX12_run_48 (lv_at hl 0 rfl) ?_
                refine lv_iconst (v := 1) hx hb dX12_run_50 (by decide) ?_
                refine lv_icmp_ge (tgt := 57) hx hb dX12_run_51 (by decide) (fun c11 => ?_) (fun c11 => ?_)
                · replace hG := gIf_p hG c11
                  refine lv_iconst (v := 0) hx hb dX12_run_57 (by decide) ?_
                  refine lv_topi (fun x12 ex12 => ?_)
                  replace hG := gLt_e hG ex12
                  refine lv_istore (lv' := [(7, .int x12), (6, .int r10), (0, .ref o0), (1, .int i1), (3, .int i3), (4, .int w36_4), (5, .int w36_5)]) hx hb dX12_run_58 hl (by decide) rfl (fun ls hl => ?_)
                  refine lv_iload_n hx hb dX12_run_60 rfl (lv_at hl 3 rfl) ?_
                  refine lv_if_ne (tgt := 85) hx hb dX12_run_61 (by decide) (fun c13 => ?_) (fun c13 => ?_)
                  · replace hG := gIf_n hG c13
                    refine lv_aload_n hx hb dX12_run_85 rfl (lv_at hl 2 rfl) ?_
                    refine lv_aload_n hx hb dX12_run_86 rfl (lv_at hl 2 rfl) ?_
                    refine lv_iload_n hx hb dX12_run_87 rfl (lv_at hl 3 rfl) ?_
                    refine lv_iconst (v := 2) hx hb dX12_run_88 (by decide) ?_
                    refine lv_icmp_ne (tgt := 101) hx hb dX12_run_89 (by decide) (fun c14 => ?_) (fun c14 => ?_)
                    · replace hG := gIf_n hG c14
                      refine lv_iconst (v := 0) hx hb dX12_run_101 (by decide) ?_
                      refine lv_iload hx hb dX12_run_102 (lv_at hl 0 rfl) ?_
                      obtain ⟨v15_0, v15_1, v15_2, v15_3, v15_4, v15_5, hf15, t15_0, t15_1, t15_2⟩ := op9 I t_o0
                      refine cGoQ (cRunV (As := [.int 0, .int x12]) (rest := [.ref o0]) C9 hml hN hNs V I hS t_o0.1 hf15 rfl (c_X12_readyFrom l D ks τ L A N hN  ψ f8 o0 0 x12 t_o0 ) gC_X12_125 okC_X12_readyFrom ⟨rfl, rfl, Nat.le_of_ble_eq_true rfl, Nat.le_of_ble_eq_true rfl⟩ hl.1 rfl (Nat.le_of_ble_eq_true rfl) dX12_run_104 ⟨Nat.le_of_ble_eq_true rfl, Nat.le_of_ble_eq_true rfl⟩) hS (fun r18 p17 f16 H locs hqf16 V I hS => ?_)
                      obtain ⟨hqf16, ghqf16⟩ := hqf16
                      replace hG := gC_e hG ghqf16
                      have I : cI ks τ L ψ f16 := by rw [show p17 = ψ from hqf16.1] at I; exact I
                      replace hG := gO_e hG (rfl)
                      rcases r18 with _ | y19
                      · replace hG := gO_n hG
                        refine W.eq (g2 := F0 m 107 ls [.null, .ref o0]) rfl ?_
                        obtain ⟨v20_0, v20_1, v20_2, v20_3, v20_4, v20_5, hf20, t20_0, t20_1, t20_2⟩ := op9 I t_o0
                        refine cGoV (cRunV (As := [.null]) (rest := []) C9 hml hN hNs V I hS t_o0.1 hf20 rfl (c_X12_takeTurn l D ks τ L A N hN κ hN0 ψ f16 o0 none t_o0 tyO_n ) gC_X12_115 okC_X12_takeTurn ⟨rfl, rfl, Nat.le_of_ble_eq_true rfl, Nat.le_of_ble_eq_true rfl⟩ hl.1 rfl (Nat.le_of_ble_eq_true rfl) dX12_run_107 ⟨Nat.le_of_ble_eq_true rfl, Nat.le_of_ble_eq_true rfl⟩) hS (fun p22 f21 H locs hqf21 V I hS => ?_)
                        obtain ⟨hqf21, ghqf21⟩ := hqf21
                        replace hG := gLt_e hG (ghqf21)
                        have I : cI ks τ L ψ f21 := by rw [show p22 = ψ from hqf21] at I; exact I
                        obtain ⟨x24, ex24⟩ : ∃ y : Int32, y = w36_5 + (1) := ⟨_, rfl⟩
                        replace hG := gLt_e hG ex24
                        refine lv_iinc (v := x24) (lv' := [(5, .int x24), (7, .int x12), (6, .int r10), (0, .ref o0), (1, .int i1), (3, .int i3), (4, .int w36_4)]) hx hb dX12_run_110 hl (k := 6) rfl (by rw [ex24]; rfl) (by decide) rfl (fun ls hl => ?_)
                        refine lv_goto (tgt := 36) hx hb dX12_run_113 (by decide) ?_
                        exact ih36 w36_4 x24  f21 _ _ _ I (ca_up ex24 hi36.1 (ci_lt c6)) (cmsd hm36 (ca_dec ex24 hi36.1 (ci_lt c6)).1 (ca_dec ex24 hi36.1 (ci_lt c6)).2) hG V hS (lv_sub hl [3, 4, 5, 6, 0] rfl)
                      · replace hG := gO_s hG
                        have hy19 := hqf16.2 y19 rfl
                        refine W.eq (g2 := F0 m 107 ls [.ref y19, .ref o0]) rfl ?_
                        obtain ⟨v25_0, v25_1, v25_2, v25_3, v25_4, v25_5, hf25, t25_0, t25_1, t25_2⟩ := op9 I t_o0
                        refine cGoV (cRunV (As := [.ref y19]) (rest := []) C9 hml hN hNs V I hS t_o0.1 hf25 rfl (c_X12_takeTurn l D ks τ L A N hN κ hN0 ψ f16 o0 (some y19) t_o0 (tyO_s hy19) ) gC_X12_115 okC_X12_takeTurn ⟨rfl, rfl, Nat.le_of_ble_eq_true rfl, Nat.le_of_ble_eq_true rfl⟩ hl.1 rfl (Nat.le_of_ble_eq_true rfl) dX12_run_107 ⟨Nat.le_of_ble_eq_true rfl, Nat.le_of_ble_eq_true rfl⟩) hS (fun p27 f26 H locs hqf26 V I hS => ?_)
                        obtain ⟨hqf26, ghqf26⟩ := hqf26
                        replace hG := gLt_e hG (ghqf26)
                        have I : cI ks τ L ψ f26 := by rw [show p27 = ψ from hqf26] at I; exact I
                        obtain ⟨x29, ex29⟩ : ∃ y : Int32, y = w36_5 + (1) := ⟨_, rfl⟩
                        replace hG := gLt_e hG ex29
                        refine lv_iinc (v := x29) (lv' := [(5, .int x29), (7, .int x12), (6, .int r10), (0, .ref o0), (1, .int i1), (3, .int i3), (4, .int w36_4)]) hx hb dX12_run_110 hl (k := 6) rfl (by rw [ex29]; rfl) (by decide) rfl (fun ls hl => ?_)
                        refine lv_goto (tgt := 36) hx hb dX12_run_113 (by decide) ?_
                        exact ih36 w36_4 x29  f26 _ _ _ I (ca_up ex29 hi36.1 (ci_lt c6)) (cmsd hm36 (ca_dec ex29 hi36.1 (ci_lt c6)).1 (ca_dec ex29 hi36.1 (ci_lt c6)).2) hG V hS (lv_sub hl [3, 4, 5, 6, 0] rfl)
                    · replace hG := gIf_p hG c14
                      refine lv_aload_n hx hb dX12_run_92 rfl (lv_at hl 2 rfl) ?_
                      obtain ⟨v30_0, v30_1, v30_2, v30_3, v30_4, v30_5, hf30, t30_0, t30_1, t30_2⟩ := op9 I t_o0
                      refine cG C9 V t_o0.1 hf30 rfl tC_lay9 5 (by decide) tCf_X12_28 (Or.inl rfl) rfl dX12_run_93 ?_
                      replace hG := gLt_e hG (view_gI hf30 rfl)
                      refine lv_iconst (v := 1) hx hb dX12_run_96 (by decide) ?_
                      refine lv_iadd hx hb dX12_run_97 ?_
                      refine lv_goto (tgt := 102) hx hb dX12_run_98 (by decide) ?_
                      refine lv_iload hx hb dX12_run_102 (lv_at hl 0 rfl) ?_
                      refine cGoQ (cRunV (As := [.int (v30_5 + 1), .int x12]) (rest := [.ref o0]) C9 hml hN hNs V I hS t_o0.1 hf30 rfl (c_X12_readyFrom l D ks τ L A N hN  ψ f8 o0 (v30_5 + 1) x12 t_o0 ) gC_X12_125 okC_X12_readyFrom ⟨rfl, rfl, Nat.le_of_ble_eq_true rfl, Nat.le_of_ble_eq_true rfl⟩ hl.1 rfl (Nat.le_of_ble_eq_true rfl) dX12_run_104 ⟨Nat.le_of_ble_eq_true rfl, Nat.le_of_ble_eq_true rfl⟩) hS (fun r33 p32 f31 H locs hqf31 V I hS => ?_)
                      obtain ⟨hqf31, ghqf31⟩ := hqf31
                      replace hG := gC_e hG ghqf31
                      have I : cI ks τ L ψ f31 := by rw [show p32 = ψ from hqf31.1] at I; exact I
                      replace hG := gO_e hG (rfl)
                      rcases r33 with _ | y34
                      · replace hG := gO_n hG
                        refine W.eq (g2 := F0 m 107 ls [.null, .ref o0]) rfl ?_
                        obtain ⟨v35_0, v35_1, v35_2, v35_3, v35_4, v35_5, hf35, t35_0, t35_1, t35_2⟩ := op9 I t_o0
                        refine cGoV (cRunV (As := [.null]) (rest := []) C9 hml hN hNs V I hS t_o0.1 hf35 rfl (c_X12_takeTurn l D ks τ L A N hN κ hN0 ψ f31 o0 none t_o0 tyO_n ) gC_X12_115 okC_X12_takeTurn ⟨rfl, rfl, Nat.le_of_ble_eq_true rfl, Nat.le_of_ble_eq_true rfl⟩ hl.1 rfl (Nat.le_of_ble_eq_true rfl) dX12_run_107 ⟨Nat.le_of_ble_eq_true rfl, Nat.le_of_ble_eq_true rfl⟩) hS (fun p37 f36 H locs hqf36 V I hS => ?_)
                        obtain ⟨hqf36, ghqf36⟩ := hqf36
                        replace hG := gLt_e hG (ghqf36)
                        have I : cI ks τ L ψ f36 := by rw [show p37 = ψ from hqf36] at I; exact I
                        obtain ⟨x39, ex39⟩ : ∃ y : Int32, y = w36_5 + (1) := ⟨_, rfl⟩
                        replace hG := gLt_e hG ex39
                        refine lv_iinc (v := x39) (lv' := [(5, .int x39), (7, .int x12), (6, .int r10), (0, .ref o0), (1, .int i1), (3, .int i3), (4, .int w36_4)]) hx hb dX12_run_110 hl (k := 6) rfl (by rw [ex39]; rfl) (by decide) rfl (fun ls hl => ?_)
                        refine lv_goto (tgt := 36) hx hb dX12_run_113 (by decide) ?_
                        exact ih36 w36_4 x39  f36 _ _ _ I (ca_up ex39 hi36.1 (ci_lt c6)) (cmsd hm36 (ca_dec ex39 hi36.1 (ci_lt c6)).1 (ca_dec ex39 hi36.1 (ci_lt c6)).2) hG V hS (lv_sub hl [3, 4, 5, 6, 0] rfl)
                      · replace hG := gO_s hG
                        have hy34 := hqf31.2 y34 rfl
                        refine W.eq (g2 := F0 m 107 ls [.ref y34, .ref o0]) rfl ?_
                        obtain ⟨v40_0, v40_1, v40_2, v40_3, v40_4, v40_5, hf40, t40_0, t40_1, t40_2⟩ := op9 I t_o0
                        refine cGoV (cRunV (As := [.ref y34]) (rest := []) C9 hml hN hNs V I hS t_o0.1 hf40 rfl (c_X12_takeTurn l D ks τ L A N hN κ hN0 ψ f31 o0 (some y34) t_o0 (tyO_s hy34) ) gC_X12_115 okC_X12_takeTurn ⟨rfl, rfl, Nat.le_of_ble_eq_true rfl, Nat.le_of_ble_eq_true rfl⟩ hl.1 rfl (Nat.le_of_ble_eq_true rfl) dX12_run_107 ⟨Nat.le_of_ble_eq_true rfl, Nat.le_of_ble_eq_true rfl⟩) hS (fun p42 f41 H locs hqf41 V I hS => ?_)
                        obtain ⟨hqf41, ghqf41⟩ := hqf41
                        replace hG := gLt_e hG (ghqf41)
                        have I : cI ks τ L ψ f41 := by rw [show p42 = ψ from hqf41] at I; exact I
                        obtain ⟨x44, ex44⟩ : ∃ y : Int32, y = w36_5 + (1) := ⟨_, rfl⟩
                        replace hG := gLt_e hG ex44
                        refine lv_iinc (v := x44) (lv' := [(5, .int x44), (7, .int x12), (6, .int r10), (0, .ref o0), (1, .int i1), (3, .int i3), (4, .int w36_4)]) hx hb dX12_run_110 hl (k := 6) rfl (by rw [ex44]; rfl) (by decide) rfl (fun ls hl => ?_)
                        refine lv_goto (tgt := 36) hx hb dX12_run_113 (by decide) ?_
                        exact ih36 w36_4 x44  f41 _ _ _ I (ca_up ex44 hi36.1 (ci_lt c6)) (cmsd hm36 (ca_dec ex44 hi36.1 (ci_lt c6)).1 (ca_dec ex44 hi36.1 (ci_lt c6)).2) hG V hS (lv_sub hl [3, 4, 5, 6, 0] rfl)
                  · replace hG := gIf_p hG c13
                    refine lv_iload hx hb dX12_run_64 (lv_at hl 5 rfl) ?_
                    refine lv_ldc hx hb hown (hts _ tCc_X12_124) dX12_run_66 ?_
                    refine lv_imul hx hb dX12_run_68 ?_
                    refine lv_sipush (v := 12345) hx hb dX12_run_69 (by decide) ?_
                    refine lv_iadd hx hb dX12_run_72 ?_
                    refine lv_topi (fun x45 ex45 => ?_)
                    replace hG := gLt_e hG ex45
                    refine lv_istore (lv' := [(4, .int x45), (7, .int x12), (6, .int r10), (0, .ref o0), (1, .int i1), (3, .int i3), (5, .int w36_5)]) hx hb dX12_run_73 hl (by decide) rfl (fun ls hl => ?_)
                    refine lv_iload hx hb dX12_run_75 (lv_at hl 0 rfl) ?_
                    refine lv_bipush (v := 8) hx hb dX12_run_77 (by decide) ?_
                    refine lv_iushr hx hb dX12_run_79 rfl ?_
                    refine lv_topi (fun x46 ex46 => ?_)
                    replace hG := gLt_e hG ex46
                    refine lv_iload hx hb dX12_run_80 (lv_at hl 2 rfl) ?_
                    refine lv_irem hx hb dX12_run_82 (ru_n c11) ?_
                    refine lv_topi (fun x47 ex47 => ?_)
                    replace hG := gLt_e hG ex47
                    refine lv_istore (lv' := [(7, .int x47), (4, .int x45), (6, .int r10), (0, .ref o0), (1, .int i1), (3, .int i3), (5, .int w36_5)]) hx hb dX12_run_83 hl (by decide) rfl (fun ls hl => ?_)
                    refine lv_aload_n hx hb dX12_run_85 rfl (lv_at hl 3 rfl) ?_
                    refine lv_aload_n hx hb dX12_run_86 rfl (lv_at hl 3 rfl) ?_
                    refine lv_iload_n hx hb dX12_run_87 rfl (lv_at hl 4 rfl) ?_
                    refine lv_iconst (v := 2) hx hb dX12_run_88 (by decide) ?_
                    refine lv_icmp_ne (tgt := 101) hx hb dX12_run_89 (by decide) (fun c48 => ?_) (fun c48 => ?_)
                    · replace hG := gIf_n hG c48
                      refine lv_iconst (v := 0) hx hb dX12_run_101 (by decide) ?_
                      refine lv_iload hx hb dX12_run_102 (lv_at hl 0 rfl) ?_
                      obtain ⟨v49_0, v49_1, v49_2, v49_3, v49_4, v49_5, hf49, t49_0, t49_1, t49_2⟩ := op9 I t_o0
                      refine cGoQ (cRunV (As := [.int 0, .int x47]) (rest := [.ref o0]) C9 hml hN hNs V I hS t_o0.1 hf49 rfl (c_X12_readyFrom l D ks τ L A N hN  ψ f8 o0 0 x47 t_o0 ) gC_X12_125 okC_X12_readyFrom ⟨rfl, rfl, Nat.le_of_ble_eq_true rfl, Nat.le_of_ble_eq_true rfl⟩ hl.1 rfl (Nat.le_of_ble_eq_true rfl) dX12_run_104 ⟨Nat.le_of_ble_eq_true rfl, Nat.le_of_ble_eq_true rfl⟩) hS (fun r52 p51 f50 H locs hqf50 V I hS => ?_)
                      obtain ⟨hqf50, ghqf50⟩ := hqf50
                      replace hG := gC_e hG ghqf50
                      have I : cI ks τ L ψ f50 := by rw [show p51 = ψ from hqf50.1] at I; exact I
                      replace hG := gO_e hG (rfl)
                      rcases r52 with _ | y53
                      · replace hG := gO_n hG
                        refine W.eq (g2 := F0 m 107 ls [.null, .ref o0]) rfl ?_
                        obtain ⟨v54_0, v54_1, v54_2, v54_3, v54_4, v54_5, hf54, t54_0, t54_1, t54_2⟩ := op9 I t_o0
                        refine cGoV (cRunV (As := [.null]) (rest := []) C9 hml hN hNs V I hS t_o0.1 hf54 rfl (c_X12_takeTurn l D ks τ L A N hN κ hN0 ψ f50 o0 none t_o0 tyO_n ) gC_X12_115 okC_X12_takeTurn ⟨rfl, rfl, Nat.le_of_ble_eq_true rfl, Nat.le_of_ble_eq_true rfl⟩ hl.1 rfl (Nat.le_of_ble_eq_true rfl) dX12_run_107 ⟨Nat.le_of_ble_eq_true rfl, Nat.le_of_ble_eq_true rfl⟩) hS (fun p56 f55 H locs hqf55 V I hS => ?_)
                        obtain ⟨hqf55, ghqf55⟩ := hqf55
                        replace hG := gLt_e hG (ghqf55)
                        have I : cI ks τ L ψ f55 := by rw [show p56 = ψ from hqf55] at I; exact I
                        obtain ⟨x58, ex58⟩ : ∃ y : Int32, y = w36_5 + (1) := ⟨_, rfl⟩
                        replace hG := gLt_e hG ex58
                        refine lv_iinc (v := x58) (lv' := [(5, .int x58), (7, .int x47), (4, .int x45), (6, .int r10), (0, .ref o0), (1, .int i1), (3, .int i3)]) hx hb dX12_run_110 hl (k := 6) rfl (by rw [ex58]; rfl) (by decide) rfl (fun ls hl => ?_)
                        refine lv_goto (tgt := 36) hx hb dX12_run_113 (by decide) ?_
                        exact ih36 x45 x58  f55 _ _ _ I (ca_up ex58 hi36.1 (ci_lt c6)) (cmsd hm36 (ca_dec ex58 hi36.1 (ci_lt c6)).1 (ca_dec ex58 hi36.1 (ci_lt c6)).2) hG V hS (lv_sub hl [4, 5, 6, 2, 0] rfl)
                      · replace hG := gO_s hG
                        have hy53 := hqf50.2 y53 rfl
                        refine W.eq (g2 := F0 m 107 ls [.ref y53, .ref o0]) rfl ?_
                        obtain ⟨v59_0, v59_1, v59_2, v59_3, v59_4, v59_5, hf59, t59_0, t59_1, t59_2⟩ := op9 I t_o0
                        refine cGoV (cRunV (As := [.ref y53]) (rest := []) C9 hml hN hNs V I hS t_o0.1 hf59 rfl (c_X12_takeTurn l D ks τ L A N hN κ hN0 ψ f50 o0 (some y53) t_o0 (tyO_s hy53) ) gC_X12_115 okC_X12_takeTurn ⟨rfl, rfl, Nat.le_of_ble_eq_true rfl, Nat.le_of_ble_eq_true rfl⟩ hl.1 rfl (Nat.le_of_ble_eq_true rfl) dX12_run_107 ⟨Nat.le_of_ble_eq_true rfl, Nat.le_of_ble_eq_true rfl⟩) hS (fun p61 f60 H locs hqf60 V I hS => ?_)
                        obtain ⟨hqf60, ghqf60⟩ := hqf60
                        replace hG := gLt_e hG (ghqf60)
                        have I : cI ks τ L ψ f60 := by rw [show p61 = ψ from hqf60] at I; exact I
                        obtain ⟨x63, ex63⟩ : ∃ y : Int32, y = w36_5 + (1) := ⟨_, rfl⟩
                        replace hG := gLt_e hG ex63
                        refine lv_iinc (v := x63) (lv' := [(5, .int x63), (7, .int x47), (4, .int x45), (6, .int r10), (0, .ref o0), (1, .int i1), (3, .int i3)]) hx hb dX12_run_110 hl (k := 6) rfl (by rw [ex63]; rfl) (by decide) rfl (fun ls hl => ?_)
                        refine lv_goto (tgt := 36) hx hb dX12_run_113 (by decide) ?_
                        exact ih36 x45 x63  f60 _ _ _ I (ca_up ex63 hi36.1 (ci_lt c6)) (cmsd hm36 (ca_dec ex63 hi36.1 (ci_lt c6)).1 (ca_dec ex63 hi36.1 (ci_lt c6)).2) hG V hS (lv_sub hl [4, 5, 6, 2, 0] rfl)
                    · replace hG := gIf_p hG c48
                      refine lv_aload_n hx hb dX12_run_92 rfl (lv_at hl 3 rfl) ?_
                      obtain ⟨v64_0, v64_1, v64_2, v64_3, v64_4, v64_5, hf64, t64_0, t64_1, t64_2⟩ := op9 I t_o0
                      refine cG C9 V t_o0.1 hf64 rfl tC_lay9 5 (by decide) tCf_X12_28 (Or.inl rfl) rfl dX12_run_93 ?_
                      replace hG := gLt_e hG (view_gI hf64 rfl)
                      refine lv_iconst (v := 1) hx hb dX12_run_96 (by decide) ?_
                      refine lv_iadd hx hb dX12_run_97 ?_
                      refine lv_goto (tgt := 102) hx hb dX12_run_98 (by decide) ?_
                      refine lv_iload hx hb dX12_run_102 (lv_at hl 0 rfl) ?_
                      refine cGoQ (cRunV (As := [.int (v64_5 + 1), .int x47]) (rest := [.ref o0]) C9 hml hN hNs V I hS t_o0.1 hf64 rfl (c_X12_readyFrom l D ks τ L A N hN  ψ f8 o0 (v64_5 + 1) x47 t_o0 ) gC_X12_125 okC_X12_readyFrom ⟨rfl, rfl, Nat.le_of_ble_eq_true rfl, Nat.le_of_ble_eq_true rfl⟩ hl.1 rfl (Nat.le_of_ble_eq_true rfl) dX12_run_104 ⟨Nat.le_of_ble_eq_true rfl, Nat.le_of_ble_eq_true rfl⟩) hS (fun r67 p66 f65 H locs hqf65 V I hS => ?_)
                      obtain ⟨hqf65, ghqf65⟩ := hqf65
                      replace hG := gC_e hG ghqf65
                      have I : cI ks τ L ψ f65 := by rw [show p66 = ψ from hqf65.1] at I; exact I
                      replace hG := gO_e hG (rfl)
                      rcases r67 with _ | y68
                      · replace hG := gO_n hG
                        refine W.eq (g2 := F0 m 107 ls [.null, .ref o0]) rfl ?_
                        obtain ⟨v69_0, v69_1, v69_2, v69_3, v69_4, v69_5, hf69, t69_0, t69_1, t69_2⟩ := op9 I t_o0
                        refine cGoV (cRunV (As := [.null]) (rest := []) C9 hml hN hNs V I hS t_o0.1 hf69 rfl (c_X12_takeTurn l D ks τ L A N hN κ hN0 ψ f65 o0 none t_o0 tyO_n ) gC_X12_115 okC_X12_takeTurn ⟨rfl, rfl, Nat.le_of_ble_eq_true rfl, Nat.le_of_ble_eq_true rfl⟩ hl.1 rfl (Nat.le_of_ble_eq_true rfl) dX12_run_107 ⟨Nat.le_of_ble_eq_true rfl, Nat.le_of_ble_eq_true rfl⟩) hS (fun p71 f70 H locs hqf70 V I hS => ?_)
                        obtain ⟨hqf70, ghqf70⟩ := hqf70
                        replace hG := gLt_e hG (ghqf70)
                        have I : cI ks τ L ψ f70 := by rw [show p71 = ψ from hqf70] at I; exact I
                        obtain ⟨x73, ex73⟩ : ∃ y : Int32, y = w36_5 + (1) := ⟨_, rfl⟩
                        replace hG := gLt_e hG ex73
                        refine lv_iinc (v := x73) (lv' := [(5, .int x73), (7, .int x47), (4, .int x45), (6, .int r10), (0, .ref o0), (1, .int i1), (3, .int i3)]) hx hb dX12_run_110 hl (k := 6) rfl (by rw [ex73]; rfl) (by decide) rfl (fun ls hl => ?_)
                        refine lv_goto (tgt := 36) hx hb dX12_run_113 (by decide) ?_
                        exact ih36 x45 x73  f70 _ _ _ I (ca_up ex73 hi36.1 (ci_lt c6)) (cmsd hm36 (ca_dec ex73 hi36.1 (ci_lt c6)).1 (ca_dec ex73 hi36.1 (ci_lt c6)).2) hG V hS (lv_sub hl [4, 5, 6, 2, 0] rfl)
                      · replace hG := gO_s hG
                        have hy68 := hqf65.2 y68 rfl
                        refine W.eq (g2 := F0 m 107 ls [.ref y68, .ref o0]) rfl ?_
                        obtain ⟨v74_0, v74_1, v74_2, v74_3, v74_4, v74_5, hf74, t74_0, t74_1, t74_2⟩ := op9 I t_o0
                        refine cGoV (cRunV (As := [.ref y68]) (rest := []) C9 hml hN hNs V I hS t_o0.1 hf74 rfl (c_X12_takeTurn l D ks τ L A N hN κ hN0 ψ f65 o0 (some y68) t_o0 (tyO_s hy68) ) gC_X12_115 okC_X12_takeTurn ⟨rfl, rfl, Nat.le_of_ble_eq_true rfl, Nat.le_of_ble_eq_true rfl⟩ hl.1 rfl (Nat.le_of_ble_eq_true rfl) dX12_run_107 ⟨Nat.le_of_ble_eq_true rfl, Nat.le_of_ble_eq_true rfl⟩) hS (fun p76 f75 H locs hqf75 V I hS => ?_)
                        obtain ⟨hqf75, ghqf75⟩ := hqf75
                        replace hG := gLt_e hG (ghqf75)
                        have I : cI ks τ L ψ f75 := by rw [show p76 = ψ from hqf75] at I; exact I
                        obtain ⟨x78, ex78⟩ : ∃ y : Int32, y = w36_5 + (1) := ⟨_, rfl⟩
                        replace hG := gLt_e hG ex78
                        refine lv_iinc (v := x78) (lv' := [(5, .int x78), (7, .int x47), (4, .int x45), (6, .int r10), (0, .ref o0), (1, .int i1), (3, .int i3)]) hx hb dX12_run_110 hl (k := 6) rfl (by rw [ex78]; rfl) (by decide) rfl (fun ls hl => ?_)
                        refine lv_goto (tgt := 36) hx hb dX12_run_113 (by decide) ?_
                        exact ih36 x45 x78  f75 _ _ _ I (ca_up ex78 hi36.1 (ci_lt c6)) (cmsd hm36 (ca_dec ex78 hi36.1 (ci_lt c6)).1 (ca_dec ex78 hi36.1 (ci_lt c6)).2) hG V hS (lv_sub hl [4, 5, 6, 2, 0] rfl)
                · replace hG := gIf_n hG c11
                  refine lv_iload hx hb dX12_run_54 (lv_at hl 5 rfl) ?_
                  exact cRx (Nat.le_of_ble_eq_true rfl) (Nat.le_of_ble_eq_true rfl) (cRetI C9 hr hlk hN hNs V I hS (⟨rfl, hG.symm⟩) dX12_run_56)
          exact loop36 ((i3 - x5).toInt.toNat + 1) i2 x5  f _ _ _ I (by clear hG V hS hl C9 hts hown hx hb hml hr hlk h0 hN0 hET hlt; first | exact ru_0 ex5 (ci_le c3)) (Nat.lt_succ_self _) hG V hS (lv_sub hl [2, 3, 5, 1, 0] rfl)
        · replace hG := gIf_n hG c4
          exact cThr (text := "how or n is out of range") (names := xNm) C9 h0 V I hS hlt hET hlk hml hl.1 (xw_48_52 hts h0) (by simp [nMs]) (by simp) (⟨rfl, ⟨rfl, hG.symm⟩⟩) ⟨Nat.le_of_ble_eq_true rfl, Nat.le_of_ble_eq_true rfl, Nat.le_of_ble_eq_true rfl, Nat.le_of_ble_eq_true rfl⟩ ⟨Nat.le_of_ble_eq_true rfl, Nat.le_of_ble_eq_true rfl⟩ dX12_run_20 dX12_run_23 dX12_run_24 dX12_run_26 dX12_run_29
def FC_X12_feed (X : xS) (o0 : Nat) (i1 : Int32) (i2 : Int32) (i3 : Int32) (i4 : Int32) (i5 : Int32) : Int32 × Int32 × xS := gLt ((xR X o0 0).getD 0 : Nat) (fun v1_0 => gLt (xI X v1_0 2 : Int32) (fun ψ => if ((ψ + 20) : Int32) ≤ 1600 then (gLt (FC_X10_append X v1_0 i1 : xS) (fun Xf4 => gLt ((xR Xf4 o0 0).getD 0 : Nat) (fun v7_0 => gLt (FC_X10_append Xf4 v7_0 i2 : xS) (fun Xf9 => gLt ((xR Xf9 o0 0).getD 0 : Nat) (fun v12_0 => gLt (FC_X10_append Xf9 v12_0 i3 : xS) (fun Xf14 => gLt ((xR Xf14 o0 0).getD 0 : Nat) (fun v17_0 => gLt (FC_X10_append Xf14 v17_0 i4 : xS) (fun Xf19 => gLt ((xR Xf19 o0 0).getD 0 : Nat) (fun v22_0 => gLt (FC_X10_append Xf19 v22_0 i5 : xS) (fun Xf24 => gLt ((xR Xf24 o0 0).getD 0 : Nat) (fun v27_0 => gLt (xI Xf24 v27_0 2 : Int32) (fun p25 => ((0 : Int32), (p25 : Int32), Xf24))))))))))))) else (((1 : Int32), (0 : Int32), X))))
set_option maxHeartbeats 200000 in
set_option maxRecDepth 100000 in
theorem c_X12_feed (l : Launch) (D : va_G) (ks : kS) (τ : Nat → Nat) (L : List Nat) (A : Nat → Prop) (N : State → Prop) (hN : cNk A N) (κ : kC) (hN0 : ∀ U, N U → N0 κ A U) (hlt : l.stackTraces = false) (ψ : Int32) (f : Nat → va_E) (o0 : Nat) (i1 : Int32) (i2 : Int32) (i3 : Int32) (i4 : Int32) (i5 : Int32) (t_o0 : ty τ L o0 9) (hu : ∀ a b, ty τ L a 8 → ty τ L b 8 → a = b) : vx_Met l yX12_feed (Cond.code yX12_feed cX12_feed 6 (some .int) :: tC) ({ frames := 6, cells := 1, slots := 6, locals := 100 }) (va_Pc [.ref o0, .int i1, .int i2, .int i3, .int i4, .int i5] (cB D ks τ L A N (ψ, f))) (va_Qi (fun r9 x9 => (x9.1 = ψ + 20 ∧ r9 = ψ + 20 ∧ ψ + 20 ≤ 1600) ∧ ((0 : Int32), r9, view x9.2) = FC_X12_feed (view f) o0 i1 i2 i3 i4 i5) (cB D ks τ L A N) A) (cX D ks τ L A ["java/lang/IndexOutOfBoundsException"] (fun e9 x9 => (x9.1 = ψ ∧ ¬ ψ + 20 ≤ 1600) ∧ ((e9 = "java/lang/IndexOutOfBoundsException" ∧ ((1 : Int32), (0 : Int32), view x9.2) = FC_X12_feed (view f) o0 i1 i2 i3 i4 i5)))) 1 6 A := by
  refine cMetX (own := RX12) (by decide) rfl (Nat.le_of_ble_eq_true rfl) ?_
  intro p e s m below meth c ls C9 hml hr hlk hET V I hNs hl
  have hx := C9.1
  have hb := C9.2.1
  have hown := C9.2.2.1
  have hts := C9.2.2.2.1
  have h0 := hN0 s hNs
  have hS : va_S A s.heap s.heap [] := va_S.rf
  have hG := FC_X12_feed.eq_1 (view f) o0 i1 i2 i3 i4 i5
  have hl : lv_has ls 6 [(0, .ref o0), (1, .int i1), (2, .int i2), (3, .int i3), (4, .int i4), (5, .int i5)] := hl
  refine lv_aload_n hx hb dX12_feed_0 rfl (lv_at hl 0 rfl) ?_
  obtain ⟨v1_0, v1_1, v1_2, v1_3, v1_4, v1_5, hf1, t1_0, t1_1, t1_2⟩ := op9 I t_o0
  refine cG C9 V t_o0.1 hf1 rfl tC_lay9 0 (by decide) tCf_X12_10 (Or.inl rfl) rfl dX12_feed_1 ?_
  replace hG := gLt_e hG (view_gR hf1 rfl)
  obtain ⟨v2_0, v2_1, v2_3, v2_4, v2_5, hf2, t2_0, t2_4, hp2, h02, h12⟩ := op8 I t1_0
  refine cG C9 V t1_0.1 hf2 rfl tC_lay8 2 (by decide) tCf_X12_35 (Or.inl rfl) rfl dX12_feed_4 ?_
  replace hG := gLt_e hG (view_gI hf2 rfl)
  refine lv_bipush (v := 20) hx hb dX12_feed_7 (by decide) ?_
  refine lv_iadd hx hb dX12_feed_9 ?_
  refine lv_sipush (v := 1600) hx hb dX12_feed_10 (by decide) ?_
  refine lv_icmp_le (tgt := 26) hx hb dX12_feed_13 (by decide) (fun c3 => ?_) (fun c3 => ?_)
  · replace hG := gIf_p hG c3
    have hz := fd_0 hp2 c3
    refine lv_aload_n hx hb dX12_feed_26 rfl (lv_at hl 0 rfl) ?_
    refine cG C9 V t_o0.1 hf1 rfl tC_lay9 0 (by decide) tCf_X12_10 (Or.inl rfl) rfl dX12_feed_27 ?_
    refine lv_iload_n hx hb dX12_feed_30 rfl (lv_at hl 1 rfl) ?_
    refine cGoV (cRunV (As := [.int i1]) (rest := []) C9 hml hN hNs V I hS t1_0.1 hf2 rfl (c_X10_append l D ks τ L A N hN  ψ f v1_0 i1 t1_0 ((fun b hb ht => hu b _ ⟨hb, ht⟩ t1_0)) (⟨hz.1, Int32.le_trans hz.2 (by clear hG V hS hl C9 hts hown hx hb hml hr hlk h0 hN0 hET hlt; decide)⟩)) gC_X12_45 okC_X10_append ⟨rfl, rfl, Nat.le_of_ble_eq_true rfl, Nat.le_of_ble_eq_true rfl⟩ hl.1 rfl (Nat.le_of_ble_eq_true rfl) dX12_feed_31 ⟨Nat.le_of_ble_eq_true rfl, Nat.le_of_ble_eq_true rfl⟩) hS (fun p5 f4 H locs hqf4 V I hS => ?_)
    obtain ⟨hqf4, ghqf4⟩ := hqf4
    replace hG := gLt_e hG (ghqf4)
    refine lv_aload_n hx hb dX12_feed_34 rfl (lv_at hl 0 rfl) ?_
    obtain ⟨v7_0, v7_1, v7_2, v7_3, v7_4, v7_5, hf7, t7_0, t7_1, t7_2⟩ := op9 I t_o0
    refine cG C9 V t_o0.1 hf7 rfl tC_lay9 0 (by decide) tCf_X12_10 (Or.inl rfl) rfl dX12_feed_35 ?_
    replace hG := gLt_e hG (view_gR hf7 rfl)
    refine lv_iload_n hx hb dX12_feed_38 rfl (lv_at hl 2 rfl) ?_
    obtain ⟨v8_0, v8_1, v8_3, v8_4, v8_5, hf8, t8_0, t8_4, hp8, h08, h18⟩ := op8 I t7_0
    refine cGoV (cRunV (As := [.int i2]) (rest := []) C9 hml hN hNs V I hS t7_0.1 hf8 rfl (c_X10_append l D ks τ L A N hN  p5 f4 v7_0 i2 t7_0 ((fun b hb ht => hu b _ ⟨hb, ht⟩ t7_0)) (⟨(fd_1 hqf4 hz).1, Int32.le_trans (fd_1 hqf4 hz).2 (by clear hG V hS hl C9 hts hown hx hb hml hr hlk h0 hN0 hET hlt; decide)⟩)) gC_X12_45 okC_X10_append ⟨rfl, rfl, Nat.le_of_ble_eq_true rfl, Nat.le_of_ble_eq_true rfl⟩ hl.1 rfl (Nat.le_of_ble_eq_true rfl) dX12_feed_39 ⟨Nat.le_of_ble_eq_true rfl, Nat.le_of_ble_eq_true rfl⟩) hS (fun p10 f9 H locs hqf9 V I hS => ?_)
    obtain ⟨hqf9, ghqf9⟩ := hqf9
    replace hG := gLt_e hG (ghqf9)
    refine lv_aload_n hx hb dX12_feed_42 rfl (lv_at hl 0 rfl) ?_
    obtain ⟨v12_0, v12_1, v12_2, v12_3, v12_4, v12_5, hf12, t12_0, t12_1, t12_2⟩ := op9 I t_o0
    refine cG C9 V t_o0.1 hf12 rfl tC_lay9 0 (by decide) tCf_X12_10 (Or.inl rfl) rfl dX12_feed_43 ?_
    replace hG := gLt_e hG (view_gR hf12 rfl)
    refine lv_iload_n hx hb dX12_feed_46 rfl (lv_at hl 3 rfl) ?_
    obtain ⟨v13_0, v13_1, v13_3, v13_4, v13_5, hf13, t13_0, t13_4, hp13, h013, h113⟩ := op8 I t12_0
    refine cGoV (cRunV (As := [.int i3]) (rest := []) C9 hml hN hNs V I hS t12_0.1 hf13 rfl (c_X10_append l D ks τ L A N hN  p10 f9 v12_0 i3 t12_0 ((fun b hb ht => hu b _ ⟨hb, ht⟩ t12_0)) (⟨(fd_2 hqf9 (fd_1 hqf4 hz)).1, Int32.le_trans (fd_2 hqf9 (fd_1 hqf4 hz)).2 (by clear hG V hS hl C9 hts hown hx hb hml hr hlk h0 hN0 hET hlt; decide)⟩)) gC_X12_45 okC_X10_append ⟨rfl, rfl, Nat.le_of_ble_eq_true rfl, Nat.le_of_ble_eq_true rfl⟩ hl.1 rfl (Nat.le_of_ble_eq_true rfl) dX12_feed_47 ⟨Nat.le_of_ble_eq_true rfl, Nat.le_of_ble_eq_true rfl⟩) hS (fun p15 f14 H locs hqf14 V I hS => ?_)
    obtain ⟨hqf14, ghqf14⟩ := hqf14
    replace hG := gLt_e hG (ghqf14)
    refine lv_aload_n hx hb dX12_feed_50 rfl (lv_at hl 0 rfl) ?_
    obtain ⟨v17_0, v17_1, v17_2, v17_3, v17_4, v17_5, hf17, t17_0, t17_1, t17_2⟩ := op9 I t_o0
    refine cG C9 V t_o0.1 hf17 rfl tC_lay9 0 (by decide) tCf_X12_10 (Or.inl rfl) rfl dX12_feed_51 ?_
    replace hG := gLt_e hG (view_gR hf17 rfl)
    refine lv_iload hx hb dX12_feed_54 (lv_at hl 4 rfl) ?_
    obtain ⟨v18_0, v18_1, v18_3, v18_4, v18_5, hf18, t18_0, t18_4, hp18, h018, h118⟩ := op8 I t17_0
    refine cGoV (cRunV (As := [.int i4]) (rest := []) C9 hml hN hNs V I hS t17_0.1 hf18 rfl (c_X10_append l D ks τ L A N hN  p15 f14 v17_0 i4 t17_0 ((fun b hb ht => hu b _ ⟨hb, ht⟩ t17_0)) (⟨(fd_3 hqf14 (fd_2 hqf9 (fd_1 hqf4 hz))).1, Int32.le_trans (fd_3 hqf14 (fd_2 hqf9 (fd_1 hqf4 hz))).2 (by clear hG V hS hl C9 hts hown hx hb hml hr hlk h0 hN0 hET hlt; decide)⟩)) gC_X12_45 okC_X10_append ⟨rfl, rfl, Nat.le_of_ble_eq_true rfl, Nat.le_of_ble_eq_true rfl⟩ hl.1 rfl (Nat.le_of_ble_eq_true rfl) dX12_feed_56 ⟨Nat.le_of_ble_eq_true rfl, Nat.le_of_ble_eq_true rfl⟩) hS (fun p20 f19 H locs hqf19 V I hS => ?_)
    obtain ⟨hqf19, ghqf19⟩ := hqf19
    replace hG := gLt_e hG (ghqf19)
    refine lv_aload_n hx hb dX12_feed_59 rfl (lv_at hl 0 rfl) ?_
    obtain ⟨v22_0, v22_1, v22_2, v22_3, v22_4, v22_5, hf22, t22_0, t22_1, t22_2⟩ := op9 I t_o0
    refine cG C9 V t_o0.1 hf22 rfl tC_lay9 0 (by decide) tCf_X12_10 (Or.inl rfl) rfl dX12_feed_60 ?_
    replace hG := gLt_e hG (view_gR hf22 rfl)
    refine lv_iload hx hb dX12_feed_63 (lv_at hl 5 rfl) ?_
    obtain ⟨v23_0, v23_1, v23_3, v23_4, v23_5, hf23, t23_0, t23_4, hp23, h023, h123⟩ := op8 I t22_0
    refine cGoV (cRunV (As := [.int i5]) (rest := []) C9 hml hN hNs V I hS t22_0.1 hf23 rfl (c_X10_append l D ks τ L A N hN  p20 f19 v22_0 i5 t22_0 ((fun b hb ht => hu b _ ⟨hb, ht⟩ t22_0)) (fd_4 hqf19 (fd_3 hqf14 (fd_2 hqf9 (fd_1 hqf4 hz))))) gC_X12_45 okC_X10_append ⟨rfl, rfl, Nat.le_of_ble_eq_true rfl, Nat.le_of_ble_eq_true rfl⟩ hl.1 rfl (Nat.le_of_ble_eq_true rfl) dX12_feed_65 ⟨Nat.le_of_ble_eq_true rfl, Nat.le_of_ble_eq_true rfl⟩) hS (fun p25 f24 H locs hqf24 V I hS => ?_)
    obtain ⟨hqf24, ghqf24⟩ := hqf24
    replace hG := gLt_e hG (ghqf24)
    refine lv_aload_n hx hb dX12_feed_68 rfl (lv_at hl 0 rfl) ?_
    obtain ⟨v27_0, v27_1, v27_2, v27_3, v27_4, v27_5, hf27, t27_0, t27_1, t27_2⟩ := op9 I t_o0
    refine cG C9 V t_o0.1 hf27 rfl tC_lay9 0 (by decide) tCf_X12_10 (Or.inl rfl) rfl dX12_feed_69 ?_
    replace hG := gLt_e hG (view_gR hf27 rfl)
    obtain ⟨v28_0, v28_1, v28_3, v28_4, v28_5, hf28, t28_0, t28_4, hp28, h028, h128⟩ := op8 I t27_0
    refine cG C9 V t27_0.1 hf28 rfl tC_lay8 2 (by decide) tCf_X12_35 (Or.inl rfl) rfl dX12_feed_72 ?_
    replace hG := gLt_e hG (view_gI hf28 rfl)
    exact cRx (Nat.le_of_ble_eq_true rfl) (Nat.le_of_ble_eq_true rfl) (cRetI C9 hr hlk hN hNs V I hS (⟨fd_e hqf4 hqf9 hqf14 hqf19 hqf24 c3, hG.symm⟩) dX12_feed_75)
  · replace hG := gIf_n hG c3
    exact cThr (text := "THE TAPE has no room") (names := xNm) C9 h0 V I hS hlt hET hlk hml hl.1 (xw_38_42 hts h0) (by simp [nMs]) (by simp) (⟨⟨rfl, c3⟩, ⟨rfl, hG.symm⟩⟩) ⟨Nat.le_of_ble_eq_true rfl, Nat.le_of_ble_eq_true rfl, Nat.le_of_ble_eq_true rfl, Nat.le_of_ble_eq_true rfl⟩ ⟨Nat.le_of_ble_eq_true rfl, Nat.le_of_ble_eq_true rfl⟩ dX12_feed_16 dX12_feed_19 dX12_feed_20 dX12_feed_22 dX12_feed_25
def FC_X12_end (X : xS) (o0 : Nat) (i1 : Int32) : Int32 × Int32 × xS := if (i1 : Int32) < 0 then (((1 : Int32), (0 : Int32), X)) else (gLt ((xR X o0 0).getD 0 : Nat) (fun v2_0 => gLt (xI X v2_0 2 : Int32) (fun ψ => if (i1 : Int32) ≤ ψ then (gLt (xwI X v2_0 2 i1 : xS) (fun Xf5 => ((0 : Int32), (i1 : Int32), Xf5))) else (((1 : Int32), (0 : Int32), X)))))
set_option maxHeartbeats 200000 in
set_option maxRecDepth 100000 in
theorem c_X12_end (l : Launch) (D : va_G) (ks : kS) (τ : Nat → Nat) (L : List Nat) (A : Nat → Prop) (N : State → Prop) (hN : cNk A N) (κ : kC) (hN0 : ∀ U, N U → N0 κ A U) (hlt : l.stackTraces = false) (ψ : Int32) (f : Nat → va_E) (o0 : Nat) (i1 : Int32) (t_o0 : ty τ L o0 9) (hu : ∀ a b, ty τ L a 8 → ty τ L b 8 → a = b) : vx_Met l yX12_end (Cond.code yX12_end cX12_end 2 (some .int) :: tC) ({ frames := 6, cells := 1, slots := 6, locals := 100 }) (va_Pc [.ref o0, .int i1] (cB D ks τ L A N (ψ, f))) (va_Qi (fun r9 x9 => (x9.1 = i1 ∧ r9 = i1 ∧ 0 ≤ i1 ∧ i1 ≤ ψ) ∧ ((0 : Int32), r9, view x9.2) = FC_X12_end (view f) o0 i1) (cB D ks τ L A N) A) (cX D ks τ L A ["java/lang/IllegalArgumentException"] (fun e9 x9 => (x9.1 = ψ ∧ ¬ (0 ≤ i1 ∧ i1 ≤ ψ)) ∧ ((e9 = "java/lang/IllegalArgumentException" ∧ ((1 : Int32), (0 : Int32), view x9.2) = FC_X12_end (view f) o0 i1)))) 1 6 A := by
  refine cMetX (own := RX12) (by decide) rfl (Nat.le_of_ble_eq_true rfl) ?_
  intro p e s m below meth c ls C9 hml hr hlk hET V I hNs hl
  have hx := C9.1
  have hb := C9.2.1
  have hown := C9.2.2.1
  have hts := C9.2.2.2.1
  have h0 := hN0 s hNs
  have hS : va_S A s.heap s.heap [] := va_S.rf
  have hG := FC_X12_end.eq_1 (view f) o0 i1
  have hl : lv_has ls 2 [(0, .ref o0), (1, .int i1)] := hl
  refine lv_iload_n hx hb dX12_end_0 rfl (lv_at hl 1 rfl) ?_
  refine lv_if_lt (tgt := 15) hx hb dX12_end_1 (by decide) (fun c1 => ?_) (fun c1 => ?_)
  · replace hG := gIf_p hG c1
    exact cThr (text := "n is out of range") (names := xNm) C9 h0 V I hS hlt hET hlk hml hl.1 (xw_48_52 hts h0) (by simp [nMs]) (by simp) (⟨⟨rfl, by first | exact en_a c1 | exact en_b nope9⟩, ⟨rfl, hG.symm⟩⟩) ⟨Nat.le_of_ble_eq_true rfl, Nat.le_of_ble_eq_true rfl, Nat.le_of_ble_eq_true rfl, Nat.le_of_ble_eq_true rfl⟩ ⟨Nat.le_of_ble_eq_true rfl, Nat.le_of_ble_eq_true rfl⟩ dX12_end_15 dX12_end_18 dX12_end_19 dX12_end_21 dX12_end_24
  · replace hG := gIf_n hG c1
    refine lv_iload_n hx hb dX12_end_4 rfl (lv_at hl 1 rfl) ?_
    refine lv_aload_n hx hb dX12_end_5 rfl (lv_at hl 0 rfl) ?_
    obtain ⟨v2_0, v2_1, v2_2, v2_3, v2_4, v2_5, hf2, t2_0, t2_1, t2_2⟩ := op9 I t_o0
    refine cG C9 V t_o0.1 hf2 rfl tC_lay9 0 (by decide) tCf_X12_10 (Or.inl rfl) rfl dX12_end_6 ?_
    replace hG := gLt_e hG (view_gR hf2 rfl)
    obtain ⟨v3_0, v3_1, v3_3, v3_4, v3_5, hf3, t3_0, t3_4, hp3, h03, h13⟩ := op8 I t2_0
    refine cG C9 V t2_0.1 hf3 rfl tC_lay8 2 (by decide) tCf_X12_35 (Or.inl rfl) rfl dX12_end_9 ?_
    replace hG := gLt_e hG (view_gI hf3 rfl)
    refine lv_icmp_le (tgt := 25) hx hb dX12_end_12 (by decide) (fun c4 => ?_) (fun c4 => ?_)
    · replace hG := gIf_p hG c4
      refine lv_aload_n hx hb dX12_end_25 rfl (lv_at hl 0 rfl) ?_
      refine cG C9 V t_o0.1 hf2 rfl tC_lay9 0 (by decide) tCf_X12_10 (Or.inl rfl) rfl dX12_end_26 ?_
      refine lv_iload_n hx hb dX12_end_29 rfl (lv_at hl 1 rfl) ?_
      refine cP (v := .int i1) (ty := .int) C9 V hS t2_0.1 hf3 rfl tC_lay8 tyX10 tyX10_ok nmX10 2 (by decide) tCf_X12_35 rfl rfl (by decide +kernel) rfl rfl (Nat.le_of_ble_eq_true rfl) dX12_end_30 (fun f5 H locs ef5 V hS => ?_)
      replace hG := gLt_e hG (view_I hf3 rfl ef5)
      have hf6 : f5 v2_0 = .inr (8, [.ref v3_0, .int v3_1, .int i1, .int v3_3, .ref v3_4, .int v3_5]) := up_s ef5
      have hp9 := en_l (ci_le c1) c4 hp3
      have I := cI_len I (fun b hb ht => hu b _ ⟨hb, ht⟩ t2_0) t2_0.2 ef5 (mk8 t3_0 t3_4 hp9 h03 h13)
      have hp7 := hp9
      have h07 := h03
      have h17 := h13
      have hf8 := up_n ef5 t2_0.2 t_o0.2 (by first | decide | omega) hf2
      refine lv_iload_n hx hb dX12_end_33 rfl (lv_at hl 1 rfl) ?_
      exact cRx (Nat.le_of_ble_eq_true rfl) (Nat.le_of_ble_eq_true rfl) (cRetI C9 hr hlk hN hNs V I hS (⟨⟨rfl, rfl, ci_le c1, c4⟩, hG.symm⟩) dX12_end_34)
    · replace hG := gIf_n hG c4
      exact cThr (text := "n is out of range") (names := xNm) C9 h0 V I hS hlt hET hlk hml hl.1 (xw_48_52 hts h0) (by simp [nMs]) (by simp) (⟨⟨rfl, by first | exact en_a c1 | exact en_b c4⟩, ⟨rfl, hG.symm⟩⟩) ⟨Nat.le_of_ble_eq_true rfl, Nat.le_of_ble_eq_true rfl, Nat.le_of_ble_eq_true rfl, Nat.le_of_ble_eq_true rfl⟩ ⟨Nat.le_of_ble_eq_true rfl, Nat.le_of_ble_eq_true rfl⟩ dX12_end_15 dX12_end_18 dX12_end_19 dX12_end_21 dX12_end_24
def FC_X12_thread_L32 (o0 : Nat) : Nat → Int32 → xS → Int32 × Int32 × xS
  | 0, w32_2, XGf32 => ((0 : Int32), (0 : Int32), XGf32)
  | N9_32 + 1, w32_2, XGf32 => gLt ((xR XGf32 o0 2).getD 0 : Nat) (fun v14_2 => if 8 ≤ (w32_2 : Int32) then (((1 : Int32), (0 : Int32), XGf32)) else (gLt ((xQ XGf32 v14_2 w32_2).getD 0 : Nat) (fun y17 => gC (FC_X8_isVacant XGf32 y17) (fun r21 Xf19 => if (r21 : Int32) = 0 then (gLt (w32_2 + (1) : Int32) (fun x23 => FC_X12_thread_L32 o0 N9_32 x23 Xf19)) else (gLt ((xR Xf19 o0 2).getD 0 : Nat) (fun v24_2 => gLt ((xQ Xf19 v24_2 w32_2).getD 0 : Nat) (fun y26 => gLt ((xR Xf19 o0 0).getD 0 : Nat) (fun v24_0 => gLt ((xR Xf19 v24_0 0).getD 0 : Nat) (fun v27_0 => gLt (xI Xf19 v24_0 1 : Int32) (fun v27_1 => gLt (FC_X8_start Xf19 y26 v27_0 v27_1 : xS) (fun Xf29 => ((0 : Int32), (w32_2 : Int32), Xf29))))))))))))
def FC_X12_thread (X : xS) (o0 : Nat) : Int32 × Int32 × xS := gLt ((xR X o0 0).getD 0 : Nat) (fun v1_0 => gC (FC_X10_read X v1_0) (fun r5 Xf3 => gLt ((xR Xf3 o0 0).getD 0 : Nat) (fun v6_0 => gLt (xwI Xf3 v6_0 2 0 : xS) (fun Xf8 => if (r5 : Int32) = 0 then (((2 : Int32), (0 : Int32), Xf8)) else (gLt (0 : Int32) (fun x13 => FC_X12_thread_L32 o0 ((8 - x13).toInt.toNat + 1) x13 Xf8))))))
set_option maxHeartbeats 200000 in
set_option maxRecDepth 100000 in
theorem c_X12_thread (l : Launch) (D : va_G) (ks : kS) (τ : Nat → Nat) (L : List Nat) (A : Nat → Prop) (N : State → Prop) (hN : cNk A N) (κ : kC) (hN0 : ∀ U, N U → N0 κ A U) (hlt : l.stackTraces = false) (ψ : Int32) (f : Nat → va_E) (o0 : Nat) (t_o0 : ty τ L o0 9) (hu : ∀ a b, ty τ L a 8 → ty τ L b 8 → a = b) : vx_Met l yX12_thread (Cond.code yX12_thread cX12_thread 3 (some .int) :: tC) ({ frames := 8, cells := 1, slots := 6, locals := 176 }) (va_Pc [.ref o0] (cB D ks τ L A N (ψ, f))) (va_Qi (fun r9 x9 => (x9.1 = 0) ∧ ((0 : Int32), r9, view x9.2) = FC_X12_thread (view f) o0) (cB D ks τ L A N) A) (cX D ks τ L A ["java/lang/IllegalStateException", "java/lang/UnsupportedOperationException"] (fun e9 x9 => (x9.1 = 0) ∧ ((e9 = "java/lang/IllegalStateException" ∧ ((1 : Int32), (0 : Int32), view x9.2) = FC_X12_thread (view f) o0) ∨ (e9 = "java/lang/UnsupportedOperationException" ∧ ((2 : Int32), (0 : Int32), view x9.2) = FC_X12_thread (view f) o0)))) 1 6 A := by
  refine cMetX (own := RX12) (by decide) rfl (Nat.le_of_ble_eq_true rfl) ?_
  intro p e s m below meth c ls C9 hml hr hlk hET V I hNs hl
  have hx := C9.1
  have hb := C9.2.1
  have hown := C9.2.2.1
  have hts := C9.2.2.2.1
  have h0 := hN0 s hNs
  have hS : va_S A s.heap s.heap [] := va_S.rf
  have hG := FC_X12_thread.eq_1 (view f) o0
  have hl : lv_has ls 3 [(0, .ref o0)] := hl
  refine lv_aload_n hx hb dX12_thread_0 rfl (lv_at hl 0 rfl) ?_
  obtain ⟨v1_0, v1_1, v1_2, v1_3, v1_4, v1_5, hf1, t1_0, t1_1, t1_2⟩ := op9 I t_o0
  refine cG C9 V t_o0.1 hf1 rfl tC_lay9 0 (by decide) tCf_X12_10 (Or.inl rfl) rfl dX12_thread_1 ?_
  replace hG := gLt_e hG (view_gR hf1 rfl)
  obtain ⟨v2_0, v2_1, v2_3, v2_4, v2_5, hf2, t2_0, t2_4, hp2, h02, h12⟩ := op8 I t1_0
  refine cGoI (cRunV (As := []) (rest := []) C9 hml hN hNs V I hS t1_0.1 hf2 rfl (c_X10_read l D ks τ L A N hN κ hN0 ψ f v1_0 t1_0 ) gC_X12_86 okC_X10_read ⟨rfl, rfl, Nat.le_of_ble_eq_true rfl, Nat.le_of_ble_eq_true rfl⟩ hl.1 rfl (Nat.le_of_ble_eq_true rfl) dX12_thread_4 ⟨Nat.le_of_ble_eq_true rfl, Nat.le_of_ble_eq_true rfl⟩) hS (fun r5 p4 f3 H locs hqf3 V I hS => ?_)
  obtain ⟨hqf3, ghqf3⟩ := hqf3
  replace hG := gC_e hG ghqf3
  have I : cI ks τ L ψ f3 := by rw [show p4 = ψ from hqf3] at I; exact I
  refine lv_istore_n (lv' := [(1, .int r5), (0, .ref o0)]) hx hb dX12_thread_7 rfl hl (by decide) rfl (fun ls hl => ?_)
  refine lv_aload_n hx hb dX12_thread_8 rfl (lv_at hl 1 rfl) ?_
  obtain ⟨v6_0, v6_1, v6_2, v6_3, v6_4, v6_5, hf6, t6_0, t6_1, t6_2⟩ := op9 I t_o0
  refine cG C9 V t_o0.1 hf6 rfl tC_lay9 0 (by decide) tCf_X12_10 (Or.inl rfl) rfl dX12_thread_9 ?_
  replace hG := gLt_e hG (view_gR hf6 rfl)
  refine lv_iconst (v := 0) hx hb dX12_thread_12 (by decide) ?_
  obtain ⟨v7_0, v7_1, v7_3, v7_4, v7_5, hf7, t7_0, t7_4, hp7, h07, h17⟩ := op8 I t6_0
  refine cP (v := .int 0) (ty := .int) C9 V hS t6_0.1 hf7 rfl tC_lay8 tyX10 tyX10_ok nmX10 2 (by decide) tCf_X12_35 rfl rfl (by decide +kernel) rfl rfl (Nat.le_of_ble_eq_true rfl) dX12_thread_13 (fun f8 H locs ef8 V hS => ?_)
  replace hG := gLt_e hG (view_I hf7 rfl ef8)
  have hf9 : f8 v6_0 = .inr (8, [.ref v7_0, .int v7_1, .int 0, .int v7_3, .ref v7_4, .int v7_5]) := up_s ef8
  have hp9 := (by decide : (0 : Int32) ≤ 0 ∧ (0 : Int32) ≤ 1600)
  have I := cI_len I (fun b hb ht => hu b _ ⟨hb, ht⟩ t6_0) t6_0.2 ef8 (mk8 t7_0 t7_4 hp9 h07 h17)
  have hp10 := hp9
  have h010 := h07
  have h110 := h17
  have hf11 := up_n ef8 t6_0.2 t_o0.2 (by first | decide | omega) hf6
  refine lv_iload_n hx hb dX12_thread_16 rfl (lv_at hl 0 rfl) ?_
  refine lv_if_ne (tgt := 30) hx hb dX12_thread_17 (by decide) (fun c12 => ?_) (fun c12 => ?_)
  · replace hG := gIf_n hG c12
    refine lv_iconst (v := 0) hx hb dX12_thread_30 (by decide) ?_
    refine lv_topi (fun x13 ex13 => ?_)
    replace hG := gLt_e hG ex13
    refine lv_istore_n (lv' := [(2, .int x13), (1, .int r5), (0, .ref o0)]) hx hb dX12_thread_31 rfl hl (by decide) rfl (fun ls hl => ?_)
    have loop32 : ∀ (N9_32 : Nat) (w32_2 : Int32)  (Gf32 : Nat → va_E) (H : Heap) (locs : List Loc) (ls : Array Slot), cI ks τ L 0 Gf32 → (0 ≤ w32_2 ∧ w32_2 ≤ 8) → ((8 - w32_2).toInt.toNat) < N9_32 → (FC_X12_thread (view f) o0 = FC_X12_thread_L32 o0 N9_32 w32_2 (view Gf32)) → cV D L Gf32 A H → va_S A s.heap H locs → lv_has ls 3 [(0, .ref o0), (1, .int r5), (2, .int w32_2)] → W p l e ({ frames := 8, cells := 1, slots := 6, locals := 176 } : Room) s m ([.ref o0] : List Value).toArray below meth c H locs 0 0 (vx_MQ below (va_Qi (fun r9 x9 => (x9.1 = 0) ∧ ((0 : Int32), r9, view x9.2) = FC_X12_thread (view f) o0) (cB D ks τ L A N) A) (cX D ks τ L A ["java/lang/IllegalStateException", "java/lang/UnsupportedOperationException"] (fun e9 x9 => (x9.1 = 0) ∧ ((e9 = "java/lang/IllegalStateException" ∧ ((1 : Int32), (0 : Int32), view x9.2) = FC_X12_thread (view f) o0) ∨ (e9 = "java/lang/UnsupportedOperationException" ∧ ((2 : Int32), (0 : Int32), view x9.2) = FC_X12_thread (view f) o0)))) ([.ref o0] : List Value).toArray s 1 6 A) (F0 m 32 ls []) := by
      intro N9_32
      induction N9_32 with
      | zero => intro w32_2  Gf32 H locs ls I hi32 hm32; exact absurd hm32 (Nat.not_lt_zero _)
      | succ N9_32 ih32 =>
        intro w32_2  Gf32 H locs ls I hi32 hm32 hG V hS hl
        rw [FC_X12_thread_L32] at hG
        refine lv_iload_n hx hb dX12_thread_32 rfl (lv_at hl 2 rfl) ?_
        refine lv_aload_n hx hb dX12_thread_33 rfl (lv_at hl 0 rfl) ?_
        obtain ⟨v14_0, v14_1, v14_2, v14_3, v14_4, v14_5, hf14, t14_0, t14_1, t14_2⟩ := op9 I t_o0
        refine cG C9 V t_o0.1 hf14 rfl tC_lay9 2 (by decide) tCf_X12_24 (Or.inl rfl) rfl dX12_thread_34 ?_
        replace hG := gLt_e hG (view_gR hf14 rfl)
        obtain ⟨g15, hf15, hg15⟩ := op14 I t14_2
        refine cAl (t0 := 2) (v := 8) C9 V t14_2.1 hf15 rfl (by first | rfl | decide) dX12_thread_37 ?_
        refine lv_icmp_ge (tgt := 84) hx hb dX12_thread_38 (by decide) (fun c16 => ?_) (fun c16 => ?_)
        · replace hG := gIf_p hG c16
          exact cThr (text := "full") (names := xNm) C9 h0 V I hS hlt hET hlk hml hl.1 (xw_63_67 hts h0) (by simp [nMs]) (by simp) (⟨rfl, Or.inl (⟨rfl, hG.symm⟩)⟩) ⟨Nat.le_of_ble_eq_true rfl, Nat.le_of_ble_eq_true rfl, Nat.le_of_ble_eq_true rfl, Nat.le_of_ble_eq_true rfl⟩ ⟨Nat.le_of_ble_eq_true rfl, Nat.le_of_ble_eq_true rfl⟩ dX12_thread_84 dX12_thread_87 dX12_thread_88 dX12_thread_90 dX12_thread_93
        · replace hG := gIf_n hG c16
          refine lv_aload_n hx hb dX12_thread_41 rfl (lv_at hl 0 rfl) ?_
          refine cG C9 V t_o0.1 hf14 rfl tC_lay9 2 (by decide) tCf_X12_24 (Or.inl rfl) rfl dX12_thread_42 ?_
          refine lv_iload_n hx hb dX12_thread_45 rfl (lv_at hl 2 rfl) ?_
          refine cLr (t0 := 2) C9 V t14_2.1 hf15 rfl (cvin (N := 8) rfl (hi32.1) (ci_lt c16)) dX12_thread_46 ?_
          obtain ⟨y17, ey17, hy17⟩ := hg15 _ ((ca_lt8 hi32.1 (ci_lt c16)))
          rw [ey17]
          replace hG := gLt_e hG (view_gQs hf15 ey17)
          refine W.eq (g2 := F0 m 47 ls [.ref y17]) rfl ?_
          obtain ⟨v18_0, v18_1, v18_2, v18_3, v18_4, v18_5, v18_6, v18_7, v18_8, v18_9, v18_10, v18_11, v18_12, hf18, t18_7, t18_8, t18_11⟩ := op7 I hy17
          refine cGoI (cRunV (As := []) (rest := []) C9 hml hN hNs V I hS hy17.1 hf18 rfl (c_X8_isVacant l D ks τ L A N hN  0 Gf32 y17 hy17 ) gC_X12_94 okC_X8_isVacant ⟨rfl, rfl, Nat.le_of_ble_eq_true rfl, Nat.le_of_ble_eq_true rfl⟩ hl.1 rfl (Nat.le_of_ble_eq_true rfl) dX12_thread_47 ⟨Nat.le_of_ble_eq_true rfl, Nat.le_of_ble_eq_true rfl⟩) hS (fun r21 p20 f19 H locs hqf19 V I hS => ?_)
          obtain ⟨hqf19, ghqf19⟩ := hqf19
          replace hG := gC_e hG ghqf19
          have I : cI ks τ L 0 f19 := by rw [show p20 = 0 from hqf19] at I; exact I
          refine lv_if_eq (tgt := 78) hx hb dX12_thread_50 (by decide) (fun c22 => ?_) (fun c22 => ?_)
          · replace hG := gIf_p hG c22
            obtain ⟨x23, ex23⟩ : ∃ y : Int32, y = w32_2 + (1) := ⟨_, rfl⟩
            replace hG := gLt_e hG ex23
            refine lv_iinc (v := x23) (lv' := [(2, .int x23), (0, .ref o0), (1, .int r5)]) hx hb dX12_thread_78 hl (k := 2) rfl (by rw [ex23]; rfl) (by decide) rfl (fun ls hl => ?_)
            refine lv_goto (tgt := 32) hx hb dX12_thread_81 (by decide) ?_
            exact ih32 x23  f19 _ _ _ I (ca_up ex23 hi32.1 (ci_lt c16)) (cmsd hm32 (ca_dec ex23 hi32.1 (ci_lt c16)).1 (ca_dec ex23 hi32.1 (ci_lt c16)).2) hG V hS (lv_sub hl [1, 2, 0] rfl)
          · replace hG := gIf_n hG c22
            refine lv_aload_n hx hb dX12_thread_53 rfl (lv_at hl 0 rfl) ?_
            obtain ⟨v24_0, v24_1, v24_2, v24_3, v24_4, v24_5, hf24, t24_0, t24_1, t24_2⟩ := op9 I t_o0
            refine cG C9 V t_o0.1 hf24 rfl tC_lay9 2 (by decide) tCf_X12_24 (Or.inl rfl) rfl dX12_thread_54 ?_
            replace hG := gLt_e hG (view_gR hf24 rfl)
            refine lv_iload_n hx hb dX12_thread_57 rfl (lv_at hl 2 rfl) ?_
            obtain ⟨g25, hf25, hg25⟩ := op14 I t24_2
            refine cLr (t0 := 2) C9 V t24_2.1 hf25 rfl (cvin (N := 8) rfl (hi32.1) (ci_lt c16)) dX12_thread_58 ?_
            obtain ⟨y26, ey26, hy26⟩ := hg25 _ ((ca_lt8 hi32.1 (ci_lt c16)))
            rw [ey26]
            replace hG := gLt_e hG (view_gQs hf25 ey26)
            refine W.eq (g2 := F0 m 59 ls [.ref y26]) rfl ?_
            refine lv_aload_n hx hb dX12_thread_59 rfl (lv_at hl 0 rfl) ?_
            refine cG C9 V t_o0.1 hf24 rfl tC_lay9 0 (by decide) tCf_X12_10 (Or.inl rfl) rfl dX12_thread_60 ?_
            replace hG := gLt_e hG (view_gR hf24 rfl)
            obtain ⟨v27_0, v27_1, v27_3, v27_4, v27_5, hf27, t27_0, t27_4, hp27, h027, h127⟩ := op8 I t24_0
            refine cG C9 V t24_0.1 hf27 rfl tC_lay8 0 (by decide) tCf_X12_97 (Or.inl rfl) rfl dX12_thread_63 ?_
            replace hG := gLt_e hG (view_gR hf27 rfl)
            refine lv_aload_n hx hb dX12_thread_66 rfl (lv_at hl 0 rfl) ?_
            refine cG C9 V t_o0.1 hf24 rfl tC_lay9 0 (by decide) tCf_X12_10 (Or.inl rfl) rfl dX12_thread_67 ?_
            refine cG C9 V t24_0.1 hf27 rfl tC_lay8 1 (by decide) tCf_X12_101 (Or.inl rfl) rfl dX12_thread_70 ?_
            replace hG := gLt_e hG (view_gI hf27 rfl)
            obtain ⟨v28_0, v28_1, v28_2, v28_3, v28_4, v28_5, v28_6, v28_7, v28_8, v28_9, v28_10, v28_11, v28_12, hf28, t28_7, t28_8, t28_11⟩ := op7 I hy26
            refine cGoV (cRunV (As := [.ref v27_0, .int v27_1]) (rest := []) C9 hml hN hNs V I hS hy26.1 hf28 rfl (c_X8_start l D ks τ L A N hN  0 f19 y26 v27_0 v27_1 hy26 t27_0 ) gC_X12_104 okC_X8_start ⟨rfl, rfl, Nat.le_of_ble_eq_true rfl, Nat.le_of_ble_eq_true rfl⟩ hl.1 rfl (Nat.le_of_ble_eq_true rfl) dX12_thread_73 ⟨Nat.le_of_ble_eq_true rfl, Nat.le_of_ble_eq_true rfl⟩) hS (fun p30 f29 H locs hqf29 V I hS => ?_)
            obtain ⟨hqf29, ghqf29⟩ := hqf29
            replace hG := gLt_e hG (ghqf29)
            have I : cI ks τ L 0 f29 := by rw [show p30 = 0 from hqf29] at I; exact I
            refine lv_iload_n hx hb dX12_thread_76 rfl (lv_at hl 2 rfl) ?_
            exact cRx (Nat.le_of_ble_eq_true rfl) (Nat.le_of_ble_eq_true rfl) (cRetI C9 hr hlk hN hNs V I hS (⟨rfl, hG.symm⟩) dX12_thread_77)
    exact loop32 ((8 - x13).toInt.toNat + 1) x13  f8 _ _ _ I (by clear hG V hS hl C9 hts hown hx hb hml hr hlk h0 hN0 hET hlt; subst_vars; decide) (Nat.lt_succ_self _) hG V hS (lv_sub hl [2, 1, 0] rfl)
  · replace hG := gIf_p hG c12
    exact cThr (text := "the PROGRAM is broken") (names := xNm) C9 h0 V I hS hlt hET hlk hml hl.1 (xw_89_93 hts h0) (by simp [nMs]) (by simp) (⟨rfl, Or.inr (⟨rfl, hG.symm⟩)⟩) ⟨Nat.le_of_ble_eq_true rfl, Nat.le_of_ble_eq_true rfl, Nat.le_of_ble_eq_true rfl, Nat.le_of_ble_eq_true rfl⟩ ⟨Nat.le_of_ble_eq_true rfl, Nat.le_of_ble_eq_true rfl⟩ dX12_thread_20 dX12_thread_23 dX12_thread_24 dX12_thread_26 dX12_thread_29

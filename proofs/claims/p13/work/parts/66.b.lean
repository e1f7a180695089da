/-! the class: what makes cells, the cells told (laid by wip/gen_new4.py) -/
/-- a Row that is new -/
def nRow (L : List Nat) (τ1 : Nat → Nat) (L1 : List Nat) (f1 : Nat → va_E) (r : Nat) : Prop := r ∉ L ∧ ty τ1 L1 r 5 ∧ ∃ a, a ∉ L ∧ ty τ1 L1 a 13 ∧ f1 r = .inr (5, [.int 0, .ref a])
section NR
variable {τ τ1 τ2 : Nat → Nat} {L L0 L1 L2 : List Nat} {f f1 f2 : Nat → va_E} {r o : Nat} {x : va_E}
theorem nRow_up (h : nRow L τ1 L1 f1 r) (ho : o ∈ L) (e : f2 = va_up f1 o x) : nRow L τ1 L1 f2 r := by
  obtain ⟨h1, h2, a, h3, h4, h5⟩ := h
  exact ⟨h1, h2, a, h3, h4, by rw [e, va_up_ne _ _ (fun z => h1 (by rw [z]; exact ho))]; exact h5⟩
theorem nRow_w (h : nRow L τ1 L1 f1 r) (w : gW τ1 L1 f1 τ2 L2 f2) : nRow L τ2 L2 f2 r := by
  obtain ⟨h1, h2, a, h3, h4, h5⟩ := h
  exact ⟨h1, gW.ty w h2, a, h3, gW.ty w h4, gW.eq w h2.1 h5⟩
theorem nRow_k (h : nRow L τ1 L1 f1 r) (g : gVt τ1 L1 τ2 L1) : nRow L τ2 L1 f1 r := by
  obtain ⟨h1, h2, a, h3, h4, h5⟩ := h
  exact ⟨h1, ty_g g (by decide) h2, a, h3, ty_g g (by decide) h4, h5⟩
theorem nRow_L (h : nRow L τ1 L1 f1 r) (g : ∀ b, b ∈ L0 → b ∈ L) : nRow L0 τ1 L1 f1 r := by
  obtain ⟨h1, h2, a, h3, h4, h5⟩ := h
  exact ⟨fun z => h1 (g r z), h2, a, fun z => h3 (g a z), h4, h5⟩
theorem gU_L {o : Nat} (g : gU τ L f o τ1 L1 f1) (ho : o ∈ L1) : ∀ b, b ∈ L → b ∈ L1 := fun b hb => by
  by_cases c : b = o
  · rw [c]; exact ho
  · exact (g.1 b hb c).1
theorem ar_in (h : nRow L τ1 L1 f1 r) (w : f2 r = f1 r) : ∀ a, f2 r = .inr (5, [.int 0, .ref a]) → a ∈ L1 := fun a ha => by
  obtain ⟨h1, h2, a2, h3, h4, h5⟩ := h
  rw [w, h5] at ha
  have e : a2 = a := by simpa using ha
  rw [← e]; exact h4.1
end NR
theorem cq_nle {x : Int32} (h : 1 ≤ x) : ¬ x ≤ 0 := by grind
theorem cq_nlt {x : Int32} (h : 1 ≤ x) : ¬ x < 0 := by grind
theorem cq_k {x : Int32} (h : 1 ≤ x ∧ x ≤ 100) : 1 ≤ x.toNatClampNeg ∧ x.toNatClampNeg ≤ 100 := by
  have h1 : (1 : Int) ≤ x.toInt := Int32.le_iff_toInt_le.mp h.1
  have h2 : x.toInt ≤ 100 := Int32.le_iff_toInt_le.mp h.2
  simp only [Int32.toNatClampNeg]; omega
theorem cq_by {x : Int32} (h : 1 ≤ x ∧ x ≤ 100) : x.toNatClampNeg * componentBytes .int ≤ 536870912 := by
  have := (cq_k h).2
  have e : componentBytes FieldType.int = 4 := rfl
  rw [e]; omega
theorem cq_sl {x : Int32} (h : 1 ≤ x ∧ x ≤ 100) : 0 + 10 + x.toNatClampNeg ≤ 110 := by
  have := (cq_k h).2
  omega

theorem dfl_X1 : ∀ j, j < 5 → defaultValue (tyX1 j) = vp_V [.int 0, .int 0, .null, .int 0, .int 0] j := by
  intro j hj
  match j, hj with
  | 0, _ => rfl
  | 1, _ => rfl
  | 2, _ => rfl
  | 3, _ => rfl
  | 4, _ => rfl
  | j + 5, h => exact absurd h (by omega)
theorem dfl_X2 : ∀ j, j < 5 → defaultValue (tyX2 j) = vp_V [.int 0, .int 0, .null, .int 0, .int 0] j := by
  intro j hj
  match j, hj with
  | 0, _ => rfl
  | 1, _ => rfl
  | 2, _ => rfl
  | 3, _ => rfl
  | 4, _ => rfl
  | j + 5, h => exact absurd h (by omega)
theorem dfl_X3 : ∀ j, j < 4 → defaultValue (tyX3 j) = vp_V [.int 0, .int 0, .null, .int 0] j := by
  intro j hj
  match j, hj with
  | 0, _ => rfl
  | 1, _ => rfl
  | 2, _ => rfl
  | 3, _ => rfl
  | j + 4, h => exact absurd h (by omega)
theorem dfl_X4 : ∀ j, j < 7 → defaultValue (tyX4 j) = vp_V [.int 0, .int 0, .null, .int 0, .int 0, .int 0, .null] j := by
  intro j hj
  match j, hj with
  | 0, _ => rfl
  | 1, _ => rfl
  | 2, _ => rfl
  | 3, _ => rfl
  | 4, _ => rfl
  | 5, _ => rfl
  | 6, _ => rfl
  | j + 7, h => exact absurd h (by omega)
theorem dfl_X5 : ∀ j, j < 6 → defaultValue (tyX5 j) = vp_V [.int 0, .int 0, .null, .null, .int 0, .int 0] j := by
  intro j hj
  match j, hj with
  | 0, _ => rfl
  | 1, _ => rfl
  | 2, _ => rfl
  | 3, _ => rfl
  | 4, _ => rfl
  | 5, _ => rfl
  | j + 6, h => exact absurd h (by omega)
theorem dfl_X6 : ∀ j, j < 2 → defaultValue (tyX6 j) = vp_V [.int 0, .null] j := by
  intro j hj
  match j, hj with
  | 0, _ => rfl
  | 1, _ => rfl
  | j + 2, h => exact absurd h (by omega)
theorem dfl_X7 : ∀ j, j < 4 → defaultValue (tyX7 j) = vp_V [.int 0, .int 0, .null, .int 0] j := by
  intro j hj
  match j, hj with
  | 0, _ => rfl
  | 1, _ => rfl
  | 2, _ => rfl
  | 3, _ => rfl
  | j + 4, h => exact absurd h (by omega)
theorem dfl_X8 : ∀ j, j < 13 → defaultValue (tyX8 j) = vp_V [.int 0, .int 0, .int 0, .int 0, .int 0, .int 0, .long 0, .null, .null, .int 0, .int 0, .null, .int 0] j := by
  intro j hj
  match j, hj with
  | 0, _ => rfl
  | 1, _ => rfl
  | 2, _ => rfl
  | 3, _ => rfl
  | 4, _ => rfl
  | 5, _ => rfl
  | 6, _ => rfl
  | 7, _ => rfl
  | 8, _ => rfl
  | 9, _ => rfl
  | 10, _ => rfl
  | 11, _ => rfl
  | 12, _ => rfl
  | j + 13, h => exact absurd h (by omega)
theorem dfl_X10 : ∀ j, j < 6 → defaultValue (tyX10 j) = vp_V [.null, .int 0, .int 0, .int 0, .null, .int 0] j := by
  intro j hj
  match j, hj with
  | 0, _ => rfl
  | 1, _ => rfl
  | 2, _ => rfl
  | 3, _ => rfl
  | 4, _ => rfl
  | 5, _ => rfl
  | j + 6, h => exact absurd h (by omega)
theorem dfl_X12 : ∀ j, j < 6 → defaultValue (tyX12 j) = vp_V [.null, .null, .null, .long 0, .long 0, .int 0] j := by
  intro j hj
  match j, hj with
  | 0, _ => rfl
  | 1, _ => rfl
  | 2, _ => rfl
  | 3, _ => rfl
  | 4, _ => rfl
  | 5, _ => rfl
  | j + 6, h => exact absurd h (by omega)
set_option maxHeartbeats 200000 in
set_option maxRecDepth 100000 in
theorem c_X6_init (l : Launch) (D : va_G) (ks : kS) (τ : Nat → Nat) (L : List Nat) (A : Nat → Prop) (N : State → Prop) (hN : cNk A N) (κ : kC) (hN0 : ∀ U, N U → N0 κ A U) (ψ : Int32) (f : Nat → va_E) (o0 : Nat)  (t_o0 : ty τ L o0 99) (hf_o0 : f o0 = .inr (5, [.int 0, .null]))  : Met l yX6_init (Cond.code yX6_init cX6_init 1 none :: tC) ({ frames := 1, cells := 1, slots := 8, locals := 20 }) (va_Pc [.ref o0] (cB D ks τ L A N (ψ, f))) (va_Qv (fun x9 => gU τ L f o0 x9.2.1 x9.2.2 x9.1 ∧ ty x9.2.1 x9.2.2 o0 5 ∧ ∃ a9, a9 ∉ L ∧ ty x9.2.1 x9.2.2 a9 13 ∧ x9.1 o0 = .inr (5, [.int 0, .ref a9])) (cBn D ks A N ψ) A) 1 8 A := by
  refine cMetN (own := RX6) (by decide) rfl (Nat.le_of_ble_eq_true rfl) ?_
  intro p e s m below meth c ls C9 hml hr hlk hmn V I hNs hl
  have hx := C9.1
  have hb := C9.2.1
  have hown := C9.2.2.1
  have hts := C9.2.2.2.1
  have h0 := hN0 s hNs
  have hS : va_S A s.heap s.heap [] := va_S.rf
  have gw0 : gU τ L f o0 τ L f := gU_rf
  have hl : lv_has ls 1 [(0, .ref o0)] := hl
  refine lv_aload_n hx hb dX6_init_0 rfl (lv_at hl 0 rfl) ?_
  refine cObj C9 hml hl.1 tCo_X6_3 ⟨Nat.le_of_ble_eq_true rfl, Nat.le_of_ble_eq_true rfl⟩ dX6_init_1 ?_
  refine lv_aload_n hx hb dX6_init_4 rfl (lv_at hl 0 rfl) ?_
  refine lv_bipush (v := 8) hx hb dX6_init_5 (by decide) ?_
  refine cNq (K := 8) (k := 13) (t0 := 2) C9 h0 h0.2.2.2.2.2.2.2.2.2.2.2.2.1.1 V I hS tCl_X6_9 rfl (by decide) (by decide) (by decide) (fun _ _ => mk13 (fun _ => tyO_n)) (by decide) ⟨Nat.le_of_ble_eq_true rfl, Nat.le_of_ble_eq_true rfl⟩ dX6_init_7 (fun q1 τ1 L1 f1 H hg1 hq1 ht1 hf1 V I hS => ?_)
  have gt2 := gW.ty hg1 t_o0
  have hf3 := gW.eq hg1 t_o0.1 hf_o0
  have gw4 := gU_w gw0 hg1
  refine cPF (v := .ref q1) (ty := .array (.object "TurnKeeper$Strand")) C9 V hS gt2.1 hf3 rfl tC_lay5 tyX6 tyX6_ok nmX6 1 (by decide) tCf_X6_11 rfl rfl hmn rfl (by decide +kernel) rfl rfl (Nat.le_of_ble_eq_true rfl) dX6_init_10 (fun f5 H locs ef5 V hS => ?_)
  have hf6 : f5 o0 = .inr (5, [.int 0, .ref q1]) := up_s ef5
  have I := cI_raw I gt2.2 ef5
  have gw7 := gU_up gw4 ef5
  obtain ⟨τ9, gt9, hn9, ht9, I⟩ := rekind (k := 5) I gt2 (fun τ9 g9 => by rw [hf6]; exact mk5 (by decide) (ty_g g9 (by first | decide | omega) ht1))
  exact cRetN C9 hr hlk hN hNs V I hS ⟨gU_k gw7 hn9 t_o0.1, ht9, q1, hq1, ty_g gt9 (by decide) ht1, hf6⟩ ⟨Nat.le_of_ble_eq_true rfl, Nat.le_of_ble_eq_true rfl⟩ dX6_init_13
set_option maxHeartbeats 200000 in
set_option maxRecDepth 100000 in
theorem c_X9_init_0 (l : Launch) (D : va_G) (ks : kS) (τ : Nat → Nat) (L : List Nat) (A : Nat → Prop) (N : State → Prop) (hN : cNk A N) (κ : kC) (hN0 : ∀ U, N U → N0 κ A U) (ψ : Int32) (f : Nat → va_E) (o0 : Nat) (i1 : Int32) (i2 : Int32) (t_o0 : ty τ L o0 99) (hf_o0 : f o0 = .inr (0, [.int 0, .int 0, .null, .int 0, .int 0]))  : Met l yX9_init (Cond.code yX9_init cX9_init 3 none :: tC) ({ frames := 2, cells := 2, slots := 10, locals := 40 }) (va_Pc [.ref o0, .int i1, .int i2] (cB D ks τ L A N (ψ, f))) (va_Qv (fun x9 => gU τ L f o0 x9.2.1 x9.2.2 x9.1 ∧ ty x9.2.1 x9.2.2 o0 99 ∧ ∃ r9, x9.1 o0 = .inr (0, [.int i1, .int i2, .ref r9, .int 0, .int 0]) ∧ nRow L x9.2.1 x9.2.2 x9.1 r9) (cBn D ks A N ψ) A) 2 10 A := by
  refine cMetN (own := RX9) (by decide) rfl (Nat.le_of_ble_eq_true rfl) ?_
  intro p e s m below meth c ls C9 hml hr hlk hmn V I hNs hl
  have hx := C9.1
  have hb := C9.2.1
  have hown := C9.2.2.1
  have hts := C9.2.2.2.1
  have h0 := hN0 s hNs
  have hS : va_S A s.heap s.heap [] := va_S.rf
  have gw0 : gU τ L f o0 τ L f := gU_rf
  have hl : lv_has ls 3 [(0, .ref o0), (1, .int i1), (2, .int i2)] := hl
  refine lv_aload_n hx hb dX9_init_0 rfl (lv_at hl 0 rfl) ?_
  refine cObj C9 hml hl.1 tCo_X9_3 ⟨Nat.le_of_ble_eq_true rfl, Nat.le_of_ble_eq_true rfl⟩ dX9_init_1 ?_
  refine lv_aload_n hx hb dX9_init_4 rfl (lv_at hl 0 rfl) ?_
  refine cNw (ci := 5) (fs := [.int 0, .null]) C9 h0 V I hS rfl tC_lay5 tyX6 tyX6_ok tCw_X9_9 dfl_X6 ⟨Nat.le_of_ble_eq_true rfl, Nat.le_of_ble_eq_true rfl⟩ dX9_init_5 (fun q1 τ1 L1 f1 H hg1 hq1 ht1 hf1 V I hS => ?_)
  refine lv_dup hx hb dX9_init_8 rfl ?_
  refine cGoN (cRunIN (As := []) (rest := [.ref q1, .ref o0]) C9 hml hN hNs h0 V I hS (c_X6_init l D ks τ1 L1 A N hN κ hN0 ψ f1 q1  ht1 hf1 ) tCn_X9_11 rfl okN_X6_init ⟨rfl, rfl, Nat.le_of_ble_eq_true rfl, Nat.le_of_ble_eq_true rfl⟩ hl.1 rfl (Nat.le_of_ble_eq_true rfl) dX9_init_9 ⟨Nat.le_of_ble_eq_true rfl, Nat.le_of_ble_eq_true rfl⟩) hS (fun f2 τ2 L2 H locs hp2 V I hS => ?_)
  have I : cI ks τ2 L2 ψ f2 := I
  have V : cV D L2 f2 A H := V
  have gg2 : gU τ1 L1 f1 q1 τ2 L2 f2 := hp2.1
  have ht2 : ty τ2 L2 q1 5 := hp2.2.1
  have hR2 : nRow L τ2 L2 f2 q1 := ⟨hq1, hp2.2.1, hp2.2.2.elim (fun a ha => ⟨a, fun z => ha.1 (hg1.1 a z).1, ha.2.1, ha.2.2⟩)⟩
  have hw2 := gNew hg1 hq1 gg2 ht2 (by decide)
  have gt3 := gW.ty hw2 t_o0
  have hf4 := gW.eq hw2 t_o0.1 hf_o0
  have gw5 := gU_w gw0 hw2
  refine cPF (v := .ref q1) (ty := .object "TurnKeeper$Row") C9 V hS gt3.1 hf4 rfl tC_lay0 tyX1 tyX1_ok nmX1 2 (by decide) tCf_X9_12 rfl rfl hmn rfl (by decide +kernel) rfl rfl (Nat.le_of_ble_eq_true rfl) dX9_init_12 (fun f6 H locs ef6 V hS => ?_)
  have hf7 : f6 o0 = .inr (0, [.int 0, .int 0, .ref q1, .int 0, .int 0]) := up_s ef6
  have I := cI_raw I gt3.2 ef6
  have gw8 := gU_up gw5 ef6
  refine lv_aload_n hx hb dX9_init_15 rfl (lv_at hl 0 rfl) ?_
  refine lv_iload_n hx hb dX9_init_16 rfl (lv_at hl 1 rfl) ?_
  refine cPF (v := .int i1) (ty := .int) C9 V hS gt3.1 hf7 rfl tC_lay0 tyX1 tyX1_ok nmX1 0 (by decide) tCf_X9_18 rfl rfl hmn rfl (by decide +kernel) rfl rfl (Nat.le_of_ble_eq_true rfl) dX9_init_17 (fun f9 H locs ef9 V hS => ?_)
  have hf10 : f9 o0 = .inr (0, [.int i1, .int 0, .ref q1, .int 0, .int 0]) := up_s ef9
  have I := cI_raw I gt3.2 ef9
  have gw11 := gU_up gw8 ef9
  refine lv_aload_n hx hb dX9_init_20 rfl (lv_at hl 0 rfl) ?_
  refine lv_iload_n hx hb dX9_init_21 rfl (lv_at hl 2 rfl) ?_
  refine cPF (v := .int i2) (ty := .int) C9 V hS gt3.1 hf10 rfl tC_lay0 tyX1 tyX1_ok nmX1 1 (by decide) tCf_X9_22 rfl rfl hmn rfl (by decide +kernel) rfl rfl (Nat.le_of_ble_eq_true rfl) dX9_init_22 (fun f12 H locs ef12 V hS => ?_)
  have hf13 : f12 o0 = .inr (0, [.int i1, .int i2, .ref q1, .int 0, .int 0]) := up_s ef12
  have I := cI_raw I gt3.2 ef12
  have gw14 := gU_up gw11 ef12
  exact cRetN C9 hr hlk hN hNs V I hS ⟨gw14, gt3, _, hf13, (nRow_up (nRow_up (nRow_up hR2 t_o0.1 ef6) t_o0.1 ef9) t_o0.1 ef12)⟩ ⟨Nat.le_of_ble_eq_true rfl, Nat.le_of_ble_eq_true rfl⟩ dX9_init_25
set_option maxHeartbeats 200000 in
set_option maxRecDepth 100000 in
theorem c_X9_init_1 (l : Launch) (D : va_G) (ks : kS) (τ : Nat → Nat) (L : List Nat) (A : Nat → Prop) (N : State → Prop) (hN : cNk A N) (κ : kC) (hN0 : ∀ U, N U → N0 κ A U) (ψ : Int32) (f : Nat → va_E) (o0 : Nat) (i1 : Int32) (i2 : Int32) (t_o0 : ty τ L o0 99) (hf_o0 : f o0 = .inr (1, [.int 0, .int 0, .null, .int 0, .int 0]))  : Met l yX9_init (Cond.code yX9_init cX9_init 3 none :: tC) ({ frames := 2, cells := 2, slots := 10, locals := 40 }) (va_Pc [.ref o0, .int i1, .int i2] (cB D ks τ L A N (ψ, f))) (va_Qv (fun x9 => gU τ L f o0 x9.2.1 x9.2.2 x9.1 ∧ ty x9.2.1 x9.2.2 o0 99 ∧ ∃ r9, x9.1 o0 = .inr (1, [.int i1, .int i2, .ref r9, .int 0, .int 0]) ∧ nRow L x9.2.1 x9.2.2 x9.1 r9) (cBn D ks A N ψ) A) 2 10 A := by
  refine cMetN (own := RX9) (by decide) rfl (Nat.le_of_ble_eq_true rfl) ?_
  intro p e s m below meth c ls C9 hml hr hlk hmn V I hNs hl
  have hx := C9.1
  have hb := C9.2.1
  have hown := C9.2.2.1
  have hts := C9.2.2.2.1
  have h0 := hN0 s hNs
  have hS : va_S A s.heap s.heap [] := va_S.rf
  have gw0 : gU τ L f o0 τ L f := gU_rf
  have hl : lv_has ls 3 [(0, .ref o0), (1, .int i1), (2, .int i2)] := hl
  refine lv_aload_n hx hb dX9_init_0 rfl (lv_at hl 0 rfl) ?_
  refine cObj C9 hml hl.1 tCo_X9_3 ⟨Nat.le_of_ble_eq_true rfl, Nat.le_of_ble_eq_true rfl⟩ dX9_init_1 ?_
  refine lv_aload_n hx hb dX9_init_4 rfl (lv_at hl 0 rfl) ?_
  refine cNw (ci := 5) (fs := [.int 0, .null]) C9 h0 V I hS rfl tC_lay5 tyX6 tyX6_ok tCw_X9_9 dfl_X6 ⟨Nat.le_of_ble_eq_true rfl, Nat.le_of_ble_eq_true rfl⟩ dX9_init_5 (fun q1 τ1 L1 f1 H hg1 hq1 ht1 hf1 V I hS => ?_)
  refine lv_dup hx hb dX9_init_8 rfl ?_
  refine cGoN (cRunIN (As := []) (rest := [.ref q1, .ref o0]) C9 hml hN hNs h0 V I hS (c_X6_init l D ks τ1 L1 A N hN κ hN0 ψ f1 q1  ht1 hf1 ) tCn_X9_11 rfl okN_X6_init ⟨rfl, rfl, Nat.le_of_ble_eq_true rfl, Nat.le_of_ble_eq_true rfl⟩ hl.1 rfl (Nat.le_of_ble_eq_true rfl) dX9_init_9 ⟨Nat.le_of_ble_eq_true rfl, Nat.le_of_ble_eq_true rfl⟩) hS (fun f2 τ2 L2 H locs hp2 V I hS => ?_)
  have I : cI ks τ2 L2 ψ f2 := I
  have V : cV D L2 f2 A H := V
  have gg2 : gU τ1 L1 f1 q1 τ2 L2 f2 := hp2.1
  have ht2 : ty τ2 L2 q1 5 := hp2.2.1
  have hR2 : nRow L τ2 L2 f2 q1 := ⟨hq1, hp2.2.1, hp2.2.2.elim (fun a ha => ⟨a, fun z => ha.1 (hg1.1 a z).1, ha.2.1, ha.2.2⟩)⟩
  have hw2 := gNew hg1 hq1 gg2 ht2 (by decide)
  have gt3 := gW.ty hw2 t_o0
  have hf4 := gW.eq hw2 t_o0.1 hf_o0
  have gw5 := gU_w gw0 hw2
  refine cPF (v := .ref q1) (ty := .object "TurnKeeper$Row") C9 V hS gt3.1 hf4 rfl tC_lay1 tyX2 tyX2_ok nmX2 2 (by decide) tCf_X9_12 rfl rfl hmn rfl (by decide +kernel) rfl rfl (Nat.le_of_ble_eq_true rfl) dX9_init_12 (fun f6 H locs ef6 V hS => ?_)
  have hf7 : f6 o0 = .inr (1, [.int 0, .int 0, .ref q1, .int 0, .int 0]) := up_s ef6
  have I := cI_raw I gt3.2 ef6
  have gw8 := gU_up gw5 ef6
  refine lv_aload_n hx hb dX9_init_15 rfl (lv_at hl 0 rfl) ?_
  refine lv_iload_n hx hb dX9_init_16 rfl (lv_at hl 1 rfl) ?_
  refine cPF (v := .int i1) (ty := .int) C9 V hS gt3.1 hf7 rfl tC_lay1 tyX2 tyX2_ok nmX2 0 (by decide) tCf_X9_18 rfl rfl hmn rfl (by decide +kernel) rfl rfl (Nat.le_of_ble_eq_true rfl) dX9_init_17 (fun f9 H locs ef9 V hS => ?_)
  have hf10 : f9 o0 = .inr (1, [.int i1, .int 0, .ref q1, .int 0, .int 0]) := up_s ef9
  have I := cI_raw I gt3.2 ef9
  have gw11 := gU_up gw8 ef9
  refine lv_aload_n hx hb dX9_init_20 rfl (lv_at hl 0 rfl) ?_
  refine lv_iload_n hx hb dX9_init_21 rfl (lv_at hl 2 rfl) ?_
  refine cPF (v := .int i2) (ty := .int) C9 V hS gt3.1 hf10 rfl tC_lay1 tyX2 tyX2_ok nmX2 1 (by decide) tCf_X9_22 rfl rfl hmn rfl (by decide +kernel) rfl rfl (Nat.le_of_ble_eq_true rfl) dX9_init_22 (fun f12 H locs ef12 V hS => ?_)
  have hf13 : f12 o0 = .inr (1, [.int i1, .int i2, .ref q1, .int 0, .int 0]) := up_s ef12
  have I := cI_raw I gt3.2 ef12
  have gw14 := gU_up gw11 ef12
  exact cRetN C9 hr hlk hN hNs V I hS ⟨gw14, gt3, _, hf13, (nRow_up (nRow_up (nRow_up hR2 t_o0.1 ef6) t_o0.1 ef9) t_o0.1 ef12)⟩ ⟨Nat.le_of_ble_eq_true rfl, Nat.le_of_ble_eq_true rfl⟩ dX9_init_25
set_option maxHeartbeats 200000 in
set_option maxRecDepth 100000 in
theorem c_X9_init_2 (l : Launch) (D : va_G) (ks : kS) (τ : Nat → Nat) (L : List Nat) (A : Nat → Prop) (N : State → Prop) (hN : cNk A N) (κ : kC) (hN0 : ∀ U, N U → N0 κ A U) (ψ : Int32) (f : Nat → va_E) (o0 : Nat) (i1 : Int32) (i2 : Int32) (t_o0 : ty τ L o0 99) (hf_o0 : f o0 = .inr (2, [.int 0, .int 0, .null, .int 0]))  : Met l yX9_init (Cond.code yX9_init cX9_init 3 none :: tC) ({ frames := 2, cells := 2, slots := 10, locals := 40 }) (va_Pc [.ref o0, .int i1, .int i2] (cB D ks τ L A N (ψ, f))) (va_Qv (fun x9 => gU τ L f o0 x9.2.1 x9.2.2 x9.1 ∧ ty x9.2.1 x9.2.2 o0 99 ∧ ∃ r9, x9.1 o0 = .inr (2, [.int i1, .int i2, .ref r9, .int 0]) ∧ nRow L x9.2.1 x9.2.2 x9.1 r9) (cBn D ks A N ψ) A) 2 10 A := by
  refine cMetN (own := RX9) (by decide) rfl (Nat.le_of_ble_eq_true rfl) ?_
  intro p e s m below meth c ls C9 hml hr hlk hmn V I hNs hl
  have hx := C9.1
  have hb := C9.2.1
  have hown := C9.2.2.1
  have hts := C9.2.2.2.1
  have h0 := hN0 s hNs
  have hS : va_S A s.heap s.heap [] := va_S.rf
  have gw0 : gU τ L f o0 τ L f := gU_rf
  have hl : lv_has ls 3 [(0, .ref o0), (1, .int i1), (2, .int i2)] := hl
  refine lv_aload_n hx hb dX9_init_0 rfl (lv_at hl 0 rfl) ?_
  refine cObj C9 hml hl.1 tCo_X9_3 ⟨Nat.le_of_ble_eq_true rfl, Nat.le_of_ble_eq_true rfl⟩ dX9_init_1 ?_
  refine lv_aload_n hx hb dX9_init_4 rfl (lv_at hl 0 rfl) ?_
  refine cNw (ci := 5) (fs := [.int 0, .null]) C9 h0 V I hS rfl tC_lay5 tyX6 tyX6_ok tCw_X9_9 dfl_X6 ⟨Nat.le_of_ble_eq_true rfl, Nat.le_of_ble_eq_true rfl⟩ dX9_init_5 (fun q1 τ1 L1 f1 H hg1 hq1 ht1 hf1 V I hS => ?_)
  refine lv_dup hx hb dX9_init_8 rfl ?_
  refine cGoN (cRunIN (As := []) (rest := [.ref q1, .ref o0]) C9 hml hN hNs h0 V I hS (c_X6_init l D ks τ1 L1 A N hN κ hN0 ψ f1 q1  ht1 hf1 ) tCn_X9_11 rfl okN_X6_init ⟨rfl, rfl, Nat.le_of_ble_eq_true rfl, Nat.le_of_ble_eq_true rfl⟩ hl.1 rfl (Nat.le_of_ble_eq_true rfl) dX9_init_9 ⟨Nat.le_of_ble_eq_true rfl, Nat.le_of_ble_eq_true rfl⟩) hS (fun f2 τ2 L2 H locs hp2 V I hS => ?_)
  have I : cI ks τ2 L2 ψ f2 := I
  have V : cV D L2 f2 A H := V
  have gg2 : gU τ1 L1 f1 q1 τ2 L2 f2 := hp2.1
  have ht2 : ty τ2 L2 q1 5 := hp2.2.1
  have hR2 : nRow L τ2 L2 f2 q1 := ⟨hq1, hp2.2.1, hp2.2.2.elim (fun a ha => ⟨a, fun z => ha.1 (hg1.1 a z).1, ha.2.1, ha.2.2⟩)⟩
  have hw2 := gNew hg1 hq1 gg2 ht2 (by decide)
  have gt3 := gW.ty hw2 t_o0
  have hf4 := gW.eq hw2 t_o0.1 hf_o0
  have gw5 := gU_w gw0 hw2
  refine cPF (v := .ref q1) (ty := .object "TurnKeeper$Row") C9 V hS gt3.1 hf4 rfl tC_lay2 tyX3 tyX3_ok nmX3 2 (by decide) tCf_X9_12 rfl rfl hmn rfl (by decide +kernel) rfl rfl (Nat.le_of_ble_eq_true rfl) dX9_init_12 (fun f6 H locs ef6 V hS => ?_)
  have hf7 : f6 o0 = .inr (2, [.int 0, .int 0, .ref q1, .int 0]) := up_s ef6
  have I := cI_raw I gt3.2 ef6
  have gw8 := gU_up gw5 ef6
  refine lv_aload_n hx hb dX9_init_15 rfl (lv_at hl 0 rfl) ?_
  refine lv_iload_n hx hb dX9_init_16 rfl (lv_at hl 1 rfl) ?_
  refine cPF (v := .int i1) (ty := .int) C9 V hS gt3.1 hf7 rfl tC_lay2 tyX3 tyX3_ok nmX3 0 (by decide) tCf_X9_18 rfl rfl hmn rfl (by decide +kernel) rfl rfl (Nat.le_of_ble_eq_true rfl) dX9_init_17 (fun f9 H locs ef9 V hS => ?_)
  have hf10 : f9 o0 = .inr (2, [.int i1, .int 0, .ref q1, .int 0]) := up_s ef9
  have I := cI_raw I gt3.2 ef9
  have gw11 := gU_up gw8 ef9
  refine lv_aload_n hx hb dX9_init_20 rfl (lv_at hl 0 rfl) ?_
  refine lv_iload_n hx hb dX9_init_21 rfl (lv_at hl 2 rfl) ?_
  refine cPF (v := .int i2) (ty := .int) C9 V hS gt3.1 hf10 rfl tC_lay2 tyX3 tyX3_ok nmX3 1 (by decide) tCf_X9_22 rfl rfl hmn rfl (by decide +kernel) rfl rfl (Nat.le_of_ble_eq_true rfl) dX9_init_22 (fun f12 H locs ef12 V hS => ?_)
  have hf13 : f12 o0 = .inr (2, [.int i1, .int i2, .ref q1, .int 0]) := up_s ef12
  have I := cI_raw I gt3.2 ef12
  have gw14 := gU_up gw11 ef12
  exact cRetN C9 hr hlk hN hNs V I hS ⟨gw14, gt3, _, hf13, (nRow_up (nRow_up (nRow_up hR2 t_o0.1 ef6) t_o0.1 ef9) t_o0.1 ef12)⟩ ⟨Nat.le_of_ble_eq_true rfl, Nat.le_of_ble_eq_true rfl⟩ dX9_init_25
set_option maxHeartbeats 200000 in
set_option maxRecDepth 100000 in
theorem c_X9_init_3 (l : Launch) (D : va_G) (ks : kS) (τ : Nat → Nat) (L : List Nat) (A : Nat → Prop) (N : State → Prop) (hN : cNk A N) (κ : kC) (hN0 : ∀ U, N U → N0 κ A U) (ψ : Int32) (f : Nat → va_E) (o0 : Nat) (i1 : Int32) (i2 : Int32) (t_o0 : ty τ L o0 99) (hf_o0 : f o0 = .inr (3, [.int 0, .int 0, .null, .int 0, .int 0, .int 0, .null]))  : Met l yX9_init (Cond.code yX9_init cX9_init 3 none :: tC) ({ frames := 2, cells := 2, slots := 10, locals := 40 }) (va_Pc [.ref o0, .int i1, .int i2] (cB D ks τ L A N (ψ, f))) (va_Qv (fun x9 => gU τ L f o0 x9.2.1 x9.2.2 x9.1 ∧ ty x9.2.1 x9.2.2 o0 99 ∧ ∃ r9, x9.1 o0 = .inr (3, [.int i1, .int i2, .ref r9, .int 0, .int 0, .int 0, .null]) ∧ nRow L x9.2.1 x9.2.2 x9.1 r9) (cBn D ks A N ψ) A) 2 10 A := by
  refine cMetN (own := RX9) (by decide) rfl (Nat.le_of_ble_eq_true rfl) ?_
  intro p e s m below meth c ls C9 hml hr hlk hmn V I hNs hl
  have hx := C9.1
  have hb := C9.2.1
  have hown := C9.2.2.1
  have hts := C9.2.2.2.1
  have h0 := hN0 s hNs
  have hS : va_S A s.heap s.heap [] := va_S.rf
  have gw0 : gU τ L f o0 τ L f := gU_rf
  have hl : lv_has ls 3 [(0, .ref o0), (1, .int i1), (2, .int i2)] := hl
  refine lv_aload_n hx hb dX9_init_0 rfl (lv_at hl 0 rfl) ?_
  refine cObj C9 hml hl.1 tCo_X9_3 ⟨Nat.le_of_ble_eq_true rfl, Nat.le_of_ble_eq_true rfl⟩ dX9_init_1 ?_
  refine lv_aload_n hx hb dX9_init_4 rfl (lv_at hl 0 rfl) ?_
  refine cNw (ci := 5) (fs := [.int 0, .null]) C9 h0 V I hS rfl tC_lay5 tyX6 tyX6_ok tCw_X9_9 dfl_X6 ⟨Nat.le_of_ble_eq_true rfl, Nat.le_of_ble_eq_true rfl⟩ dX9_init_5 (fun q1 τ1 L1 f1 H hg1 hq1 ht1 hf1 V I hS => ?_)
  refine lv_dup hx hb dX9_init_8 rfl ?_
  refine cGoN (cRunIN (As := []) (rest := [.ref q1, .ref o0]) C9 hml hN hNs h0 V I hS (c_X6_init l D ks τ1 L1 A N hN κ hN0 ψ f1 q1  ht1 hf1 ) tCn_X9_11 rfl okN_X6_init ⟨rfl, rfl, Nat.le_of_ble_eq_true rfl, Nat.le_of_ble_eq_true rfl⟩ hl.1 rfl (Nat.le_of_ble_eq_true rfl) dX9_init_9 ⟨Nat.le_of_ble_eq_true rfl, Nat.le_of_ble_eq_true rfl⟩) hS (fun f2 τ2 L2 H locs hp2 V I hS => ?_)
  have I : cI ks τ2 L2 ψ f2 := I
  have V : cV D L2 f2 A H := V
  have gg2 : gU τ1 L1 f1 q1 τ2 L2 f2 := hp2.1
  have ht2 : ty τ2 L2 q1 5 := hp2.2.1
  have hR2 : nRow L τ2 L2 f2 q1 := ⟨hq1, hp2.2.1, hp2.2.2.elim (fun a ha => ⟨a, fun z => ha.1 (hg1.1 a z).1, ha.2.1, ha.2.2⟩)⟩
  have hw2 := gNew hg1 hq1 gg2 ht2 (by decide)
  have gt3 := gW.ty hw2 t_o0
  have hf4 := gW.eq hw2 t_o0.1 hf_o0
  have gw5 := gU_w gw0 hw2
  refine cPF (v := .ref q1) (ty := .object "TurnKeeper$Row") C9 V hS gt3.1 hf4 rfl tC_lay3 tyX4 tyX4_ok nmX4 2 (by decide) tCf_X9_12 rfl rfl hmn rfl (by decide +kernel) rfl rfl (Nat.le_of_ble_eq_true rfl) dX9_init_12 (fun f6 H locs ef6 V hS => ?_)
  have hf7 : f6 o0 = .inr (3, [.int 0, .int 0, .ref q1, .int 0, .int 0, .int 0, .null]) := up_s ef6
  have I := cI_raw I gt3.2 ef6
  have gw8 := gU_up gw5 ef6
  refine lv_aload_n hx hb dX9_init_15 rfl (lv_at hl 0 rfl) ?_
  refine lv_iload_n hx hb dX9_init_16 rfl (lv_at hl 1 rfl) ?_
  refine cPF (v := .int i1) (ty := .int) C9 V hS gt3.1 hf7 rfl tC_lay3 tyX4 tyX4_ok nmX4 0 (by decide) tCf_X9_18 rfl rfl hmn rfl (by decide +kernel) rfl rfl (Nat.le_of_ble_eq_true rfl) dX9_init_17 (fun f9 H locs ef9 V hS => ?_)
  have hf10 : f9 o0 = .inr (3, [.int i1, .int 0, .ref q1, .int 0, .int 0, .int 0, .null]) := up_s ef9
  have I := cI_raw I gt3.2 ef9
  have gw11 := gU_up gw8 ef9
  refine lv_aload_n hx hb dX9_init_20 rfl (lv_at hl 0 rfl) ?_
  refine lv_iload_n hx hb dX9_init_21 rfl (lv_at hl 2 rfl) ?_
  refine cPF (v := .int i2) (ty := .int) C9 V hS gt3.1 hf10 rfl tC_lay3 tyX4 tyX4_ok nmX4 1 (by decide) tCf_X9_22 rfl rfl hmn rfl (by decide +kernel) rfl rfl (Nat.le_of_ble_eq_true rfl) dX9_init_22 (fun f12 H locs ef12 V hS => ?_)
  have hf13 : f12 o0 = .inr (3, [.int i1, .int i2, .ref q1, .int 0, .int 0, .int 0, .null]) := up_s ef12
  have I := cI_raw I gt3.2 ef12
  have gw14 := gU_up gw11 ef12
  exact cRetN C9 hr hlk hN hNs V I hS ⟨gw14, gt3, _, hf13, (nRow_up (nRow_up (nRow_up hR2 t_o0.1 ef6) t_o0.1 ef9) t_o0.1 ef12)⟩ ⟨Nat.le_of_ble_eq_true rfl, Nat.le_of_ble_eq_true rfl⟩ dX9_init_25
set_option maxHeartbeats 200000 in
set_option maxRecDepth 100000 in
theorem c_X9_init_4 (l : Launch) (D : va_G) (ks : kS) (τ : Nat → Nat) (L : List Nat) (A : Nat → Prop) (N : State → Prop) (hN : cNk A N) (κ : kC) (hN0 : ∀ U, N U → N0 κ A U) (ψ : Int32) (f : Nat → va_E) (o0 : Nat) (i1 : Int32) (i2 : Int32) (t_o0 : ty τ L o0 99) (hf_o0 : f o0 = .inr (4, [.int 0, .int 0, .null, .null, .int 0, .int 0]))  : Met l yX9_init (Cond.code yX9_init cX9_init 3 none :: tC) ({ frames := 2, cells := 2, slots := 10, locals := 40 }) (va_Pc [.ref o0, .int i1, .int i2] (cB D ks τ L A N (ψ, f))) (va_Qv (fun x9 => gU τ L f o0 x9.2.1 x9.2.2 x9.1 ∧ ty x9.2.1 x9.2.2 o0 99 ∧ ∃ r9, x9.1 o0 = .inr (4, [.int i1, .int i2, .ref r9, .null, .int 0, .int 0]) ∧ nRow L x9.2.1 x9.2.2 x9.1 r9) (cBn D ks A N ψ) A) 2 10 A := by
  refine cMetN (own := RX9) (by decide) rfl (Nat.le_of_ble_eq_true rfl) ?_
  intro p e s m below meth c ls C9 hml hr hlk hmn V I hNs hl
  have hx := C9.1
  have hb := C9.2.1
  have hown := C9.2.2.1
  have hts := C9.2.2.2.1
  have h0 := hN0 s hNs
  have hS : va_S A s.heap s.heap [] := va_S.rf
  have gw0 : gU τ L f o0 τ L f := gU_rf
  have hl : lv_has ls 3 [(0, .ref o0), (1, .int i1), (2, .int i2)] := hl
  refine lv_aload_n hx hb dX9_init_0 rfl (lv_at hl 0 rfl) ?_
  refine cObj C9 hml hl.1 tCo_X9_3 ⟨Nat.le_of_ble_eq_true rfl, Nat.le_of_ble_eq_true rfl⟩ dX9_init_1 ?_
  refine lv_aload_n hx hb dX9_init_4 rfl (lv_at hl 0 rfl) ?_
  refine cNw (ci := 5) (fs := [.int 0, .null]) C9 h0 V I hS rfl tC_lay5 tyX6 tyX6_ok tCw_X9_9 dfl_X6 ⟨Nat.le_of_ble_eq_true rfl, Nat.le_of_ble_eq_true rfl⟩ dX9_init_5 (fun q1 τ1 L1 f1 H hg1 hq1 ht1 hf1 V I hS => ?_)
  refine lv_dup hx hb dX9_init_8 rfl ?_
  refine cGoN (cRunIN (As := []) (rest := [.ref q1, .ref o0]) C9 hml hN hNs h0 V I hS (c_X6_init l D ks τ1 L1 A N hN κ hN0 ψ f1 q1  ht1 hf1 ) tCn_X9_11 rfl okN_X6_init ⟨rfl, rfl, Nat.le_of_ble_eq_true rfl, Nat.le_of_ble_eq_true rfl⟩ hl.1 rfl (Nat.le_of_ble_eq_true rfl) dX9_init_9 ⟨Nat.le_of_ble_eq_true rfl, Nat.le_of_ble_eq_true rfl⟩) hS (fun f2 τ2 L2 H locs hp2 V I hS => ?_)
  have I : cI ks τ2 L2 ψ f2 := I
  have V : cV D L2 f2 A H := V
  have gg2 : gU τ1 L1 f1 q1 τ2 L2 f2 := hp2.1
  have ht2 : ty τ2 L2 q1 5 := hp2.2.1
  have hR2 : nRow L τ2 L2 f2 q1 := ⟨hq1, hp2.2.1, hp2.2.2.elim (fun a ha => ⟨a, fun z => ha.1 (hg1.1 a z).1, ha.2.1, ha.2.2⟩)⟩
  have hw2 := gNew hg1 hq1 gg2 ht2 (by decide)
  have gt3 := gW.ty hw2 t_o0
  have hf4 := gW.eq hw2 t_o0.1 hf_o0
  have gw5 := gU_w gw0 hw2
  refine cPF (v := .ref q1) (ty := .object "TurnKeeper$Row") C9 V hS gt3.1 hf4 rfl tC_lay4 tyX5 tyX5_ok nmX5 2 (by decide) tCf_X9_12 rfl rfl hmn rfl (by decide +kernel) rfl rfl (Nat.le_of_ble_eq_true rfl) dX9_init_12 (fun f6 H locs ef6 V hS => ?_)
  have hf7 : f6 o0 = .inr (4, [.int 0, .int 0, .ref q1, .null, .int 0, .int 0]) := up_s ef6
  have I := cI_raw I gt3.2 ef6
  have gw8 := gU_up gw5 ef6
  refine lv_aload_n hx hb dX9_init_15 rfl (lv_at hl 0 rfl) ?_
  refine lv_iload_n hx hb dX9_init_16 rfl (lv_at hl 1 rfl) ?_
  refine cPF (v := .int i1) (ty := .int) C9 V hS gt3.1 hf7 rfl tC_lay4 tyX5 tyX5_ok nmX5 0 (by decide) tCf_X9_18 rfl rfl hmn rfl (by decide +kernel) rfl rfl (Nat.le_of_ble_eq_true rfl) dX9_init_17 (fun f9 H locs ef9 V hS => ?_)
  have hf10 : f9 o0 = .inr (4, [.int i1, .int 0, .ref q1, .null, .int 0, .int 0]) := up_s ef9
  have I := cI_raw I gt3.2 ef9
  have gw11 := gU_up gw8 ef9
  refine lv_aload_n hx hb dX9_init_20 rfl (lv_at hl 0 rfl) ?_
  refine lv_iload_n hx hb dX9_init_21 rfl (lv_at hl 2 rfl) ?_
  refine cPF (v := .int i2) (ty := .int) C9 V hS gt3.1 hf10 rfl tC_lay4 tyX5 tyX5_ok nmX5 1 (by decide) tCf_X9_22 rfl rfl hmn rfl (by decide +kernel) rfl rfl (Nat.le_of_ble_eq_true rfl) dX9_init_22 (fun f12 H locs ef12 V hS => ?_)
  have hf13 : f12 o0 = .inr (4, [.int i1, .int i2, .ref q1, .null, .int 0, .int 0]) := up_s ef12
  have I := cI_raw I gt3.2 ef12
  have gw14 := gU_up gw11 ef12
  exact cRetN C9 hr hlk hN hNs V I hS ⟨gw14, gt3, _, hf13, (nRow_up (nRow_up (nRow_up hR2 t_o0.1 ef6) t_o0.1 ef9) t_o0.1 ef12)⟩ ⟨Nat.le_of_ble_eq_true rfl, Nat.le_of_ble_eq_true rfl⟩ dX9_init_25
set_option maxHeartbeats 200000 in
set_option maxRecDepth 100000 in
theorem c_X9_init_6 (l : Launch) (D : va_G) (ks : kS) (τ : Nat → Nat) (L : List Nat) (A : Nat → Prop) (N : State → Prop) (hN : cNk A N) (κ : kC) (hN0 : ∀ U, N U → N0 κ A U) (ψ : Int32) (f : Nat → va_E) (o0 : Nat) (i1 : Int32) (i2 : Int32) (t_o0 : ty τ L o0 99) (hf_o0 : f o0 = .inr (6, [.int 0, .int 0, .null, .int 0]))  : Met l yX9_init (Cond.code yX9_init cX9_init 3 none :: tC) ({ frames := 2, cells := 2, slots := 10, locals := 40 }) (va_Pc [.ref o0, .int i1, .int i2] (cB D ks τ L A N (ψ, f))) (va_Qv (fun x9 => gU τ L f o0 x9.2.1 x9.2.2 x9.1 ∧ ty x9.2.1 x9.2.2 o0 99 ∧ ∃ r9, x9.1 o0 = .inr (6, [.int i1, .int i2, .ref r9, .int 0]) ∧ nRow L x9.2.1 x9.2.2 x9.1 r9) (cBn D ks A N ψ) A) 2 10 A := by
  refine cMetN (own := RX9) (by decide) rfl (Nat.le_of_ble_eq_true rfl) ?_
  intro p e s m below meth c ls C9 hml hr hlk hmn V I hNs hl
  have hx := C9.1
  have hb := C9.2.1
  have hown := C9.2.2.1
  have hts := C9.2.2.2.1
  have h0 := hN0 s hNs
  have hS : va_S A s.heap s.heap [] := va_S.rf
  have gw0 : gU τ L f o0 τ L f := gU_rf
  have hl : lv_has ls 3 [(0, .ref o0), (1, .int i1), (2, .int i2)] := hl
  refine lv_aload_n hx hb dX9_init_0 rfl (lv_at hl 0 rfl) ?_
  refine cObj C9 hml hl.1 tCo_X9_3 ⟨Nat.le_of_ble_eq_true rfl, Nat.le_of_ble_eq_true rfl⟩ dX9_init_1 ?_
  refine lv_aload_n hx hb dX9_init_4 rfl (lv_at hl 0 rfl) ?_
  refine cNw (ci := 5) (fs := [.int 0, .null]) C9 h0 V I hS rfl tC_lay5 tyX6 tyX6_ok tCw_X9_9 dfl_X6 ⟨Nat.le_of_ble_eq_true rfl, Nat.le_of_ble_eq_true rfl⟩ dX9_init_5 (fun q1 τ1 L1 f1 H hg1 hq1 ht1 hf1 V I hS => ?_)
  refine lv_dup hx hb dX9_init_8 rfl ?_
  refine cGoN (cRunIN (As := []) (rest := [.ref q1, .ref o0]) C9 hml hN hNs h0 V I hS (c_X6_init l D ks τ1 L1 A N hN κ hN0 ψ f1 q1  ht1 hf1 ) tCn_X9_11 rfl okN_X6_init ⟨rfl, rfl, Nat.le_of_ble_eq_true rfl, Nat.le_of_ble_eq_true rfl⟩ hl.1 rfl (Nat.le_of_ble_eq_true rfl) dX9_init_9 ⟨Nat.le_of_ble_eq_true rfl, Nat.le_of_ble_eq_true rfl⟩) hS (fun f2 τ2 L2 H locs hp2 V I hS => ?_)
  have I : cI ks τ2 L2 ψ f2 := I
  have V : cV D L2 f2 A H := V
  have gg2 : gU τ1 L1 f1 q1 τ2 L2 f2 := hp2.1
  have ht2 : ty τ2 L2 q1 5 := hp2.2.1
  have hR2 : nRow L τ2 L2 f2 q1 := ⟨hq1, hp2.2.1, hp2.2.2.elim (fun a ha => ⟨a, fun z => ha.1 (hg1.1 a z).1, ha.2.1, ha.2.2⟩)⟩
  have hw2 := gNew hg1 hq1 gg2 ht2 (by decide)
  have gt3 := gW.ty hw2 t_o0
  have hf4 := gW.eq hw2 t_o0.1 hf_o0
  have gw5 := gU_w gw0 hw2
  refine cPF (v := .ref q1) (ty := .object "TurnKeeper$Row") C9 V hS gt3.1 hf4 rfl tC_lay6 tyX7 tyX7_ok nmX7 2 (by decide) tCf_X9_12 rfl rfl hmn rfl (by decide +kernel) rfl rfl (Nat.le_of_ble_eq_true rfl) dX9_init_12 (fun f6 H locs ef6 V hS => ?_)
  have hf7 : f6 o0 = .inr (6, [.int 0, .int 0, .ref q1, .int 0]) := up_s ef6
  have I := cI_raw I gt3.2 ef6
  have gw8 := gU_up gw5 ef6
  refine lv_aload_n hx hb dX9_init_15 rfl (lv_at hl 0 rfl) ?_
  refine lv_iload_n hx hb dX9_init_16 rfl (lv_at hl 1 rfl) ?_
  refine cPF (v := .int i1) (ty := .int) C9 V hS gt3.1 hf7 rfl tC_lay6 tyX7 tyX7_ok nmX7 0 (by decide) tCf_X9_18 rfl rfl hmn rfl (by decide +kernel) rfl rfl (Nat.le_of_ble_eq_true rfl) dX9_init_17 (fun f9 H locs ef9 V hS => ?_)
  have hf10 : f9 o0 = .inr (6, [.int i1, .int 0, .ref q1, .int 0]) := up_s ef9
  have I := cI_raw I gt3.2 ef9
  have gw11 := gU_up gw8 ef9
  refine lv_aload_n hx hb dX9_init_20 rfl (lv_at hl 0 rfl) ?_
  refine lv_iload_n hx hb dX9_init_21 rfl (lv_at hl 2 rfl) ?_
  refine cPF (v := .int i2) (ty := .int) C9 V hS gt3.1 hf10 rfl tC_lay6 tyX7 tyX7_ok nmX7 1 (by decide) tCf_X9_22 rfl rfl hmn rfl (by decide +kernel) rfl rfl (Nat.le_of_ble_eq_true rfl) dX9_init_22 (fun f12 H locs ef12 V hS => ?_)
  have hf13 : f12 o0 = .inr (6, [.int i1, .int i2, .ref q1, .int 0]) := up_s ef12
  have I := cI_raw I gt3.2 ef12
  have gw14 := gU_up gw11 ef12
  exact cRetN C9 hr hlk hN hNs V I hS ⟨gw14, gt3, _, hf13, (nRow_up (nRow_up (nRow_up hR2 t_o0.1 ef6) t_o0.1 ef9) t_o0.1 ef12)⟩ ⟨Nat.le_of_ble_eq_true rfl, Nat.le_of_ble_eq_true rfl⟩ dX9_init_25
set_option maxHeartbeats 200000 in
set_option maxRecDepth 100000 in
theorem c_X4_init (l : Launch) (D : va_G) (ks : kS) (τ : Nat → Nat) (L : List Nat) (A : Nat → Prop) (N : State → Prop) (hN : cNk A N) (κ : kC) (hN0 : ∀ U, N U → N0 κ A U) (ψ : Int32) (f : Nat → va_E) (o0 : Nat) (i1 : Int32) (i2 : Int32) (t_o0 : ty τ L o0 99) (hf_o0 : f o0 = .inr (3, [.int 0, .int 0, .null, .int 0, .int 0, .int 0, .null])) (hz : narrow .boolean (.int i2) = .int i2 ∧ fits .boolean (.int i2) = true) : Met l yX4_init (Cond.code yX4_init cX4_init 3 none :: tC) ({ frames := 3, cells := 4, slots := 20, locals := 62 }) (va_Pc [.ref o0, .int i1, .int i2] (cB D ks τ L A N (ψ, f))) (va_Qv (fun x9 => gU τ L f o0 x9.2.1 x9.2.2 x9.1 ∧ ty x9.2.1 x9.2.2 o0 3 ∧ ∃ r9 r8 M9, x9.1 o0 = .inr (3, [.int i1, .int 0, .ref r9, .int (-1), .int i2, .int 0, .ref r8]) ∧ nRow L x9.2.1 x9.2.2 x9.1 r9 ∧ nRow M9 x9.2.1 x9.2.2 x9.1 r8 ∧ (∀ b, b ∈ L → b ∈ M9) ∧ r9 ∈ M9 ∧ ∀ a, x9.1 r9 = .inr (5, [.int 0, .ref a]) → a ∈ M9) (cBn D ks A N ψ) A) 4 20 A := by
  refine cMetN (own := RX4) (by decide) rfl (Nat.le_of_ble_eq_true rfl) ?_
  intro p e s m below meth c ls C9 hml hr hlk hmn V I hNs hl
  have hx := C9.1
  have hb := C9.2.1
  have hown := C9.2.2.1
  have hts := C9.2.2.2.1
  have h0 := hN0 s hNs
  have hS : va_S A s.heap s.heap [] := va_S.rf
  have gw0 : gU τ L f o0 τ L f := gU_rf
  have hl : lv_has ls 3 [(0, .ref o0), (1, .int i1), (2, .int i2)] := hl
  refine lv_aload_n hx hb dX4_init_0 rfl (lv_at hl 0 rfl) ?_
  refine lv_iload_n hx hb dX4_init_1 rfl (lv_at hl 1 rfl) ?_
  refine lv_iconst (v := 0) hx hb dX4_init_2 (by decide) ?_
  refine cGoN (cRunI (As := [.int i1, .int 0]) (rest := []) C9 hml hN hNs V I hS (c_X9_init_3 l D ks τ L A N hN κ hN0 ψ f o0 i1 0 t_o0 hf_o0 ) tCn_X4_3 rfl okN_X9_init ⟨rfl, rfl, Nat.le_of_ble_eq_true rfl, Nat.le_of_ble_eq_true rfl⟩ hl.1 rfl (Nat.le_of_ble_eq_true rfl) dX4_init_3 ⟨Nat.le_of_ble_eq_true rfl, Nat.le_of_ble_eq_true rfl⟩) hS (fun f1 τ1 L1 H locs hp1 V I hS => ?_)
  have I : cI ks τ1 L1 ψ f1 := I
  have V : cV D L1 f1 A H := V
  have gg1 : gU τ L f o0 τ1 L1 f1 := hp1.1
  have ht1 : ty τ1 L1 o0 99 := hp1.2.1
  obtain ⟨r1, hf1, hR1⟩ : ∃ r9, f1 o0 = .inr (3, [.int i1, .int 0, .ref r9, .int 0, .int 0, .int 0, .null]) ∧ nRow L τ1 L1 f1 r9 := hp1.2.2
  have hr1 : ty τ1 L1 r1 5 := hR1.2.1
  have gw2 := gU_o gw0 gg1 t_o0.1
  refine lv_aload_n hx hb dX4_init_6 rfl (lv_at hl 0 rfl) ?_
  refine lv_iconst (v := (-1)) hx hb dX4_init_7 (by decide) ?_
  refine lv_topi (fun x3 ex3 => ?_)
  refine cP (v := .int x3) (ty := .int) C9 V hS ht1.1 hf1 rfl tC_lay3 tyX4 tyX4_ok nmX4 3 (by decide) tCf_X4_9 rfl rfl (by decide +kernel) rfl rfl (Nat.le_of_ble_eq_true rfl) dX4_init_8 (fun f4 H locs ef4 V hS => ?_)
  have hf5 : f4 o0 = .inr (3, [.int i1, .int 0, .ref r1, .int x3, .int 0, .int 0, .null]) := up_s ef4
  have I := cI_raw I ht1.2 ef4
  have gw6 := gU_up gw2 ef4
  refine lv_aload_n hx hb dX4_init_11 rfl (lv_at hl 0 rfl) ?_
  refine cNw (ci := 5) (fs := [.int 0, .null]) C9 h0 V I hS rfl tC_lay5 tyX6 tyX6_ok tCw_X4_15 dfl_X6 ⟨Nat.le_of_ble_eq_true rfl, Nat.le_of_ble_eq_true rfl⟩ dX4_init_12 (fun q7 τ7 L7 f7 H hg7 hq7 ht7 hf7 V I hS => ?_)
  refine lv_dup hx hb dX4_init_15 rfl ?_
  refine cGoN (cRunIN (As := []) (rest := [.ref q7, .ref o0]) C9 hml hN hNs h0 V I hS (c_X6_init l D ks τ7 L7 A N hN κ hN0 ψ f7 q7  ht7 hf7 ) tCn_X4_17 rfl okN_X6_init ⟨rfl, rfl, Nat.le_of_ble_eq_true rfl, Nat.le_of_ble_eq_true rfl⟩ hl.1 rfl (Nat.le_of_ble_eq_true rfl) dX4_init_16 ⟨Nat.le_of_ble_eq_true rfl, Nat.le_of_ble_eq_true rfl⟩) hS (fun f8 τ8 L8 H locs hp8 V I hS => ?_)
  have I : cI ks τ8 L8 ψ f8 := I
  have V : cV D L8 f8 A H := V
  have gg8 : gU τ7 L7 f7 q7 τ8 L8 f8 := hp8.1
  have ht8 : ty τ8 L8 q7 5 := hp8.2.1
  have hR8 : nRow L1 τ8 L8 f8 q7 := ⟨hq7, hp8.2.1, hp8.2.2.elim (fun a ha => ⟨a, fun z => ha.1 (hg7.1 a z).1, ha.2.1, ha.2.2⟩)⟩
  have hw8 := gNew hg7 hq7 gg8 ht8 (by decide)
  have gt9 := gW.ty hw8 ht1
  have gt10 := gW.ty hw8 hr1
  have hf11 := gW.eq hw8 ht1.1 hf5
  have gw12 := gU_w gw6 hw8
  refine cPF (v := .ref q7) (ty := .object "TurnKeeper$Row") C9 V hS gt9.1 hf11 rfl tC_lay3 tyX4 tyX4_ok nmX4 6 (by decide) tCf_X4_20 rfl rfl hmn rfl (by decide +kernel) rfl rfl (Nat.le_of_ble_eq_true rfl) dX4_init_19 (fun f13 H locs ef13 V hS => ?_)
  have hf14 : f13 o0 = .inr (3, [.int i1, .int 0, .ref r1, .int x3, .int 0, .int 0, .ref q7]) := up_s ef13
  have I := cI_raw I gt9.2 ef13
  have gw15 := gU_up gw12 ef13
  refine lv_aload_n hx hb dX4_init_22 rfl (lv_at hl 0 rfl) ?_
  refine lv_iload_n hx hb dX4_init_23 rfl (lv_at hl 2 rfl) ?_
  refine cPF (v := .int i2) (ty := .boolean) C9 V hS gt9.1 hf14 rfl tC_lay3 tyX4 tyX4_ok nmX4 4 (by decide) tCf_X4_24 rfl rfl hmn rfl (by decide +kernel) hz.1 hz.2 (Nat.le_of_ble_eq_true rfl) dX4_init_24 (fun f16 H locs ef16 V hS => ?_)
  have hf17 : f16 o0 = .inr (3, [.int i1, .int 0, .ref r1, .int x3, .int i2, .int 0, .ref q7]) := up_s ef16
  have I := cI_raw I gt9.2 ef16
  have gw18 := gU_up gw15 ef16
  obtain ⟨τ9, gt9, hn9, ht9, I⟩ := rekind (k := 3) I gt9 (fun τ9 g9 => by rw [hf17]; exact mk3 (ty_g g9 (by first | decide | omega) gt10) (ty_g g9 (by first | decide | omega) ht8))
  exact cRetN C9 hr hlk hN hNs V I hS ⟨gU_k gw18 hn9 t_o0.1, ht9, r1, q7, L1, (by rw [show x3 = -1 from (by first | exact ex3 | exact ex3.symm)] at hf17; exact hf17), (nRow_k (nRow_up (nRow_up (nRow_w (nRow_up hR1 t_o0.1 ef4) hw8) t_o0.1 ef13) t_o0.1 ef16) gt9), (nRow_k (nRow_up (nRow_up hR8 ht1.1 ef13) ht1.1 ef16) gt9), gU_L gg1 ht1.1, hr1.1, ar_in (f2 := f16) hR1 (by rw [ef16, va_up_ne _ _ (fun z => hR1.1 (by rw [z]; exact t_o0.1)), ef13, va_up_ne _ _ (fun z => hR1.1 (by rw [z]; exact t_o0.1)), (hw8.1 r1 hr1.1).2.2, ef4, va_up_ne _ _ (fun z => hR1.1 (by rw [z]; exact t_o0.1))])⟩ ⟨Nat.le_of_ble_eq_true rfl, Nat.le_of_ble_eq_true rfl⟩ dX4_init_27
set_option maxHeartbeats 200000 in
set_option maxRecDepth 100000 in
theorem c_X7_init (l : Launch) (D : va_G) (ks : kS) (τ : Nat → Nat) (L : List Nat) (A : Nat → Prop) (N : State → Prop) (hN : cNk A N) (κ : kC) (hN0 : ∀ U, N U → N0 κ A U) (ψ : Int32) (f : Nat → va_E) (o0 : Nat) (i1 : Int32) (i2 : Int32) (t_o0 : ty τ L o0 99) (hf_o0 : f o0 = .inr (6, [.int 0, .int 0, .null, .int 0]))  : Met l yX7_init (Cond.code yX7_init cX7_init 3 none :: tC) ({ frames := 3, cells := 2, slots := 10, locals := 62 }) (va_Pc [.ref o0, .int i1, .int i2] (cB D ks τ L A N (ψ, f))) (va_Qv (fun x9 => gU τ L f o0 x9.2.1 x9.2.2 x9.1 ∧ ty x9.2.1 x9.2.2 o0 6 ∧ ∃ r9, x9.1 o0 = .inr (6, [.int i1, .int 1, .ref r9, .int i2]) ∧ nRow L x9.2.1 x9.2.2 x9.1 r9) (cBn D ks A N ψ) A) 2 10 A := by
  refine cMetN (own := RX7) (by decide) rfl (Nat.le_of_ble_eq_true rfl) ?_
  intro p e s m below meth c ls C9 hml hr hlk hmn V I hNs hl
  have hx := C9.1
  have hb := C9.2.1
  have hown := C9.2.2.1
  have hts := C9.2.2.2.1
  have h0 := hN0 s hNs
  have hS : va_S A s.heap s.heap [] := va_S.rf
  have gw0 : gU τ L f o0 τ L f := gU_rf
  have hl : lv_has ls 3 [(0, .ref o0), (1, .int i1), (2, .int i2)] := hl
  refine lv_aload_n hx hb dX7_init_0 rfl (lv_at hl 0 rfl) ?_
  refine lv_iload_n hx hb dX7_init_1 rfl (lv_at hl 1 rfl) ?_
  refine lv_iconst (v := 1) hx hb dX7_init_2 (by decide) ?_
  refine cGoN (cRunI (As := [.int i1, .int 1]) (rest := []) C9 hml hN hNs V I hS (c_X9_init_6 l D ks τ L A N hN κ hN0 ψ f o0 i1 1 t_o0 hf_o0 ) tCn_X7_3 rfl okN_X9_init ⟨rfl, rfl, Nat.le_of_ble_eq_true rfl, Nat.le_of_ble_eq_true rfl⟩ hl.1 rfl (Nat.le_of_ble_eq_true rfl) dX7_init_3 ⟨Nat.le_of_ble_eq_true rfl, Nat.le_of_ble_eq_true rfl⟩) hS (fun f1 τ1 L1 H locs hp1 V I hS => ?_)
  have I : cI ks τ1 L1 ψ f1 := I
  have V : cV D L1 f1 A H := V
  have gg1 : gU τ L f o0 τ1 L1 f1 := hp1.1
  have ht1 : ty τ1 L1 o0 99 := hp1.2.1
  obtain ⟨r1, hf1, hR1⟩ : ∃ r9, f1 o0 = .inr (6, [.int i1, .int 1, .ref r9, .int 0]) ∧ nRow L τ1 L1 f1 r9 := hp1.2.2
  have hr1 : ty τ1 L1 r1 5 := hR1.2.1
  have gw2 := gU_o gw0 gg1 t_o0.1
  refine lv_aload_n hx hb dX7_init_6 rfl (lv_at hl 0 rfl) ?_
  refine lv_iload_n hx hb dX7_init_7 rfl (lv_at hl 2 rfl) ?_
  refine cP (v := .int i2) (ty := .int) C9 V hS ht1.1 hf1 rfl tC_lay6 tyX7 tyX7_ok nmX7 3 (by decide) tCf_X7_9 rfl rfl (by decide +kernel) rfl rfl (Nat.le_of_ble_eq_true rfl) dX7_init_8 (fun f3 H locs ef3 V hS => ?_)
  have hf4 : f3 o0 = .inr (6, [.int i1, .int 1, .ref r1, .int i2]) := up_s ef3
  have I := cI_raw I ht1.2 ef3
  have gw5 := gU_up gw2 ef3
  obtain ⟨τ9, gt9, hn9, ht9, I⟩ := rekind (k := 6) I ht1 (fun τ9 g9 => by rw [hf4]; exact mk6 (ty_g g9 (by first | decide | omega) hr1))
  exact cRetN C9 hr hlk hN hNs V I hS ⟨gU_k gw5 hn9 t_o0.1, ht9, r1, hf4, (nRow_k (nRow_up hR1 t_o0.1 ef3) gt9)⟩ ⟨Nat.le_of_ble_eq_true rfl, Nat.le_of_ble_eq_true rfl⟩ dX7_init_11
set_option maxHeartbeats 200000 in
set_option maxRecDepth 100000 in
theorem c_X2_init (l : Launch) (D : va_G) (ks : kS) (τ : Nat → Nat) (L : List Nat) (A : Nat → Prop) (N : State → Prop) (hN : cNk A N) (κ : kC) (hN0 : ∀ U, N U → N0 κ A U) (ψ : Int32) (f : Nat → va_E) (o0 : Nat) (i1 : Int32) (i2 : Int32) (i3 : Int32) (i4 : Int32) (t_o0 : ty τ L o0 99) (hf_o0 : f o0 = .inr (1, [.int 0, .int 0, .null, .int 0, .int 0])) (hz : narrow .boolean (.int i3) = .int i3 ∧ fits .boolean (.int i3) = true) : Met l yX2_init (Cond.code yX2_init cX2_init 5 none :: tC) ({ frames := 3, cells := 2, slots := 10, locals := 62 }) (va_Pc [.ref o0, .int i1, .int i2, .int i3, .int i4] (cB D ks τ L A N (ψ, f))) (va_Qv (fun x9 => gU τ L f o0 x9.2.1 x9.2.2 x9.1 ∧ ty x9.2.1 x9.2.2 o0 1 ∧ ∃ r9, x9.1 o0 = .inr (1, [.int i1, .int i2, .ref r9, .int i3, .int i4]) ∧ nRow L x9.2.1 x9.2.2 x9.1 r9) (cBn D ks A N ψ) A) 2 10 A := by
  refine cMetN (own := RX2) (by decide) rfl (Nat.le_of_ble_eq_true rfl) ?_
  intro p e s m below meth c ls C9 hml hr hlk hmn V I hNs hl
  have hx := C9.1
  have hb := C9.2.1
  have hown := C9.2.2.1
  have hts := C9.2.2.2.1
  have h0 := hN0 s hNs
  have hS : va_S A s.heap s.heap [] := va_S.rf
  have gw0 : gU τ L f o0 τ L f := gU_rf
  have hl : lv_has ls 5 [(0, .ref o0), (1, .int i1), (2, .int i2), (3, .int i3), (4, .int i4)] := hl
  refine lv_aload_n hx hb dX2_init_0 rfl (lv_at hl 0 rfl) ?_
  refine lv_iload_n hx hb dX2_init_1 rfl (lv_at hl 1 rfl) ?_
  refine lv_iload_n hx hb dX2_init_2 rfl (lv_at hl 2 rfl) ?_
  refine cGoN (cRunI (As := [.int i1, .int i2]) (rest := []) C9 hml hN hNs V I hS (c_X9_init_1 l D ks τ L A N hN κ hN0 ψ f o0 i1 i2 t_o0 hf_o0 ) tCn_X2_3 rfl okN_X9_init ⟨rfl, rfl, Nat.le_of_ble_eq_true rfl, Nat.le_of_ble_eq_true rfl⟩ hl.1 rfl (Nat.le_of_ble_eq_true rfl) dX2_init_3 ⟨Nat.le_of_ble_eq_true rfl, Nat.le_of_ble_eq_true rfl⟩) hS (fun f1 τ1 L1 H locs hp1 V I hS => ?_)
  have I : cI ks τ1 L1 ψ f1 := I
  have V : cV D L1 f1 A H := V
  have gg1 : gU τ L f o0 τ1 L1 f1 := hp1.1
  have ht1 : ty τ1 L1 o0 99 := hp1.2.1
  obtain ⟨r1, hf1, hR1⟩ : ∃ r9, f1 o0 = .inr (1, [.int i1, .int i2, .ref r9, .int 0, .int 0]) ∧ nRow L τ1 L1 f1 r9 := hp1.2.2
  have hr1 : ty τ1 L1 r1 5 := hR1.2.1
  have gw2 := gU_o gw0 gg1 t_o0.1
  refine lv_aload_n hx hb dX2_init_6 rfl (lv_at hl 0 rfl) ?_
  refine lv_iload_n hx hb dX2_init_7 rfl (lv_at hl 3 rfl) ?_
  refine cP (v := .int i3) (ty := .boolean) C9 V hS ht1.1 hf1 rfl tC_lay1 tyX2 tyX2_ok nmX2 3 (by decide) tCf_X2_9 rfl rfl (by decide +kernel) hz.1 hz.2 (Nat.le_of_ble_eq_true rfl) dX2_init_8 (fun f3 H locs ef3 V hS => ?_)
  have hf4 : f3 o0 = .inr (1, [.int i1, .int i2, .ref r1, .int i3, .int 0]) := up_s ef3
  have I := cI_raw I ht1.2 ef3
  have gw5 := gU_up gw2 ef3
  refine lv_aload_n hx hb dX2_init_11 rfl (lv_at hl 0 rfl) ?_
  refine lv_iload hx hb dX2_init_12 (lv_at hl 4 rfl) ?_
  refine cP (v := .int i4) (ty := .int) C9 V hS ht1.1 hf4 rfl tC_lay1 tyX2 tyX2_ok nmX2 4 (by decide) tCf_X2_15 rfl rfl (by decide +kernel) rfl rfl (Nat.le_of_ble_eq_true rfl) dX2_init_14 (fun f6 H locs ef6 V hS => ?_)
  have hf7 : f6 o0 = .inr (1, [.int i1, .int i2, .ref r1, .int i3, .int i4]) := up_s ef6
  have I := cI_raw I ht1.2 ef6
  have gw8 := gU_up gw5 ef6
  obtain ⟨τ9, gt9, hn9, ht9, I⟩ := rekind (k := 1) I ht1 (fun τ9 g9 => by rw [hf7]; exact mk1 (ty_g g9 (by first | decide | omega) hr1))
  exact cRetN C9 hr hlk hN hNs V I hS ⟨gU_k gw8 hn9 t_o0.1, ht9, r1, hf7, (nRow_k (nRow_up (nRow_up hR1 t_o0.1 ef3) t_o0.1 ef6) gt9)⟩ ⟨Nat.le_of_ble_eq_true rfl, Nat.le_of_ble_eq_true rfl⟩ dX2_init_17
set_option maxHeartbeats 200000 in
set_option maxRecDepth 100000 in
theorem c_X1_init (l : Launch) (D : va_G) (ks : kS) (τ : Nat → Nat) (L : List Nat) (A : Nat → Prop) (N : State → Prop) (hN : cNk A N) (κ : kC) (hN0 : ∀ U, N U → N0 κ A U) (ψ : Int32) (f : Nat → va_E) (o0 : Nat) (i1 : Int32) (t_o0 : ty τ L o0 99) (hf_o0 : f o0 = .inr (0, [.int 0, .int 0, .null, .int 0, .int 0]))  : Met l yX1_init (Cond.code yX1_init cX1_init 2 none :: tC) ({ frames := 3, cells := 2, slots := 10, locals := 62 }) (va_Pc [.ref o0, .int i1] (cB D ks τ L A N (ψ, f))) (va_Qv (fun x9 => gU τ L f o0 x9.2.1 x9.2.2 x9.1 ∧ ty x9.2.1 x9.2.2 o0 0 ∧ ∃ r9, x9.1 o0 = .inr (0, [.int i1, .int 7, .ref r9, .int (-1), .int 0]) ∧ nRow L x9.2.1 x9.2.2 x9.1 r9) (cBn D ks A N ψ) A) 2 10 A := by
  refine cMetN (own := RX1) (by decide) rfl (Nat.le_of_ble_eq_true rfl) ?_
  intro p e s m below meth c ls C9 hml hr hlk hmn V I hNs hl
  have hx := C9.1
  have hb := C9.2.1
  have hown := C9.2.2.1
  have hts := C9.2.2.2.1
  have h0 := hN0 s hNs
  have hS : va_S A s.heap s.heap [] := va_S.rf
  have gw0 : gU τ L f o0 τ L f := gU_rf
  have hl : lv_has ls 2 [(0, .ref o0), (1, .int i1)] := hl
  refine lv_aload_n hx hb dX1_init_0 rfl (lv_at hl 0 rfl) ?_
  refine lv_iload_n hx hb dX1_init_1 rfl (lv_at hl 1 rfl) ?_
  refine lv_bipush (v := 7) hx hb dX1_init_2 (by decide) ?_
  refine cGoN (cRunI (As := [.int i1, .int 7]) (rest := []) C9 hml hN hNs V I hS (c_X9_init_0 l D ks τ L A N hN κ hN0 ψ f o0 i1 7 t_o0 hf_o0 ) tCn_X1_3 rfl okN_X9_init ⟨rfl, rfl, Nat.le_of_ble_eq_true rfl, Nat.le_of_ble_eq_true rfl⟩ hl.1 rfl (Nat.le_of_ble_eq_true rfl) dX1_init_4 ⟨Nat.le_of_ble_eq_true rfl, Nat.le_of_ble_eq_true rfl⟩) hS (fun f1 τ1 L1 H locs hp1 V I hS => ?_)
  have I : cI ks τ1 L1 ψ f1 := I
  have V : cV D L1 f1 A H := V
  have gg1 : gU τ L f o0 τ1 L1 f1 := hp1.1
  have ht1 : ty τ1 L1 o0 99 := hp1.2.1
  obtain ⟨r1, hf1, hR1⟩ : ∃ r9, f1 o0 = .inr (0, [.int i1, .int 7, .ref r9, .int 0, .int 0]) ∧ nRow L τ1 L1 f1 r9 := hp1.2.2
  have hr1 : ty τ1 L1 r1 5 := hR1.2.1
  have gw2 := gU_o gw0 gg1 t_o0.1
  refine lv_aload_n hx hb dX1_init_7 rfl (lv_at hl 0 rfl) ?_
  refine lv_iconst (v := (-1)) hx hb dX1_init_8 (by decide) ?_
  refine lv_topi (fun x3 ex3 => ?_)
  refine cP (v := .int x3) (ty := .int) C9 V hS ht1.1 hf1 rfl tC_lay0 tyX1 tyX1_ok nmX1 3 (by decide) tCf_X1_9 rfl rfl (by decide +kernel) rfl rfl (Nat.le_of_ble_eq_true rfl) dX1_init_9 (fun f4 H locs ef4 V hS => ?_)
  have hf5 : f4 o0 = .inr (0, [.int i1, .int 7, .ref r1, .int x3, .int 0]) := up_s ef4
  have I := cI_raw I ht1.2 ef4
  have gw6 := gU_up gw2 ef4
  obtain ⟨τ9, gt9, hn9, ht9, I⟩ := rekind (k := 0) I ht1 (fun τ9 g9 => by rw [hf5]; exact mk0 (ty_g g9 (by first | decide | omega) hr1))
  exact cRetN C9 hr hlk hN hNs V I hS ⟨gU_k gw6 hn9 t_o0.1, ht9, r1, (by rw [show x3 = -1 from (by first | exact ex3 | exact ex3.symm)] at hf5; exact hf5), (nRow_k (nRow_up hR1 t_o0.1 ef4) gt9)⟩ ⟨Nat.le_of_ble_eq_true rfl, Nat.le_of_ble_eq_true rfl⟩ dX1_init_12
set_option maxHeartbeats 200000 in
set_option maxRecDepth 100000 in
theorem c_X3_init (l : Launch) (D : va_G) (ks : kS) (τ : Nat → Nat) (L : List Nat) (A : Nat → Prop) (N : State → Prop) (hN : cNk A N) (κ : kC) (hN0 : ∀ U, N U → N0 κ A U) (ψ : Int32) (f : Nat → va_E) (o0 : Nat) (i1 : Int32) (i2 : Int32) (i3 : Int32) (t_o0 : ty τ L o0 99) (hf_o0 : f o0 = .inr (2, [.int 0, .int 0, .null, .int 0]))  : Met l yX3_init (Cond.code yX3_init cX3_init 4 none :: tC) ({ frames := 3, cells := 2, slots := 10, locals := 62 }) (va_Pc [.ref o0, .int i1, .int i2, .int i3] (cB D ks τ L A N (ψ, f))) (va_Qv (fun x9 => gU τ L f o0 x9.2.1 x9.2.2 x9.1 ∧ ty x9.2.1 x9.2.2 o0 2 ∧ ∃ r9, x9.1 o0 = .inr (2, [.int i1, .int i2, .ref r9, .int i3]) ∧ nRow L x9.2.1 x9.2.2 x9.1 r9) (cBn D ks A N ψ) A) 2 10 A := by
  refine cMetN (own := RX3) (by decide) rfl (Nat.le_of_ble_eq_true rfl) ?_
  intro p e s m below meth c ls C9 hml hr hlk hmn V I hNs hl
  have hx := C9.1
  have hb := C9.2.1
  have hown := C9.2.2.1
  have hts := C9.2.2.2.1
  have h0 := hN0 s hNs
  have hS : va_S A s.heap s.heap [] := va_S.rf
  have gw0 : gU τ L f o0 τ L f := gU_rf
  have hl : lv_has ls 4 [(0, .ref o0), (1, .int i1), (2, .int i2), (3, .int i3)] := hl
  refine lv_aload_n hx hb dX3_init_0 rfl (lv_at hl 0 rfl) ?_
  refine lv_iload_n hx hb dX3_init_1 rfl (lv_at hl 1 rfl) ?_
  refine lv_iload_n hx hb dX3_init_2 rfl (lv_at hl 2 rfl) ?_
  refine cGoN (cRunI (As := [.int i1, .int i2]) (rest := []) C9 hml hN hNs V I hS (c_X9_init_2 l D ks τ L A N hN κ hN0 ψ f o0 i1 i2 t_o0 hf_o0 ) tCn_X3_3 rfl okN_X9_init ⟨rfl, rfl, Nat.le_of_ble_eq_true rfl, Nat.le_of_ble_eq_true rfl⟩ hl.1 rfl (Nat.le_of_ble_eq_true rfl) dX3_init_3 ⟨Nat.le_of_ble_eq_true rfl, Nat.le_of_ble_eq_true rfl⟩) hS (fun f1 τ1 L1 H locs hp1 V I hS => ?_)
  have I : cI ks τ1 L1 ψ f1 := I
  have V : cV D L1 f1 A H := V
  have gg1 : gU τ L f o0 τ1 L1 f1 := hp1.1
  have ht1 : ty τ1 L1 o0 99 := hp1.2.1
  obtain ⟨r1, hf1, hR1⟩ : ∃ r9, f1 o0 = .inr (2, [.int i1, .int i2, .ref r9, .int 0]) ∧ nRow L τ1 L1 f1 r9 := hp1.2.2
  have hr1 : ty τ1 L1 r1 5 := hR1.2.1
  have gw2 := gU_o gw0 gg1 t_o0.1
  refine lv_aload_n hx hb dX3_init_6 rfl (lv_at hl 0 rfl) ?_
  refine lv_iload_n hx hb dX3_init_7 rfl (lv_at hl 3 rfl) ?_
  refine cP (v := .int i3) (ty := .int) C9 V hS ht1.1 hf1 rfl tC_lay2 tyX3 tyX3_ok nmX3 3 (by decide) tCf_X3_9 rfl rfl (by decide +kernel) rfl rfl (Nat.le_of_ble_eq_true rfl) dX3_init_8 (fun f3 H locs ef3 V hS => ?_)
  have hf4 : f3 o0 = .inr (2, [.int i1, .int i2, .ref r1, .int i3]) := up_s ef3
  have I := cI_raw I ht1.2 ef3
  have gw5 := gU_up gw2 ef3
  obtain ⟨τ9, gt9, hn9, ht9, I⟩ := rekind (k := 2) I ht1 (fun τ9 g9 => by rw [hf4]; exact mk2 (ty_g g9 (by first | decide | omega) hr1))
  exact cRetN C9 hr hlk hN hNs V I hS ⟨gU_k gw5 hn9 t_o0.1, ht9, r1, hf4, (nRow_k (nRow_up hR1 t_o0.1 ef3) gt9)⟩ ⟨Nat.le_of_ble_eq_true rfl, Nat.le_of_ble_eq_true rfl⟩ dX3_init_11
set_option maxHeartbeats 200000 in
set_option maxRecDepth 100000 in
theorem c_X5_init (l : Launch) (D : va_G) (ks : kS) (τ : Nat → Nat) (L : List Nat) (A : Nat → Prop) (N : State → Prop) (hN : cNk A N) (κ : kC) (hN0 : ∀ U, N U → N0 κ A U) (ψ : Int32) (f : Nat → va_E) (o0 : Nat) (i1 : Int32) (i2 : Int32) (t_o0 : ty τ L o0 99) (hf_o0 : f o0 = .inr (4, [.int 0, .int 0, .null, .null, .int 0, .int 0])) (hz : 1 ≤ i2 ∧ i2 ≤ 100) : Met l yX5_init (Cond.code yX5_init cX5_init 3 none :: tC) ({ frames := 3, cells := 3, slots := 110, locals := 62 }) (va_Pc [.ref o0, .int i1, .int i2] (cB D ks τ L A N (ψ, f))) (va_Qv (fun x9 => gU τ L f o0 x9.2.1 x9.2.2 x9.1 ∧ ty x9.2.1 x9.2.2 o0 4 ∧ ∃ q9, q9 ∉ L ∧ ty x9.2.1 x9.2.2 q9 (100 + Int32.toNatClampNeg i2) ∧ q9 ≠ o0 ∧ ∃ r9, x9.1 o0 = .inr (4, [.int i1, .int 4, .ref r9, .ref q9, .int 0, .int 0]) ∧ nRow L x9.2.1 x9.2.2 x9.1 r9) (cBn D ks A N ψ) A) 3 110 A := by
  refine cMetN (own := RX5) (by decide) rfl (Nat.le_of_ble_eq_true rfl) ?_
  intro p e s m below meth c ls C9 hml hr hlk hmn V I hNs hl
  have hx := C9.1
  have hb := C9.2.1
  have hown := C9.2.2.1
  have hts := C9.2.2.2.1
  have h0 := hN0 s hNs
  have hS : va_S A s.heap s.heap [] := va_S.rf
  have gw0 : gU τ L f o0 τ L f := gU_rf
  have hl : lv_has ls 3 [(0, .ref o0), (1, .int i1), (2, .int i2)] := hl
  refine lv_aload_n hx hb dX5_init_0 rfl (lv_at hl 0 rfl) ?_
  refine lv_iload_n hx hb dX5_init_1 rfl (lv_at hl 1 rfl) ?_
  refine lv_iconst (v := 4) hx hb dX5_init_2 (by decide) ?_
  refine cGoN (cRunI (As := [.int i1, .int 4]) (rest := []) C9 hml hN hNs V I hS (c_X9_init_4 l D ks τ L A N hN κ hN0 ψ f o0 i1 4 t_o0 hf_o0 ) tCn_X5_3 rfl okN_X9_init ⟨rfl, rfl, Nat.le_of_ble_eq_true rfl, Nat.le_of_ble_eq_true rfl⟩ hl.1 rfl (Nat.le_of_ble_eq_true rfl) dX5_init_3 ⟨Nat.le_of_ble_eq_true rfl, Nat.le_of_ble_eq_true rfl⟩) hS (fun f1 τ1 L1 H locs hp1 V I hS => ?_)
  have I : cI ks τ1 L1 ψ f1 := I
  have V : cV D L1 f1 A H := V
  have gg1 : gU τ L f o0 τ1 L1 f1 := hp1.1
  have ht1 : ty τ1 L1 o0 99 := hp1.2.1
  obtain ⟨r1, hf1, hR1⟩ : ∃ r9, f1 o0 = .inr (4, [.int i1, .int 4, .ref r9, .null, .int 0, .int 0]) ∧ nRow L τ1 L1 f1 r9 := hp1.2.2
  have hr1 : ty τ1 L1 r1 5 := hR1.2.1
  have gw2 := gU_o gw0 gg1 t_o0.1
  refine lv_aload_n hx hb dX5_init_6 rfl (lv_at hl 0 rfl) ?_
  refine lv_iload_n hx hb dX5_init_7 rfl (lv_at hl 2 rfl) ?_
  refine lv_if_le (tgt := 15) hx hb dX5_init_8 (by decide) (fun c3 => ?_) (fun c3 => ?_)
  · exact absurd c3 (cq_nle hz.1)
  · refine lv_iload_n hx hb dX5_init_11 rfl (lv_at hl 2 rfl) ?_
    refine lv_goto (tgt := 16) hx hb dX5_init_12 (by decide) ?_
    refine cNa (K := (Int32.toNatClampNeg i2)) (k := (100 + Int32.toNatClampNeg i2)) (t0 := 1) C9 h0 V I hS tCa_int rfl rfl (fun _ _ h => h) (fun _ => rfl) (cq_nlt hz.1) rfl (cq_by hz) (fun _ _ => mkN (cq_k hz)) (by omega) ⟨Nat.le_of_ble_eq_true rfl, (cq_sl hz)⟩ dX5_init_16 (fun q4 τ4 L4 f4 H hg4 hq4 ht4 V I hS => ?_)
    have gt5 := gW.ty hg4 ht1
    have gt6 := gW.ty hg4 hr1
    have hf7 := gW.eq hg4 ht1.1 hf1
    have gw8 := gU_w gw2 hg4
    refine cPF (v := .ref q4) (ty := .array .int) C9 V hS gt5.1 hf7 rfl tC_lay4 tyX5 tyX5_ok nmX5 3 (by decide) tCf_X5_9 rfl rfl hmn rfl (by decide +kernel) rfl rfl (Nat.le_of_ble_eq_true rfl) dX5_init_18 (fun f9 H locs ef9 V hS => ?_)
    have hf10 : f9 o0 = .inr (4, [.int i1, .int 4, .ref r1, .ref q4, .int 0, .int 0]) := up_s ef9
    have I := cI_raw I gt5.2 ef9
    have gw11 := gU_up gw8 ef9
    obtain ⟨τ9, gt9, hn9, ht9, I⟩ := rekind (k := 4) I gt5 (fun τ9 g9 => by rw [hf10]; exact mk4 (ty_g g9 (by first | decide | omega) gt6) (ty_g g9 (by first | decide | omega) ht4) (cq_k hz) (cq_0 (cq_k hz)).1 (cq_0 (cq_k hz)).2)
    exact cRetN C9 hr hlk hN hNs V I hS ⟨gU_k gw11 hn9 t_o0.1, ht9, q4, fun z => hq4 (gU_L gg1 ht1.1 q4 z), ty_g gt9 (by omega) ht4, fun z => hq4 (by rw [z]; exact ht1.1), r1, hf10, (nRow_k (nRow_up (nRow_w hR1 hg4) t_o0.1 ef9) gt9)⟩ ⟨Nat.le_of_ble_eq_true rfl, cq_sl hz⟩ dX5_init_21
set_option maxHeartbeats 200000 in
set_option maxRecDepth 100000 in
theorem c_X8_init (l : Launch) (D : va_G) (ks : kS) (τ : Nat → Nat) (L : List Nat) (A : Nat → Prop) (N : State → Prop) (hN : cNk A N) (κ : kC) (hN0 : ∀ U, N U → N0 κ A U) (ψ : Int32) (f : Nat → va_E) (o0 : Nat) (i1 : Int32) (t_o0 : ty τ L o0 99) (hf_o0 : f o0 = .inr (7, [.int 0, .int 0, .int 0, .int 0, .int 0, .int 0, .long 0, .null, .null, .int 0, .int 0, .null, .int 0]))  : Met l yX8_init (Cond.code yX8_init cX8_init 2 none :: tC) ({ frames := 1, cells := 1, slots := 240, locals := 20 }) (va_Pc [.ref o0, .int i1] (cB D ks τ L A N (ψ, f))) (va_Qv (fun x9 => gU τ L f o0 x9.2.1 x9.2.2 x9.1 ∧ ty x9.2.1 x9.2.2 o0 7 ∧ ∃ c9, c9 ∉ L ∧ ty x9.2.1 x9.2.2 c9 12 ∧ x9.1 o0 = .inr (7, [.int i1, .int 0, .int 0, .int 0, .int 0, .int 0, .long 0, .null, .null, .int 0, .int 0, .ref c9, .int 0])) (cBn D ks A N ψ) A) 1 240 A := by
  refine cMetN (own := RX8) (by decide) rfl (Nat.le_of_ble_eq_true rfl) ?_
  intro p e s m below meth c ls C9 hml hr hlk hmn V I hNs hl
  have hx := C9.1
  have hb := C9.2.1
  have hown := C9.2.2.1
  have hts := C9.2.2.2.1
  have h0 := hN0 s hNs
  have hS : va_S A s.heap s.heap [] := va_S.rf
  have gw0 : gU τ L f o0 τ L f := gU_rf
  have hl : lv_has ls 2 [(0, .ref o0), (1, .int i1)] := hl
  refine lv_aload_n hx hb dX8_init_0 rfl (lv_at hl 0 rfl) ?_
  refine cObj C9 hml hl.1 tCo_X8_3 ⟨Nat.le_of_ble_eq_true rfl, Nat.le_of_ble_eq_true rfl⟩ dX8_init_1 ?_
  refine lv_aload_n hx hb dX8_init_4 rfl (lv_at hl 0 rfl) ?_
  refine lv_sipush (v := 240) hx hb dX8_init_5 (by decide) ?_
  refine cNa (K := 240) (k := 12) (t0 := 1) C9 h0 V I hS tCa_int rfl rfl (fun _ _ h => h) (fun _ => rfl) (by decide) (by decide) (by decide) (fun _ _ => mk12) (by decide) ⟨Nat.le_of_ble_eq_true rfl, Nat.le_of_ble_eq_true rfl⟩ dX8_init_8 (fun q1 τ1 L1 f1 H hg1 hq1 ht1 V I hS => ?_)
  have gt2 := gW.ty hg1 t_o0
  have hf3 := gW.eq hg1 t_o0.1 hf_o0
  have gw4 := gU_w gw0 hg1
  refine cPF (v := .ref q1) (ty := .array .int) C9 V hS gt2.1 hf3 rfl tC_lay7 tyX8 tyX8_ok nmX8 11 (by decide) tCf_X8_9 rfl rfl hmn rfl (by decide +kernel) rfl rfl (Nat.le_of_ble_eq_true rfl) dX8_init_10 (fun f5 H locs ef5 V hS => ?_)
  have hf6 : f5 o0 = .inr (7, [.int 0, .int 0, .int 0, .int 0, .int 0, .int 0, .long 0, .null, .null, .int 0, .int 0, .ref q1, .int 0]) := up_s ef5
  have I := cI_raw I gt2.2 ef5
  have gw7 := gU_up gw4 ef5
  refine lv_aload_n hx hb dX8_init_13 rfl (lv_at hl 0 rfl) ?_
  refine lv_iload_n hx hb dX8_init_14 rfl (lv_at hl 1 rfl) ?_
  refine cPF (v := .int i1) (ty := .int) C9 V hS gt2.1 hf6 rfl tC_lay7 tyX8 tyX8_ok nmX8 0 (by decide) tCf_X8_15 rfl rfl hmn rfl (by decide +kernel) rfl rfl (Nat.le_of_ble_eq_true rfl) dX8_init_15 (fun f8 H locs ef8 V hS => ?_)
  have hf9 : f8 o0 = .inr (7, [.int i1, .int 0, .int 0, .int 0, .int 0, .int 0, .long 0, .null, .null, .int 0, .int 0, .ref q1, .int 0]) := up_s ef8
  have I := cI_raw I gt2.2 ef8
  have gw10 := gU_up gw7 ef8
  obtain ⟨τ9, gt9, hn9, ht9, I⟩ := rekind (k := 7) I gt2 (fun τ9 g9 => by rw [hf9]; exact mk7 tySO_n tyO_n (ty_g g9 (by first | decide | omega) ht1))
  exact cRetN C9 hr hlk hN hNs V I hS ⟨gU_k gw10 hn9 t_o0.1, ht9, q1, hq1, ty_g gt9 (by decide) ht1, hf9⟩ ⟨Nat.le_of_ble_eq_true rfl, Nat.le_of_ble_eq_true rfl⟩ dX8_init_18
set_option maxHeartbeats 200000 in
set_option maxRecDepth 100000 in
theorem c_X10_init (l : Launch) (D : va_G) (ks : kS) (τ : Nat → Nat) (L : List Nat) (A : Nat → Prop) (N : State → Prop) (hN : cNk A N) (κ : kC) (hN0 : ∀ U, N U → N0 κ A U) (ψ : Int32) (f : Nat → va_E) (o0 : Nat)  (t_o0 : ty τ L o0 99) (hf_o0 : f o0 = .inr (8, [.null, .int 0, .int 0, .int 0, .null, .int 0]))  : Met l yX10_init (Cond.code yX10_init cX10_init 1 none :: tC) ({ frames := 1, cells := 2, slots := 1840, locals := 20 }) (va_Pc [.ref o0] (cB D ks τ L A N (0, f))) (va_Qv (fun x9 => gU τ L f o0 x9.2.1 x9.2.2 x9.1 ∧ ty x9.2.1 x9.2.2 o0 8 ∧ ∃ c9 b9 v9, c9 ∉ L ∧ ty x9.2.1 x9.2.2 c9 12 ∧ b9 ∉ L ∧ ty x9.2.1 x9.2.2 b9 11 ∧ x9.1 o0 = .inr (8, [.ref c9, .int 0, .int 0, .int v9, .ref b9, .int 0])) (cBn D ks A N 0) A) 2 1840 A := by
  refine cMetN (own := RX10) (by decide) rfl (Nat.le_of_ble_eq_true rfl) ?_
  intro p e s m below meth c ls C9 hml hr hlk hmn V I hNs hl
  have hx := C9.1
  have hb := C9.2.1
  have hown := C9.2.2.1
  have hts := C9.2.2.2.1
  have h0 := hN0 s hNs
  have hS : va_S A s.heap s.heap [] := va_S.rf
  have gw0 : gU τ L f o0 τ L f := gU_rf
  have hl : lv_has ls 1 [(0, .ref o0)] := hl
  refine lv_aload_n hx hb dX10_init_0 rfl (lv_at hl 0 rfl) ?_
  refine cObj C9 hml hl.1 tCo_X10_3 ⟨Nat.le_of_ble_eq_true rfl, Nat.le_of_ble_eq_true rfl⟩ dX10_init_1 ?_
  refine lv_aload_n hx hb dX10_init_4 rfl (lv_at hl 0 rfl) ?_
  refine lv_sipush (v := 240) hx hb dX10_init_5 (by decide) ?_
  refine cNa (K := 240) (k := 12) (t0 := 1) C9 h0 V I hS tCa_int rfl rfl (fun _ _ h => h) (fun _ => rfl) (by decide) (by decide) (by decide) (fun _ _ => mk12) (by decide) ⟨Nat.le_of_ble_eq_true rfl, Nat.le_of_ble_eq_true rfl⟩ dX10_init_8 (fun q1 τ1 L1 f1 H hg1 hq1 ht1 V I hS => ?_)
  have gt2 := gW.ty hg1 t_o0
  have hf3 := gW.eq hg1 t_o0.1 hf_o0
  have gw4 := gU_w gw0 hg1
  refine cPF (v := .ref q1) (ty := .array .int) C9 V hS gt2.1 hf3 rfl tC_lay8 tyX10 tyX10_ok nmX10 0 (by decide) tCf_X10_9 rfl rfl hmn rfl (by decide +kernel) rfl rfl (Nat.le_of_ble_eq_true rfl) dX10_init_10 (fun f5 H locs ef5 V hS => ?_)
  have hf6 : f5 o0 = .inr (8, [.ref q1, .int 0, .int 0, .int 0, .null, .int 0]) := up_s ef5
  have I := cI_raw I gt2.2 ef5
  have gw7 := gU_up gw4 ef5
  refine lv_aload_n hx hb dX10_init_13 rfl (lv_at hl 0 rfl) ?_
  refine lv_iconst (v := (-1)) hx hb dX10_init_14 (by decide) ?_
  refine lv_topi (fun x8 ex8 => ?_)
  refine cP (v := .int x8) (ty := .int) C9 V hS gt2.1 hf6 rfl tC_lay8 tyX10 tyX10_ok nmX10 3 (by decide) tCf_X10_15 rfl rfl (by decide +kernel) rfl rfl (Nat.le_of_ble_eq_true rfl) dX10_init_15 (fun f9 H locs ef9 V hS => ?_)
  have hf10 : f9 o0 = .inr (8, [.ref q1, .int 0, .int 0, .int x8, .null, .int 0]) := up_s ef9
  have I := cI_raw I gt2.2 ef9
  have gw11 := gU_up gw7 ef9
  refine lv_aload_n hx hb dX10_init_18 rfl (lv_at hl 0 rfl) ?_
  refine lv_sipush (v := 1600) hx hb dX10_init_19 (by decide) ?_
  refine cNa (K := 1600) (k := 11) (t0 := 0) C9 h0 V I hS tCa_byte rfl rfl (fun _ _ h => h) (fun _ => rfl) (by decide) (by decide) (by decide) (fun _ _ => mk11) (by decide) ⟨Nat.le_of_ble_eq_true rfl, Nat.le_of_ble_eq_true rfl⟩ dX10_init_22 (fun q12 τ12 L12 f12 H hg12 hq12 ht12 V I hS => ?_)
  have gt13 := gW.ty hg12 gt2
  have gt14 := gW.ty hg12 ht1
  have hf15 := gW.eq hg12 gt2.1 hf10
  have gw16 := gU_w gw11 hg12
  refine cPF (v := .ref q12) (ty := .array .byte) C9 V hS gt13.1 hf15 rfl tC_lay8 tyX10 tyX10_ok nmX10 4 (by decide) tCf_X10_19 rfl rfl hmn rfl (by decide +kernel) rfl rfl (Nat.le_of_ble_eq_true rfl) dX10_init_24 (fun f17 H locs ef17 V hS => ?_)
  have hf18 : f17 o0 = .inr (8, [.ref q1, .int 0, .int 0, .int x8, .ref q12, .int 0]) := up_s ef17
  have I := cI_raw I gt13.2 ef17
  have gw19 := gU_up gw16 ef17
  obtain ⟨τ9, gt9, hn9, ht9, I⟩ := rekind (k := 8) I gt13 (fun τ9 g9 => by rw [hf18]; exact mk8 (ty_g g9 (by first | decide | omega) gt14) (ty_g g9 (by first | decide | omega) ht12) (by decide) (by decide) (by decide))
  exact cRetN C9 hr hlk hN hNs V I hS ⟨gU_k gw19 hn9 t_o0.1, ht9, q1, q12, x8, hq1, ty_g gt9 (by decide) gt14, fun z => hq12 (hg1.1 q12 z).1, ty_g gt9 (by decide) ht12, hf18⟩ ⟨Nat.le_of_ble_eq_true rfl, Nat.le_of_ble_eq_true rfl⟩ dX10_init_27

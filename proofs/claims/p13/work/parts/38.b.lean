theorem ci_nl {x : Int32} (h : 0 ≤ x) : ¬ x < 0 := fun q => absurd (Int32.lt_of_le_of_lt h q) (by decide)
theorem cs_in {j : Nat} {i : Int32} (h0 : 0 ≤ i) (h1 : i < nI (sLn.getD j 0)) : vp_in i (sLn.getD j 0) := by
  have := sLn_le.1 j
  rw [vp_in_iff]
  have a : (0 : Int) ≤ i.toInt := Int32.le_iff_toInt_le.mp h0
  have b := Int32.lt_iff_toInt_lt.mp h1
  rw [nI_toInt (by omega)] at b
  exact ⟨a, b⟩
theorem cs_len {j : Nat} {x r : Int32} (e : x = nI (sLn.getD j 0) >>> (r &&& 31)) (hr : r = 0) : x = nI (sLn.getD j 0) := by
  have := sLn_le.1 j
  rw [e, hr]
  exact sc_shr0 (by omega)
def FC_Jx29ce0_ordinal_8abf5 (X : xS) (o0 : Nat) : Int32 := gLt (nI o0 : Int32) (fun x1 => (x1 : Int32))
set_option maxHeartbeats 200000 in
set_option maxRecDepth 100000 in
theorem c_Jx29ce0_ordinal_8abf5 (l : Launch) (D : va_G) (ks : kS) (τ : Nat → Nat) (L : List Nat) (A : Nat → Prop) (N : State → Prop) (hN : cNk A N) (κ : kC) (hN0 : ∀ U, N U → N0 κ A U) (ψ : Int32) (f : Nat → va_E) (o0 : Nat) (t_o0 : o0 < 34) : Met l yJx29ce0_ordinal_8abf5 (Cond.code yJx29ce0_ordinal_8abf5 cJx29ce0_ordinal_8abf5 1 (some .int) :: tC) ({ frames := 0, cells := 0, slots := 0, locals := 0 }) (va_Pc [.ref (κ.1 o0)] (cB D ks τ L A N (ψ, f))) (va_Qi (fun r9 x9 => (x9 = (ψ, f) ∧ 0 ≤ r9 ∧ r9 < 34) ∧ r9 = FC_Jx29ce0_ordinal_8abf5 (view f) o0) (cB D ks τ L A N) A) 0 0 A := by
  refine cMet (own := RJx29ce0) (by decide) rfl (Nat.le_of_ble_eq_true rfl) ?_
  intro p e s m below meth c ls C9 hml hr hlk V I hNs hl
  have hx := C9.1
  have hb := C9.2.1
  have hown := C9.2.2.1
  have hts := C9.2.2.2.1
  have h0 := hN0 s hNs
  have hS : va_S A s.heap s.heap [] := va_S.rf
  have hG := FC_Jx29ce0_ordinal_8abf5.eq_1 (view f) o0
  have hl : lv_has ls 1 [(0, .ref (κ.1 o0))] := hl
  refine lv_aload_n hx hb dJx29ce0_ordinal_8abf5_0 rfl (lv_at hl 0 rfl) ?_
  refine cGo t_o0 C9 h0 hS tCf_Jx29ce0_7 dJx29ce0_ordinal_8abf5_1 (fun x1 ex1 hx1 => ?_)
  replace hG := gLt_e hG (ex1)
  exact cRetI C9 hr hlk hN hNs V I hS (⟨⟨rfl, hx1⟩, hG.symm⟩) dJx29ce0_ordinal_8abf5_4
def FC_J0_coder_7d493 (X : xS) (q0 : Nat) : Int32 := (0 : Int32)
set_option maxHeartbeats 200000 in
set_option maxRecDepth 100000 in
theorem c_J0_coder_7d493 (l : Launch) (D : va_G) (ks : kS) (τ : Nat → Nat) (L : List Nat) (A : Nat → Prop) (N : State → Prop) (hN : cNk A N) (κ : kC) (hN0 : ∀ U, N U → N0 κ A U) (ψ : Int32) (f : Nat → va_E) (q0 : Nat) (t_q0 : q0 < 68) : Met l yJ0_coder_7d493 (Cond.code yJ0_coder_7d493 cJ0_coder_7d493 1 (some .byte) :: tC) ({ frames := 0, cells := 0, slots := 0, locals := 0 }) (va_Pc [.ref (κ.2.1 q0)] (cB D ks τ L A N (ψ, f))) (va_Qi (fun r9 x9 => (x9 = (ψ, f) ∧ r9 = 0) ∧ r9 = FC_J0_coder_7d493 (view f) q0) (cB D ks τ L A N) A) 0 0 A := by
  refine cMet (own := RJ0) (by decide) rfl (Nat.le_of_ble_eq_true rfl) ?_
  intro p e s m below meth c ls C9 hml hr hlk V I hNs hl
  have hx := C9.1
  have hb := C9.2.1
  have hown := C9.2.2.1
  have hts := C9.2.2.2.1
  have h0 := hN0 s hNs
  have hS : va_S A s.heap s.heap [] := va_S.rf
  have hG := FC_J0_coder_7d493.eq_1 (view f) q0
  have hl : lv_has ls 1 [(0, .ref (κ.2.1 q0))] := hl
  refine cZc C9 h0 hS tCf_J0_38 dJ0_coder_7d493_0 ?_
  refine lv_if_eq (tgt := 13) hx hb dJ0_coder_7d493_3 (by decide) (fun c1 => ?_) (fun c1 => ?_)
  · exact absurd c1 (by decide)
  · refine lv_aload_n hx hb dJ0_coder_7d493_6 rfl (lv_at hl 0 rfl) ?_
    refine cGc t_q0 C9 h0 hS tCf_J0_15 dJ0_coder_7d493_7 ?_
    refine lv_goto (tgt := 14) hx hb dJ0_coder_7d493_10 (by decide) ?_
    exact cRetT C9 hr hlk hN hNs V I hS (by clear hG V hS hl C9 hts hown hx hb hml hr hlk h0 hN0; first | rfl | decide | (subst_vars; rfl)) (⟨⟨rfl, rfl⟩, hG.symm⟩) dJ0_coder_7d493_14
def FC_J0_isLatin1_aae02 (X : xS) (q0 : Nat) : Int32 := (1 : Int32)
set_option maxHeartbeats 200000 in
set_option maxRecDepth 100000 in
theorem c_J0_isLatin1_aae02 (l : Launch) (D : va_G) (ks : kS) (τ : Nat → Nat) (L : List Nat) (A : Nat → Prop) (N : State → Prop) (hN : cNk A N) (κ : kC) (hN0 : ∀ U, N U → N0 κ A U) (ψ : Int32) (f : Nat → va_E) (q0 : Nat) (t_q0 : q0 < 68) : Met l yJ0_isLatin1_aae02 (Cond.code yJ0_isLatin1_aae02 cJ0_isLatin1_aae02 1 (some .boolean) :: tC) ({ frames := 0, cells := 0, slots := 0, locals := 0 }) (va_Pc [.ref (κ.2.1 q0)] (cB D ks τ L A N (ψ, f))) (va_Qi (fun r9 x9 => (x9 = (ψ, f) ∧ r9 = 1) ∧ r9 = FC_J0_isLatin1_aae02 (view f) q0) (cB D ks τ L A N) A) 0 0 A := by
  refine cMet (own := RJ0) (by decide) rfl (Nat.le_of_ble_eq_true rfl) ?_
  intro p e s m below meth c ls C9 hml hr hlk V I hNs hl
  have hx := C9.1
  have hb := C9.2.1
  have hown := C9.2.2.1
  have hts := C9.2.2.2.1
  have h0 := hN0 s hNs
  have hS : va_S A s.heap s.heap [] := va_S.rf
  have hG := FC_J0_isLatin1_aae02.eq_1 (view f) q0
  have hl : lv_has ls 1 [(0, .ref (κ.2.1 q0))] := hl
  refine cZc C9 h0 hS tCf_J0_38 dJ0_isLatin1_aae02_0 ?_
  refine lv_if_eq (tgt := 17) hx hb dJ0_isLatin1_aae02_3 (by decide) (fun c1 => ?_) (fun c1 => ?_)
  · exact absurd c1 (by decide)
  · refine lv_aload_n hx hb dJ0_isLatin1_aae02_6 rfl (lv_at hl 0 rfl) ?_
    refine cGc t_q0 C9 h0 hS tCf_J0_15 dJ0_isLatin1_aae02_7 ?_
    refine lv_if_ne (tgt := 17) hx hb dJ0_isLatin1_aae02_10 (by decide) (fun c2 => ?_) (fun c2 => ?_)
    · exact absurd c2 (by decide)
    · refine lv_iconst (v := 1) hx hb dJ0_isLatin1_aae02_13 (by decide) ?_
      refine lv_goto (tgt := 18) hx hb dJ0_isLatin1_aae02_14 (by decide) ?_
      exact cRetZ C9 hr hlk hN hNs V I hS (by clear hG V hS hl C9 hts hown hx hb hml hr hlk h0 hN0; first | rfl | decide | (subst_vars; rfl)) (⟨⟨rfl, rfl⟩, hG.symm⟩) dJ0_isLatin1_aae02_18
set_option maxHeartbeats 200000 in
set_option maxRecDepth 100000 in
theorem c_J3_checkIndex_8e157_n (l : Launch) (D : va_G) (ks : kS) (τ : Nat → Nat) (L : List Nat) (A : Nat → Prop) (N : State → Prop) (hN : cNk A N) (κ : kC) (hN0 : ∀ U, N U → N0 κ A U) (ψ : Int32) (f : Nat → va_E) (i1 : Int32) (i2 : Int32) (h1 : 0 ≤ i1) (h2 : i1 < i2) : Met l yJ3_checkIndex_8e157 (Cond.code yJ3_checkIndex_8e157 cJ3_checkIndex_8e157 3 (some .int) :: tC) ({ frames := 0, cells := 0, slots := 0, locals := 0 }) (va_Pc [.int i1, .int i2, .null] (cB D ks τ L A N (ψ, f))) (va_Qi (fun r9 x9 => x9 = (ψ, f)) (cB D ks τ L A N) A) 0 0 A := by
  refine cMet (own := RJ3) (by decide) rfl (Nat.le_of_ble_eq_true rfl) ?_
  intro p e s m below meth c ls C9 hml hr hlk V I hNs hl
  have hx := C9.1
  have hb := C9.2.1
  have hown := C9.2.2.1
  have hts := C9.2.2.2.1
  have h0 := hN0 s hNs
  have hS : va_S A s.heap s.heap [] := va_S.rf
  have hl : lv_has ls 3 [(0, .int i1), (1, .int i2), (2, .null)] := hl
  refine lv_iload_n hx hb dJ3_checkIndex_8e157_0 rfl (lv_at hl 0 rfl) ?_
  refine lv_if_lt (tgt := 9) hx hb dJ3_checkIndex_8e157_1 (by decide) (fun c1 => ?_) (fun c1 => ?_)
  · exact absurd c1 (ci_nl h1)
  · refine lv_iload_n hx hb dJ3_checkIndex_8e157_4 rfl (lv_at hl 0 rfl) ?_
    refine lv_iload_n hx hb dJ3_checkIndex_8e157_5 rfl (lv_at hl 1 rfl) ?_
    refine lv_icmp_lt (tgt := 16) hx hb dJ3_checkIndex_8e157_6 (by decide) (fun c2 => ?_) (fun c2 => ?_)
    · refine lv_iload_n hx hb dJ3_checkIndex_8e157_16 rfl (lv_at hl 0 rfl) ?_
      exact cRetI C9 hr hlk hN hNs V I hS (rfl) dJ3_checkIndex_8e157_17
    · exact absurd h2 c2
set_option maxHeartbeats 200000 in
set_option maxRecDepth 100000 in
theorem c_J3_checkIndex_8e157_r (l : Launch) (D : va_G) (ks : kS) (τ : Nat → Nat) (L : List Nat) (A : Nat → Prop) (N : State → Prop) (hN : cNk A N) (κ : kC) (hN0 : ∀ U, N U → N0 κ A U) (ψ : Int32) (f : Nat → va_E) (i1 : Int32) (i2 : Int32) (z3 : Nat) (h1 : 0 ≤ i1) (h2 : i1 < i2) : Met l yJ3_checkIndex_8e157 (Cond.code yJ3_checkIndex_8e157 cJ3_checkIndex_8e157 3 (some .int) :: tC) ({ frames := 0, cells := 0, slots := 0, locals := 0 }) (va_Pc [.int i1, .int i2, .ref z3] (cB D ks τ L A N (ψ, f))) (va_Qi (fun r9 x9 => x9 = (ψ, f)) (cB D ks τ L A N) A) 0 0 A := by
  refine cMet (own := RJ3) (by decide) rfl (Nat.le_of_ble_eq_true rfl) ?_
  intro p e s m below meth c ls C9 hml hr hlk V I hNs hl
  have hx := C9.1
  have hb := C9.2.1
  have hown := C9.2.2.1
  have hts := C9.2.2.2.1
  have h0 := hN0 s hNs
  have hS : va_S A s.heap s.heap [] := va_S.rf
  have hl : lv_has ls 3 [(0, .int i1), (1, .int i2), (2, .ref z3)] := hl
  refine lv_iload_n hx hb dJ3_checkIndex_8e157_0 rfl (lv_at hl 0 rfl) ?_
  refine lv_if_lt (tgt := 9) hx hb dJ3_checkIndex_8e157_1 (by decide) (fun c1 => ?_) (fun c1 => ?_)
  · exact absurd c1 (ci_nl h1)
  · refine lv_iload_n hx hb dJ3_checkIndex_8e157_4 rfl (lv_at hl 0 rfl) ?_
    refine lv_iload_n hx hb dJ3_checkIndex_8e157_5 rfl (lv_at hl 1 rfl) ?_
    refine lv_icmp_lt (tgt := 16) hx hb dJ3_checkIndex_8e157_6 (by decide) (fun c2 => ?_) (fun c2 => ?_)
    · refine lv_iload_n hx hb dJ3_checkIndex_8e157_16 rfl (lv_at hl 0 rfl) ?_
      exact cRetI C9 hr hlk hN hNs V I hS (rfl) dJ3_checkIndex_8e157_17
    · exact absurd h2 c2
set_option maxHeartbeats 200000 in
set_option maxRecDepth 100000 in
theorem c_J0_checkIndex_df160 (l : Launch) (D : va_G) (ks : kS) (τ : Nat → Nat) (L : List Nat) (A : Nat → Prop) (N : State → Prop) (hN : cNk A N) (κ : kC) (hN0 : ∀ U, N U → N0 κ A U) (ψ : Int32) (f : Nat → va_E) (i1 : Int32) (i2 : Int32) (h1 : 0 ≤ i1) (h2 : i1 < i2) : Met l yJ0_checkIndex_df160 (Cond.code yJ0_checkIndex_df160 cJ0_checkIndex_df160 2 none :: tC) ({ frames := 1, cells := 0, slots := 0, locals := 22 }) (va_Pc [.int i1, .int i2] (cB D ks τ L A N (ψ, f))) (va_Qv (fun x9 => x9 = (ψ, f)) (cB D ks τ L A N) A) 0 0 A := by
  refine cMet (own := RJ0) (by decide) rfl (Nat.le_of_ble_eq_true rfl) ?_
  intro p e s m below meth c ls C9 hml hr hlk V I hNs hl
  have hx := C9.1
  have hb := C9.2.1
  have hown := C9.2.2.1
  have hts := C9.2.2.2.1
  have h0 := hN0 s hNs
  have hS : va_S A s.heap s.heap [] := va_S.rf
  have hl : lv_has ls 2 [(0, .int i1), (1, .int i2)] := hl
  refine lv_iload_n hx hb dJ0_checkIndex_df160_0 rfl (lv_at hl 0 rfl) ?_
  refine lv_iload_n hx hb dJ0_checkIndex_df160_1 rfl (lv_at hl 1 rfl) ?_
  refine cZf C9 h0 hS tCf_J0_1053 dJ0_checkIndex_df160_2 ?_ (fun y1 => ?_)
  · refine cGoI (cRunS (As := [.int i1, .int i2, .null]) (rest := []) C9 hml hN hNs V I hS (c_J3_checkIndex_8e157_n l D ks τ L A N hN κ hN0 ψ f i1 i2  (h1) (h2)) gS_J0_1059 okC_J3_checkIndex_8e157 ⟨rfl, rfl, Nat.le_of_ble_eq_true rfl, Nat.le_of_ble_eq_true rfl⟩ hl.1 rfl (Nat.le_of_ble_eq_true rfl) dJ0_checkIndex_df160_5 ⟨Nat.zero_le _, Nat.zero_le _⟩) hS (fun r4 p3 f2 H locs hqf2 V I hS => ?_)
    have V : cV D L f A H := by rw [show f2 = f from congrArg Prod.snd hqf2] at V; exact V
    have I : cI ks τ L ψ f := by rw [show f2 = f from congrArg Prod.snd hqf2, show p3 = ψ from congrArg Prod.fst hqf2] at I; exact I
    refine lv_pop hx hb dJ0_checkIndex_df160_8 rfl ?_
    exact cRetV C9 hr hlk hN hNs V I hS (rfl) dJ0_checkIndex_df160_9
  · refine cGoI (cRunS (As := [.int i1, .int i2, .ref y1]) (rest := []) C9 hml hN hNs V I hS (c_J3_checkIndex_8e157_r l D ks τ L A N hN κ hN0 ψ f i1 i2 y1  (h1) (h2)) gS_J0_1059 okC_J3_checkIndex_8e157 ⟨rfl, rfl, Nat.le_of_ble_eq_true rfl, Nat.le_of_ble_eq_true rfl⟩ hl.1 rfl (Nat.le_of_ble_eq_true rfl) dJ0_checkIndex_df160_5 ⟨Nat.zero_le _, Nat.zero_le _⟩) hS (fun r7 p6 f5 H locs hqf5 V I hS => ?_)
    have V : cV D L f A H := by rw [show f5 = f from congrArg Prod.snd hqf5] at V; exact V
    have I : cI ks τ L ψ f := by rw [show f5 = f from congrArg Prod.snd hqf5, show p6 = ψ from congrArg Prod.fst hqf5] at I; exact I
    refine lv_pop hx hb dJ0_checkIndex_df160_8 rfl ?_
    exact cRetV C9 hr hlk hN hNs V I hS (rfl) dJ0_checkIndex_df160_9
def FC_J1_charAt_3b067 (X : xS) (v0 : Nat) (i1 : Int32) : Int32 := gLt ((sBy.getD v0 []).getD (Int32.toNatClampNeg i1) 0 : Int32) (fun x4 => gLt ((Int32.toUInt32 (x4 &&& 255) % 65536).toInt32 : Int32) (fun x5 => (x5 : Int32)))
set_option maxHeartbeats 200000 in
set_option maxRecDepth 100000 in
theorem c_J1_charAt_3b067 (l : Launch) (D : va_G) (ks : kS) (τ : Nat → Nat) (L : List Nat) (A : Nat → Prop) (N : State → Prop) (hN : cNk A N) (κ : kC) (hN0 : ∀ U, N U → N0 κ A U) (ψ : Int32) (f : Nat → va_E) (v0 : Nat) (i1 : Int32) (t_v0 : v0 < 68) (h1 : 0 ≤ i1) (h2 : i1 < nI (sLn.getD v0 0)) : Met l yJ1_charAt_3b067 (Cond.code yJ1_charAt_3b067 cJ1_charAt_3b067 2 (some .char) :: tC) ({ frames := 2, cells := 0, slots := 0, locals := 43 }) (va_Pc [.ref (κ.2.2 v0), .int i1] (cB D ks τ L A N (ψ, f))) (va_Qi (fun r9 x9 => (x9 = (ψ, f) ∧ narrow .char (.int r9) = .int r9) ∧ r9 = FC_J1_charAt_3b067 (view f) v0 i1) (cB D ks τ L A N) A) 0 0 A := by
  refine cMet (own := RJ1) (by decide) rfl (Nat.le_of_ble_eq_true rfl) ?_
  intro p e s m below meth c ls C9 hml hr hlk V I hNs hl
  have hx := C9.1
  have hb := C9.2.1
  have hown := C9.2.2.1
  have hts := C9.2.2.2.1
  have h0 := hN0 s hNs
  have hS : va_S A s.heap s.heap [] := va_S.rf
  have hG := FC_J1_charAt_3b067.eq_1 (view f) v0 i1
  have hl : lv_has ls 2 [(0, .ref (κ.2.2 v0)), (1, .int i1)] := hl
  refine lv_iload_n hx hb dJ1_charAt_3b067_0 rfl (lv_at hl 1 rfl) ?_
  refine lv_aload_n hx hb dJ1_charAt_3b067_1 rfl (lv_at hl 0 rfl) ?_
  refine cAb t_v0 C9 h0 hS dJ1_charAt_3b067_2 ?_
  refine cGoV (cRunS (As := [.int i1, .int (nI (sLn.getD v0 0))]) (rest := []) C9 hml hN hNs V I hS (c_J0_checkIndex_df160 l D ks τ L A N hN κ hN0 ψ f i1 (nI (sLn.getD v0 0))  (h1) (h2)) gS_J1_9 okC_J0_checkIndex_df160 ⟨rfl, rfl, Nat.le_of_ble_eq_true rfl, Nat.le_of_ble_eq_true rfl⟩ hl.1 rfl (Nat.le_of_ble_eq_true rfl) dJ1_charAt_3b067_3 ⟨Nat.zero_le _, Nat.zero_le _⟩) hS (fun p2 f1 H locs hqf1 V I hS => ?_)
  have V : cV D L f A H := by rw [show f1 = f from congrArg Prod.snd hqf1] at V; exact V
  have I : cI ks τ L ψ f := by rw [show f1 = f from congrArg Prod.snd hqf1, show p2 = ψ from congrArg Prod.fst hqf1] at I; exact I
  refine lv_aload_n hx hb dJ1_charAt_3b067_6 rfl (lv_at hl 0 rfl) ?_
  refine lv_iload_n hx hb dJ1_charAt_3b067_7 rfl (lv_at hl 1 rfl) ?_
  refine cLB t_v0 C9 h0 hS (cs_in h1 h2) dJ1_charAt_3b067_8 (fun x4 ex4 => ?_)
  replace hG := gLt_e hG (ex4)
  refine lv_sipush (v := 255) hx hb dJ1_charAt_3b067_9 (by decide) ?_
  refine lv_iand hx hb dJ1_charAt_3b067_12 ?_
  refine lv_i2c hx hb dJ1_charAt_3b067_13 rfl ?_
  refine lv_topi (fun x5 ex5 => ?_)
  replace hG := gLt_e hG ex5
  exact cRetT C9 hr hlk hN hNs V I hS (by clear hG V hS hl C9 hts hown hx hb hml hr hlk h0 hN0; rw [ex5]; exact pk_nc _) (⟨⟨rfl, by rw [ex5]; exact pk_nc _⟩, hG.symm⟩) dJ1_charAt_3b067_14
def FC_J0_charAt_5068e (X : xS) (q0 : Nat) (i1 : Int32) : Int32 := gLt (FC_J0_isLatin1_aae02 X q0 : Int32) (fun r3 => if (r3 : Int32) = 0 then ((0 : Int32)) else (gLt (FC_J1_charAt_3b067 X q0 i1 : Int32) (fun r7 => (r7 : Int32))))
set_option maxHeartbeats 200000 in
set_option maxRecDepth 100000 in
theorem c_J0_charAt_5068e (l : Launch) (D : va_G) (ks : kS) (τ : Nat → Nat) (L : List Nat) (A : Nat → Prop) (N : State → Prop) (hN : cNk A N) (κ : kC) (hN0 : ∀ U, N U → N0 κ A U) (ψ : Int32) (f : Nat → va_E) (q0 : Nat) (i1 : Int32) (t_q0 : q0 < 68) (h1 : 0 ≤ i1) (h2 : i1 < nI (sLn.getD q0 0)) : Met l yJ0_charAt_5068e (Cond.code yJ0_charAt_5068e cJ0_charAt_5068e 2 (some .char) :: tC) ({ frames := 3, cells := 0, slots := 0, locals := 64 }) (va_Pc [.ref (κ.2.1 q0), .int i1] (cB D ks τ L A N (ψ, f))) (va_Qi (fun r9 x9 => (x9 = (ψ, f)) ∧ r9 = FC_J0_charAt_5068e (view f) q0 i1) (cB D ks τ L A N) A) 0 0 A := by
  refine cMet (own := RJ0) (by decide) rfl (Nat.le_of_ble_eq_true rfl) ?_
  intro p e s m below meth c ls C9 hml hr hlk V I hNs hl
  have hx := C9.1
  have hb := C9.2.1
  have hown := C9.2.2.1
  have hts := C9.2.2.2.1
  have h0 := hN0 s hNs
  have hS : va_S A s.heap s.heap [] := va_S.rf
  have hG := FC_J0_charAt_5068e.eq_1 (view f) q0 i1
  have hl : lv_has ls 2 [(0, .ref (κ.2.1 q0)), (1, .int i1)] := hl
  refine lv_aload_n hx hb dJ0_charAt_5068e_0 rfl (lv_at hl 0 rfl) ?_
  refine cGoI (cRunR (As := []) (rest := []) C9 hml hN hNs V I hS (isT_r h0 hS t_q0) (c_J0_isLatin1_aae02 l D ks τ L A N hN κ hN0 ψ f q0 t_q0 ) gC_J0_492 okC_J0_isLatin1_aae02 ⟨rfl, rfl, Nat.le_of_ble_eq_true rfl, Nat.le_of_ble_eq_true rfl⟩ hl.1 rfl (Nat.le_of_ble_eq_true rfl) dJ0_charAt_5068e_1 ⟨Nat.zero_le _, Nat.zero_le _⟩) hS (fun r3 p2 f1 H locs hqf1 V I hS => ?_)
  obtain ⟨hqf1, ghqf1⟩ := hqf1
  replace hG := gLt_e hG ghqf1
  have V : cV D L f A H := by rw [show f1 = f from congrArg Prod.snd hqf1.1] at V; exact V
  have I : cI ks τ L ψ f := by rw [show f1 = f from congrArg Prod.snd hqf1.1, show p2 = ψ from congrArg Prod.fst hqf1.1] at I; exact I
  refine lv_if_eq (tgt := 16) hx hb dJ0_charAt_5068e_4 (by decide) (fun c4 => ?_) (fun c4 => ?_)
  · exact absurd (hqf1.2 ▸ c4 : (1 : Int32) = 0) (by decide)
  · replace hG := gIf_n hG c4
    refine lv_aload_n hx hb dJ0_charAt_5068e_7 rfl (lv_at hl 0 rfl) ?_
    refine cGv t_q0 C9 h0 hS tCf_J0_9 dJ0_charAt_5068e_8 ?_
    refine lv_iload_n hx hb dJ0_charAt_5068e_11 rfl (lv_at hl 1 rfl) ?_
    refine cGoI (cRunS (As := [.ref (κ.2.2 q0), .int i1]) (rest := []) C9 hml hN hNs V I hS (c_J1_charAt_3b067 l D ks τ L A N hN κ hN0 ψ f q0 i1 t_q0 (h1) (h2)) gS_J0_495 okC_J1_charAt_3b067 ⟨rfl, rfl, Nat.le_of_ble_eq_true rfl, Nat.le_of_ble_eq_true rfl⟩ hl.1 rfl (Nat.le_of_ble_eq_true rfl) dJ0_charAt_5068e_12 ⟨Nat.zero_le _, Nat.zero_le _⟩) hS (fun r7 p6 f5 H locs hqf5 V I hS => ?_)
    obtain ⟨hqf5, ghqf5⟩ := hqf5
    replace hG := gLt_e hG ghqf5
    have V : cV D L f A H := by rw [show f5 = f from congrArg Prod.snd hqf5.1] at V; exact V
    have I : cI ks τ L ψ f := by rw [show f5 = f from congrArg Prod.snd hqf5.1, show p6 = ψ from congrArg Prod.fst hqf5.1] at I; exact I
    exact cRetT C9 hr hlk hN hNs V I hS (hqf5.2) (⟨rfl, hG.symm⟩) dJ0_charAt_5068e_15
def FC_J0_length_8abf5 (X : xS) (q0 : Nat) : Int32 := gLt (FC_J0_coder_7d493 X q0 : Int32) (fun r3 => gLt (((nI (sLn.getD q0 0)) : Int32) >>> ((r3 : Int32) &&& 31) : Int32) (fun x4 => (x4 : Int32)))
set_option maxHeartbeats 200000 in
set_option maxRecDepth 100000 in
theorem c_J0_length_8abf5 (l : Launch) (D : va_G) (ks : kS) (τ : Nat → Nat) (L : List Nat) (A : Nat → Prop) (N : State → Prop) (hN : cNk A N) (κ : kC) (hN0 : ∀ U, N U → N0 κ A U) (ψ : Int32) (f : Nat → va_E) (q0 : Nat) (t_q0 : q0 < 68) : Met l yJ0_length_8abf5 (Cond.code yJ0_length_8abf5 cJ0_length_8abf5 1 (some .int) :: tC) ({ frames := 1, cells := 0, slots := 0, locals := 20 }) (va_Pc [.ref (κ.2.1 q0)] (cB D ks τ L A N (ψ, f))) (va_Qi (fun r9 x9 => (x9 = (ψ, f) ∧ r9 = nI (sLn.getD q0 0)) ∧ r9 = FC_J0_length_8abf5 (view f) q0) (cB D ks τ L A N) A) 0 0 A := by
  refine cMet (own := RJ0) (by decide) rfl (Nat.le_of_ble_eq_true rfl) ?_
  intro p e s m below meth c ls C9 hml hr hlk V I hNs hl
  have hx := C9.1
  have hb := C9.2.1
  have hown := C9.2.2.1
  have hts := C9.2.2.2.1
  have h0 := hN0 s hNs
  have hS : va_S A s.heap s.heap [] := va_S.rf
  have hG := FC_J0_length_8abf5.eq_1 (view f) q0
  have hl : lv_has ls 1 [(0, .ref (κ.2.1 q0))] := hl
  refine lv_aload_n hx hb dJ0_length_8abf5_0 rfl (lv_at hl 0 rfl) ?_
  refine cGv t_q0 C9 h0 hS tCf_J0_9 dJ0_length_8abf5_1 ?_
  refine cAb t_q0 C9 h0 hS dJ0_length_8abf5_4 ?_
  refine lv_aload_n hx hb dJ0_length_8abf5_5 rfl (lv_at hl 0 rfl) ?_
  refine cGoI (cRunR (As := []) (rest := [.int (nI (sLn.getD q0 0))]) C9 hml hN hNs V I hS (isT_r h0 hS t_q0) (c_J0_coder_7d493 l D ks τ L A N hN κ hN0 ψ f q0 t_q0 ) gC_J0_335 okC_J0_coder_7d493 ⟨rfl, rfl, Nat.le_of_ble_eq_true rfl, Nat.le_of_ble_eq_true rfl⟩ hl.1 rfl (Nat.le_of_ble_eq_true rfl) dJ0_length_8abf5_6 ⟨Nat.zero_le _, Nat.zero_le _⟩) hS (fun r3 p2 f1 H locs hqf1 V I hS => ?_)
  obtain ⟨hqf1, ghqf1⟩ := hqf1
  replace hG := gLt_e hG ghqf1
  have V : cV D L f A H := by rw [show f1 = f from congrArg Prod.snd hqf1.1] at V; exact V
  have I : cI ks τ L ψ f := by rw [show f1 = f from congrArg Prod.snd hqf1.1, show p2 = ψ from congrArg Prod.fst hqf1.1] at I; exact I
  refine lv_ishr hx hb dJ0_length_8abf5_9 ?_
  refine lv_topi (fun x4 ex4 => ?_)
  replace hG := gLt_e hG ex4
  exact cRetI C9 hr hlk hN hNs V I hS (⟨⟨rfl, cs_len ex4 hqf1.2⟩, hG.symm⟩) dJ0_length_8abf5_10

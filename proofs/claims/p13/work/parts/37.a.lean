theorem sb_fuel {ks : kS} {τ : Nat → Nat} {L : List Nat} {ψ : Int32} {f : Nat → va_E} {a : Nat} (I : cI ks τ L ψ f) (t : ty τ L a 8) : (ψ - tAt f a).toInt.toNat < 4000 := by
  obtain ⟨v0, v1, v3, v4, v5, hf, t0, t4, hp, h0, h1⟩ := op8 I t
  rw [tAt_e hf]
  have h2 : ψ - v5 < 4000 := by clear I hf t0 t4; grind
  have h3 := Int32.lt_iff_toInt_lt.mp h2
  have h4 : (4000 : Int32).toInt = 4000 := by decide
  omega
theorem sb_a {x y n : Int32} (e : y = x + 1) (h0 : 0 ≤ x) (h : x < n) (hn : n ≤ 1600) : 0 ≤ y ∧ y ≤ 1601 := by grind
theorem sb_i {x y n a : Int32} (h : a ≤ x ∧ x ≤ n) (e : y = x + 1) (hl : x < n) : a ≤ y ∧ y ≤ n := by grind
theorem sb_m {x y n : Int32} (e : y = x + 1) (h : x < n) (h0 : 0 ≤ y) (hn : 0 ≤ n ∧ n ≤ 1600) : 0 ≤ n - y ∧ n - y < n - x := by
  have q : y ≤ n := by grind
  constructor <;> grind

def FC_X10_here (X : xS) (o0 : Nat) : Int32 := gLt (xI X o0 5 : Int32) (fun v1_5 => if (v1_5 : Int32) < 0 then (((-1) : Int32)) else (gLt (xI X o0 2 : Int32) (fun ψ => if ψ ≤ (v1_5 : Int32) then (((-1) : Int32)) else (gLt ((xR X o0 4).getD 0 : Nat) (fun v1_4 => if 1600 ≤ (v1_5 : Int32) then (((-1) : Int32)) else (gLt (xA X v1_4 v1_5 : Int32) (fun x6 => (x6 : Int32))))))))
set_option maxHeartbeats 200000 in
set_option maxRecDepth 100000 in
theorem c_X10_here (l : Launch) (D : va_G) (ks : kS) (τ : Nat → Nat) (L : List Nat) (A : Nat → Prop) (N : State → Prop) (hN : cNk A N)  (ψ : Int32) (f : Nat → va_E) (o0 : Nat) (t_o0 : ty τ L o0 8) : Met l yX10_here (Cond.code yX10_here cX10_here 1 (some .int) :: tC) ({ frames := 0, cells := 0, slots := 0, locals := 0 }) (va_Pc [.ref o0] (cB D ks τ L A N (ψ, f))) (va_Qi (fun r9 x9 => (x9 = (ψ, f) ∧ (tAt f o0 < ψ ∨ r9 = -1)) ∧ r9 = FC_X10_here (view f) o0) (cB D ks τ L A N) A) 0 0 A := by
  refine cMet (own := RX10) (by decide) rfl (Nat.le_of_ble_eq_true rfl) ?_
  intro p e s m below meth c ls C9 hml hr hlk V I hNs hl
  have hx := C9.1
  have hb := C9.2.1
  have hown := C9.2.2.1
  have hts := C9.2.2.2.1
  have hS : va_S A s.heap s.heap [] := va_S.rf
  have hG := FC_X10_here.eq_1 (view f) o0
  have hl : lv_has ls 1 [(0, .ref o0)] := hl
  refine lv_aload_n hx hb dX10_here_0 rfl (lv_at hl 0 rfl) ?_
  obtain ⟨v1_0, v1_1, v1_3, v1_4, v1_5, hf1, t1_0, t1_4, hp1, h01, h11⟩ := op8 I t_o0
  refine cG C9 V t_o0.1 hf1 rfl tC_lay8 5 (by decide) tCf_X10_26 (Or.inl rfl) rfl dX10_here_1 ?_
  replace hG := gLt_e hG (view_gI hf1 rfl)
  refine lv_if_lt (tgt := 42) hx hb dX10_here_4 (by decide) (fun c2 => ?_) (fun c2 => ?_)
  · replace hG := gIf_p hG c2
    refine lv_iconst (v := (-1)) hx hb dX10_here_42 (by decide) ?_
    exact cRetI C9 hr hlk hN hNs V I hS (⟨⟨rfl, by first | exact Or.inr rfl | exact Or.inl (by clear hG V hS hl C9 hts hown hx hb hml hr hlk; rw [tAt_e hf1]; exact ci_lt nope9)⟩, hG.symm⟩) dX10_here_43
  · replace hG := gIf_n hG c2
    refine lv_aload_n hx hb dX10_here_7 rfl (lv_at hl 0 rfl) ?_
    refine cG C9 V t_o0.1 hf1 rfl tC_lay8 5 (by decide) tCf_X10_26 (Or.inl rfl) rfl dX10_here_8 ?_
    refine lv_aload_n hx hb dX10_here_11 rfl (lv_at hl 0 rfl) ?_
    refine cG C9 V t_o0.1 hf1 rfl tC_lay8 2 (by decide) tCf_X10_23 (Or.inl rfl) rfl dX10_here_12 ?_
    replace hG := gLt_e hG (view_gI hf1 rfl)
    refine lv_icmp_ge (tgt := 42) hx hb dX10_here_15 (by decide) (fun c3 => ?_) (fun c3 => ?_)
    · replace hG := gIf_p hG c3
      refine lv_iconst (v := (-1)) hx hb dX10_here_42 (by decide) ?_
      exact cRetI C9 hr hlk hN hNs V I hS (⟨⟨rfl, by first | exact Or.inr rfl | exact Or.inl (by clear hG V hS hl C9 hts hown hx hb hml hr hlk; rw [tAt_e hf1]; exact ci_lt c3)⟩, hG.symm⟩) dX10_here_43
    · replace hG := gIf_n hG c3
      refine lv_aload_n hx hb dX10_here_18 rfl (lv_at hl 0 rfl) ?_
      refine cG C9 V t_o0.1 hf1 rfl tC_lay8 5 (by decide) tCf_X10_26 (Or.inl rfl) rfl dX10_here_19 ?_
      refine lv_aload_n hx hb dX10_here_22 rfl (lv_at hl 0 rfl) ?_
      refine cG C9 V t_o0.1 hf1 rfl tC_lay8 4 (by decide) tCf_X10_19 (Or.inl rfl) rfl dX10_here_23 ?_
      replace hG := gLt_e hG (view_gR hf1 rfl)
      obtain ⟨g4, hf4⟩ := op11 I t1_4
      refine cAl (t0 := 0) (v := 1600) C9 V t1_4.1 hf4 rfl (by first | rfl | decide) dX10_here_26 ?_
      refine lv_icmp_ge (tgt := 42) hx hb dX10_here_27 (by decide) (fun c5 => ?_) (fun c5 => ?_)
      · replace hG := gIf_p hG c5
        refine lv_iconst (v := (-1)) hx hb dX10_here_42 (by decide) ?_
        exact cRetI C9 hr hlk hN hNs V I hS (⟨⟨rfl, by first | exact Or.inr rfl | exact Or.inl (by clear hG V hS hl C9 hts hown hx hb hml hr hlk; rw [tAt_e hf1]; exact ci_lt c3)⟩, hG.symm⟩) dX10_here_43
      · replace hG := gIf_n hG c5
        refine lv_aload_n hx hb dX10_here_30 rfl (lv_at hl 0 rfl) ?_
        refine cG C9 V t_o0.1 hf1 rfl tC_lay8 4 (by decide) tCf_X10_19 (Or.inl rfl) rfl dX10_here_31 ?_
        refine lv_aload_n hx hb dX10_here_34 rfl (lv_at hl 0 rfl) ?_
        refine cG C9 V t_o0.1 hf1 rfl tC_lay8 5 (by decide) tCf_X10_26 (Or.inl rfl) rfl dX10_here_35 ?_
        refine cLb C9 V t1_4.1 hf4 (cvin (N := 1600) rfl (ci_le c2) (ci_lt c5)) dX10_here_38 ?_
        refine lv_topi (fun x6 ex6 => ?_)
        replace hG := gLt_e hG (ex6.trans (view_gA hf4))
        refine lv_goto (tgt := 43) hx hb dX10_here_39 (by decide) ?_
        exact cRetI C9 hr hlk hN hNs V I hS (⟨⟨rfl, by first | exact Or.inr rfl | exact Or.inl (by clear hG V hS hl C9 hts hown hx hb hml hr hlk; rw [tAt_e hf1]; exact ci_lt c3)⟩, hG.symm⟩) dX10_here_43
def FC_X10_store (X : xS) (o0 : Nat) (i1 : Int32) (i2 : Int32) : xS := if (i1 : Int32) < 0 then (X) else (gLt ((xR X o0 0).getD 0 : Nat) (fun v2_0 => if 240 ≤ (i1 : Int32) then (X) else (gLt (xwA X v2_0 i1 (i2) : xS) (fun Xf5 => Xf5))))
set_option maxHeartbeats 200000 in
set_option maxRecDepth 100000 in
theorem c_X10_store (l : Launch) (D : va_G) (ks : kS) (τ : Nat → Nat) (L : List Nat) (A : Nat → Prop) (N : State → Prop) (hN : cNk A N)  (ψ : Int32) (f : Nat → va_E) (o0 : Nat) (i1 : Int32) (i2 : Int32) (t_o0 : ty τ L o0 8) : Met l yX10_store (Cond.code yX10_store cX10_store 3 none :: tC) ({ frames := 0, cells := 0, slots := 0, locals := 0 }) (va_Pc [.ref o0, .int i1, .int i2] (cB D ks τ L A N (ψ, f))) (va_Qv (fun x9 => (x9.1 = ψ ∧ tAt x9.2 o0 = tAt f o0) ∧ view x9.2 = FC_X10_store (view f) o0 i1 i2) (cB D ks τ L A N) A) 0 0 A := by
  refine cMet (own := RX10) (by decide) rfl (Nat.le_of_ble_eq_true rfl) ?_
  intro p e s m below meth c ls C9 hml hr hlk V I hNs hl
  have hx := C9.1
  have hb := C9.2.1
  have hown := C9.2.2.1
  have hts := C9.2.2.2.1
  have hS : va_S A s.heap s.heap [] := va_S.rf
  have hG := FC_X10_store.eq_1 (view f) o0 i1 i2
  have hl : lv_has ls 3 [(0, .ref o0), (1, .int i1), (2, .int i2)] := hl
  refine lv_iload_n hx hb dX10_store_0 rfl (lv_at hl 1 rfl) ?_
  refine lv_if_lt (tgt := 20) hx hb dX10_store_1 (by decide) (fun c1 => ?_) (fun c1 => ?_)
  · replace hG := gIf_p hG c1
    exact cRetV C9 hr hlk hN hNs V I hS (⟨⟨rfl, by first | rfl | rw [tAt_e nope9, tAt_e nope9]⟩, hG.symm⟩) dX10_store_20
  · replace hG := gIf_n hG c1
    refine lv_iload_n hx hb dX10_store_4 rfl (lv_at hl 1 rfl) ?_
    refine lv_aload_n hx hb dX10_store_5 rfl (lv_at hl 0 rfl) ?_
    obtain ⟨v2_0, v2_1, v2_3, v2_4, v2_5, hf2, t2_0, t2_4, hp2, h02, h12⟩ := op8 I t_o0
    refine cG C9 V t_o0.1 hf2 rfl tC_lay8 0 (by decide) tCf_X10_9 (Or.inl rfl) rfl dX10_store_6 ?_
    replace hG := gLt_e hG (view_gR hf2 rfl)
    obtain ⟨g3, hf3⟩ := op12 I t2_0
    refine cAl (t0 := 1) (v := 240) C9 V t2_0.1 hf3 rfl (by first | rfl | decide) dX10_store_9 ?_
    refine lv_icmp_ge (tgt := 20) hx hb dX10_store_10 (by decide) (fun c4 => ?_) (fun c4 => ?_)
    · replace hG := gIf_p hG c4
      exact cRetV C9 hr hlk hN hNs V I hS (⟨⟨rfl, by first | rfl | rw [tAt_e hf2, tAt_e hf2]⟩, hG.symm⟩) dX10_store_20
    · replace hG := gIf_n hG c4
      refine lv_aload_n hx hb dX10_store_13 rfl (lv_at hl 0 rfl) ?_
      refine cG C9 V t_o0.1 hf2 rfl tC_lay8 0 (by decide) tCf_X10_9 (Or.inl rfl) rfl dX10_store_14 ?_
      refine lv_iload_n hx hb dX10_store_17 rfl (lv_at hl 1 rfl) ?_
      refine lv_iload_n hx hb dX10_store_18 rfl (lv_at hl 2 rfl) ?_
      refine cSi C9 V hS t2_0.1 hf3 (cvin (N := 240) rfl (ci_le c1) (ci_lt c4)) dX10_store_19 (fun f5 H locs ef5 V hS => ?_)
      replace hG := gLt_e hG (view_A hf3 ef5)
      obtain ⟨g6, eg6⟩ : ∃ z, z = upd g3 (Int32.toNatClampNeg i1) (i2) := ⟨_, rfl⟩
      rw [← eg6] at ef5
      have hf7 := up_s ef5
      have I := cI_up I t2_0.2 ef5 (mk12)
      have hf8 := up_n ef5 t2_0.2 t_o0.2 (by first | decide | omega) hf2
      exact cRetV C9 hr hlk hN hNs V I hS (⟨⟨rfl, by first | rfl | rw [tAt_e hf8, tAt_e hf2]⟩, hG.symm⟩) dX10_store_20
def FC_X10_broken (X : xS) (o0 : Nat) (i1 : Int32) : Int32 × xS := gLt (xwI X o0 3 i1 : xS) (fun Xf2 => ((0 : Int32), Xf2))
set_option maxHeartbeats 200000 in
set_option maxRecDepth 100000 in
theorem c_X10_broken (l : Launch) (D : va_G) (ks : kS) (τ : Nat → Nat) (L : List Nat) (A : Nat → Prop) (N : State → Prop) (hN : cNk A N)  (ψ : Int32) (f : Nat → va_E) (o0 : Nat) (i1 : Int32) (t_o0 : ty τ L o0 8) : Met l yX10_broken (Cond.code yX10_broken cX10_broken 2 (some .boolean) :: tC) ({ frames := 0, cells := 0, slots := 0, locals := 0 }) (va_Pc [.ref o0, .int i1] (cB D ks τ L A N (ψ, f))) (va_Qi (fun r9 x9 => (x9.1 = ψ ∧ tAt x9.2 o0 = tAt f o0 ∧ r9 = 0) ∧ (r9, view x9.2) = FC_X10_broken (view f) o0 i1) (cB D ks τ L A N) A) 0 0 A := by
  refine cMet (own := RX10) (by decide) rfl (Nat.le_of_ble_eq_true rfl) ?_
  intro p e s m below meth c ls C9 hml hr hlk V I hNs hl
  have hx := C9.1
  have hb := C9.2.1
  have hown := C9.2.2.1
  have hts := C9.2.2.2.1
  have hS : va_S A s.heap s.heap [] := va_S.rf
  have hG := FC_X10_broken.eq_1 (view f) o0 i1
  have hl : lv_has ls 2 [(0, .ref o0), (1, .int i1)] := hl
  refine lv_aload_n hx hb dX10_broken_0 rfl (lv_at hl 0 rfl) ?_
  refine lv_iload_n hx hb dX10_broken_1 rfl (lv_at hl 1 rfl) ?_
  obtain ⟨v1_0, v1_1, v1_3, v1_4, v1_5, hf1, t1_0, t1_4, hp1, h01, h11⟩ := op8 I t_o0
  refine cP (v := .int i1) (ty := .int) C9 V hS t_o0.1 hf1 rfl tC_lay8 tyX10 tyX10_ok nmX10 3 (by decide) tCf_X10_15 rfl rfl (by decide +kernel) rfl rfl (Nat.le_of_ble_eq_true rfl) dX10_broken_2 (fun f2 H locs ef2 V hS => ?_)
  replace hG := gLt_e hG (view_I hf1 rfl ef2)
  have hf3 : f2 o0 = .inr (8, [.ref v1_0, .int v1_1, .int ψ, .int i1, .ref v1_4, .int v1_5]) := up_s ef2
  have I := cI_up I t_o0.2 ef2 (mk8 t1_0 t1_4 hp1 h01 h11)
  refine lv_iconst (v := 0) hx hb dX10_broken_5 (by decide) ?_
  exact cRetZ C9 hr hlk hN hNs V I hS (by clear hG V hS hl C9 hts hown hx hb hml hr hlk; first | rfl | decide | (subst_vars; rfl)) (⟨⟨rfl, (by clear hG V hS hl C9 hts hown hx hb hml hr hlk; first | rfl | rw [tAt_e hf3, tAt_e hf1]), rfl⟩, hG.symm⟩) dX10_broken_6
def FC_X10_skipBlanks_L0 (o0 : Nat) : Nat → xS → xS
  | 0, XGf0 => XGf0
  | N9_0 + 1, XGf0 => gLt (xI XGf0 o0 5 : Int32) (fun v1_5 => gLt (xI XGf0 o0 2 : Int32) (fun ψ => if ψ ≤ (v1_5 : Int32) then (XGf0) else (gLt (FC_X10_here XGf0 o0 : Int32) (fun r5 => if (r5 : Int32) = 32 then (gLt ((v1_5 + 1) : Int32) (fun x7 => gLt (xwI XGf0 o0 5 x7 : xS) (fun Xf8 => FC_X10_skipBlanks_L0 o0 N9_0  Xf8))) else (XGf0)))))
def FC_X10_skipBlanks (X : xS) (o0 : Nat) : xS := FC_X10_skipBlanks_L0 o0 (4000)  X
set_option maxHeartbeats 200000 in
set_option maxRecDepth 100000 in
theorem c_X10_skipBlanks (l : Launch) (D : va_G) (ks : kS) (τ : Nat → Nat) (L : List Nat) (A : Nat → Prop) (N : State → Prop) (hN : cNk A N)  (ψ : Int32) (f : Nat → va_E) (o0 : Nat) (t_o0 : ty τ L o0 8) (h1 : tAt f o0 ≤ ψ) : Met l yX10_skipBlanks (Cond.code yX10_skipBlanks cX10_skipBlanks 1 none :: tC) ({ frames := 1, cells := 0, slots := 0, locals := 20 }) (va_Pc [.ref o0] (cB D ks τ L A N (ψ, f))) (va_Qv (fun x9 => (x9.1 = ψ ∧ tAt f o0 ≤ tAt x9.2 o0 ∧ tAt x9.2 o0 ≤ ψ) ∧ view x9.2 = FC_X10_skipBlanks (view f) o0) (cB D ks τ L A N) A) 0 0 A := by
  refine cMet (own := RX10) (by decide) rfl (Nat.le_of_ble_eq_true rfl) ?_
  intro p e s m below meth c ls C9 hml hr hlk V I hNs hl
  have hx := C9.1
  have hb := C9.2.1
  have hown := C9.2.2.1
  have hts := C9.2.2.2.1
  have hS : va_S A s.heap s.heap [] := va_S.rf
  have hG := FC_X10_skipBlanks.eq_1 (view f) o0
  have hl : lv_has ls 1 [(0, .ref o0)] := hl
  have loop0 : ∀ (N9_0 : Nat)   (Gf0 : Nat → va_E) (H : Heap) (locs : List Loc) (ls : Array Slot), cI ks τ L ψ Gf0 → (tAt f o0 ≤ tAt Gf0 o0 ∧ tAt Gf0 o0 ≤ ψ) → ((ψ - tAt Gf0 o0).toInt.toNat) < N9_0 → (FC_X10_skipBlanks (view f) o0 = FC_X10_skipBlanks_L0 o0 N9_0  (view Gf0)) → cV D L Gf0 A H → va_S A s.heap H locs → lv_has ls 1 [(0, .ref o0)] → W p l e ({ frames := 1, cells := 0, slots := 0, locals := 20 } : Room) s m ([.ref o0] : List Value).toArray below meth c H locs 0 0 (MQ below (va_Qv (fun x9 => (x9.1 = ψ ∧ tAt f o0 ≤ tAt x9.2 o0 ∧ tAt x9.2 o0 ≤ ψ) ∧ view x9.2 = FC_X10_skipBlanks (view f) o0) (cB D ks τ L A N) A) ([.ref o0] : List Value).toArray s 0 0 A) (F0 m 0 ls []) := by
    intro N9_0
    induction N9_0 with
    | zero => intro   Gf0 H locs ls I hi0 hm0; exact absurd hm0 (Nat.not_lt_zero _)
    | succ N9_0 ih0 =>
      intro   Gf0 H locs ls I hi0 hm0 hG V hS hl
      rw [FC_X10_skipBlanks_L0] at hG
      refine lv_aload_n hx hb dX10_skipBlanks_0 rfl (lv_at hl 0 rfl) ?_
      obtain ⟨v1_0, v1_1, v1_3, v1_4, v1_5, hf1, t1_0, t1_4, hp1, h01, h11⟩ := op8 I t_o0
      refine cG C9 V t_o0.1 hf1 rfl tC_lay8 5 (by decide) tCf_X10_26 (Or.inl rfl) rfl dX10_skipBlanks_1 ?_
      replace hG := gLt_e hG (view_gI hf1 rfl)
      refine lv_aload_n hx hb dX10_skipBlanks_4 rfl (lv_at hl 0 rfl) ?_
      refine cG C9 V t_o0.1 hf1 rfl tC_lay8 2 (by decide) tCf_X10_23 (Or.inl rfl) rfl dX10_skipBlanks_5 ?_
      replace hG := gLt_e hG (view_gI hf1 rfl)
      refine lv_icmp_ge (tgt := 33) hx hb dX10_skipBlanks_8 (by decide) (fun c2 => ?_) (fun c2 => ?_)
      · replace hG := gIf_p hG c2
        exact cRetV C9 hr hlk hN hNs V I hS (⟨⟨rfl, hi0⟩, hG.symm⟩) dX10_skipBlanks_33
      · replace hG := gIf_n hG c2
        refine lv_aload_n hx hb dX10_skipBlanks_11 rfl (lv_at hl 0 rfl) ?_
        refine cGoI (cRunV (As := []) (rest := []) C9 hml hN hNs V I hS t_o0.1 hf1 rfl (c_X10_here l D ks τ L A N hN  ψ Gf0 o0 t_o0 ) gC_X10_39 okC_X10_here ⟨rfl, rfl, Nat.le_of_ble_eq_true rfl, Nat.le_of_ble_eq_true rfl⟩ hl.1 rfl (Nat.le_of_ble_eq_true rfl) dX10_skipBlanks_12 ⟨Nat.zero_le _, Nat.zero_le _⟩) hS (fun r5 p4 f3 H locs hqf3 V I hS => ?_)
        obtain ⟨hqf3, ghqf3⟩ := hqf3
        replace hG := gLt_e hG ghqf3
        have V : cV D L Gf0 A H := by rw [show f3 = Gf0 from congrArg Prod.snd hqf3.1] at V; exact V
        have I : cI ks τ L ψ Gf0 := by rw [show f3 = Gf0 from congrArg Prod.snd hqf3.1, show p4 = ψ from congrArg Prod.fst hqf3.1] at I; exact I
        refine lv_bipush (v := 32) hx hb dX10_skipBlanks_15 (by decide) ?_
        refine lv_icmp_ne (tgt := 33) hx hb dX10_skipBlanks_17 (by decide) (fun c6 => ?_) (fun c6 => ?_)
        · replace hG := gIf_n hG c6
          exact cRetV C9 hr hlk hN hNs V I hS (⟨⟨rfl, hi0⟩, hG.symm⟩) dX10_skipBlanks_33
        · replace hG := gIf_p hG c6
          refine lv_aload_n hx hb dX10_skipBlanks_20 rfl (lv_at hl 0 rfl) ?_
          refine lv_dup hx hb dX10_skipBlanks_21 rfl ?_
          refine cG C9 V t_o0.1 hf1 rfl tC_lay8 5 (by decide) tCf_X10_26 (Or.inl rfl) rfl dX10_skipBlanks_22 ?_
          refine lv_iconst (v := 1) hx hb dX10_skipBlanks_25 (by decide) ?_
          refine lv_iadd hx hb dX10_skipBlanks_26 ?_
          refine lv_topi (fun x7 ex7 => ?_)
          replace hG := gLt_e hG ex7
          refine cP (v := .int x7) (ty := .int) C9 V hS t_o0.1 hf1 rfl tC_lay8 tyX10 tyX10_ok nmX10 5 (by decide) tCf_X10_26 rfl rfl (by decide +kernel) rfl rfl (Nat.le_of_ble_eq_true rfl) dX10_skipBlanks_27 (fun f8 H locs ef8 V hS => ?_)
          replace hG := gLt_e hG (view_I hf1 rfl ef8)
          have hf9 : f8 o0 = .inr (8, [.ref v1_0, .int v1_1, .int ψ, .int v1_3, .ref v1_4, .int x7]) := up_s ef8
          have hh10 := sb_a ex7 h01 (ci_lt c2) hp1.2
          have h010 := hh10.1
          have h110 := hh10.2
          have hp10 := hp1
          have I := cI_up I t_o0.2 ef8 (mk8 t1_0 t1_4 hp10 h010 h110)
          refine lv_goto (tgt := 0) hx hb dX10_skipBlanks_30 (by decide) ?_
          exact ih0   f8 _ _ _ I (by clear hG V hS hl C9 hts hown hx hb hml hr hlk; rw [tAt_e hf9]; have z9 := hi0; rw [tAt_e hf1] at z9; exact sb_i z9 ex7 (ci_lt c2)) (show _ < _ from by have z9 := hm0; rw [tAt_e hf1] at z9; rw [tAt_e hf9]; exact cmsd z9 (sb_m ex7 (ci_lt c2) h010 hp10).1 (sb_m ex7 (ci_lt c2) h010 hp10).2) hG V hS (lv_sub hl [0] rfl)
  exact loop0 (4000)   f _ _ _ I (⟨Int32.le_refl _, h1⟩) (sb_fuel I t_o0) hG V hS (lv_sub hl [0] rfl)

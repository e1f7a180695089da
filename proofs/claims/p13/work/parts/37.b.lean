theorem ap_s {x y a P P1 : Int32} (h : ((x = 24 ∧ P = a) ∨ (x = 16 ∧ P = a + 1) ∨ (x = 8 ∧ P = a + 2) ∨ (x = 0 ∧ P = a + 3) ∨ (x = -8 ∧ P = a + 4))) (e : y = x + (-8)) (e1 : P1 = P + 1) (h0 : 0 ≤ x) : ((y = 24 ∧ P1 = a) ∨ (y = 16 ∧ P1 = a + 1) ∨ (y = 8 ∧ P1 = a + 2) ∨ (y = 0 ∧ P1 = a + 3) ∨ (y = -8 ∧ P1 = a + 4)) := by
  subst e e1
  rcases h with ⟨q, r⟩ | ⟨q, r⟩ | ⟨q, r⟩ | ⟨q, r⟩ | ⟨q, r⟩ <;> subst q <;> subst r
  · exact Or.inr (Or.inl ⟨by decide, rfl⟩)
  · exact Or.inr (Or.inr (Or.inl ⟨by decide, by rw [Int32.add_assoc]; rfl⟩))
  · exact Or.inr (Or.inr (Or.inr (Or.inl ⟨by decide, by rw [Int32.add_assoc]; rfl⟩)))
  · exact Or.inr (Or.inr (Or.inr (Or.inr ⟨by decide, by rw [Int32.add_assoc]; rfl⟩)))
  · exact absurd h0 (by decide)
theorem ap_m {x y a P : Int32} (h : ((x = 24 ∧ P = a) ∨ (x = 16 ∧ P = a + 1) ∨ (x = 8 ∧ P = a + 2) ∨ (x = 0 ∧ P = a + 3) ∨ (x = -8 ∧ P = a + 4))) (e : y = x + (-8)) (h0 : 0 ≤ x) : 0 ≤ y + 8 ∧ y + 8 < x + 8 := by
  subst e
  rcases h with ⟨q, -⟩ | ⟨q, -⟩ | ⟨q, -⟩ | ⟨q, -⟩ | ⟨q, -⟩ <;> subst q <;> first | decide | exact absurd h0 (by decide)
theorem ap_l {x P : Int32} (e : x = P + 1) (h : 0 ≤ P ∧ P ≤ 1600) (hl : P < 1600) : 0 ≤ x ∧ x ≤ 1600 := by grind
theorem ap_e {x a P : Int32} (h : ((x = 24 ∧ P = a) ∨ (x = 16 ∧ P = a + 1) ∨ (x = 8 ∧ P = a + 2) ∨ (x = 0 ∧ P = a + 3) ∨ (x = -8 ∧ P = a + 4))) (h0 : x < 0) : P = a + 4 := by
  rcases h with ⟨q, r⟩ | ⟨q, r⟩ | ⟨q, r⟩ | ⟨q, r⟩ | ⟨q, r⟩
  · subst q; exact absurd h0 (by decide)
  · subst q; exact absurd h0 (by decide)
  · subst q; exact absurd h0 (by decide)
  · subst q; exact absurd h0 (by decide)
  · exact r
theorem ap_x {x a P : Int32} (h : ((x = 24 ∧ P = a) ∨ (x = 16 ∧ P = a + 1) ∨ (x = 8 ∧ P = a + 2) ∨ (x = 0 ∧ P = a + 3) ∨ (x = -8 ∧ P = a + 4))) (ha : 0 ≤ a ∧ a ≤ 1596) (h0 : 0 ≤ x) (hl : 1600 ≤ P) : False := by
  rcases h with ⟨q, r⟩ | ⟨q, r⟩ | ⟨q, r⟩ | ⟨q, r⟩ | ⟨q, r⟩ <;> subst r
  · clear h0 q; grind
  · clear h0 q; grind
  · clear h0 q; grind
  · clear h0 q; grind
  · subst q; exact absurd h0 (by decide)

def FC_X10_append_L3 (o0 : Nat) (i1 : Int32) : Nat → Int32 → xS → xS
  | 0, w3_2, XGf3 => XGf3
  | N9_3 + 1, w3_2, XGf3 => if (w3_2 : Int32) < 0 then (XGf3) else (gLt (xI XGf3 o0 2 : Int32) (fun P9_3 => gLt ((xR XGf3 o0 4).getD 0 : Nat) (fun v3_4 => if 1600 ≤ (P9_3 : Int32) then (XGf3) else (gLt (((i1 : Int32).toUInt32 >>> ((w3_2 : Int32).toUInt32 &&& Int32.toUInt32 31)).toInt32 : Int32) (fun x6 => gLt (Int8.toInt32 (Int32.toInt8 x6) : Int32) (fun x7 => gLt (xwA XGf3 v3_4 P9_3 (vp_nar .byte x7) : xS) (fun Xf8 => gLt ((P9_3 + 1) : Int32) (fun x12 => gLt (xwI Xf8 o0 2 x12 : xS) (fun Xf13 => gLt (w3_2 + (-8) : Int32) (fun x17 => FC_X10_append_L3 o0 i1 N9_3 x17 Xf13))))))))))
def FC_X10_append (X : xS) (o0 : Nat) (i1 : Int32) : xS := gLt (24 : Int32) (fun x1 => FC_X10_append_L3 o0 i1 ((x1 + 8).toInt.toNat + 1) x1 X)
set_option maxHeartbeats 200000 in
set_option maxRecDepth 100000 in
theorem c_X10_append (l : Launch) (D : va_G) (ks : kS) (τ : Nat → Nat) (L : List Nat) (A : Nat → Prop) (N : State → Prop) (hN : cNk A N)  (ψ : Int32) (f : Nat → va_E) (o0 : Nat) (i1 : Int32) (t_o0 : ty τ L o0 8) (hu : ∀ b, b ∈ L → τ b = 8 → b = o0) (h1 : 0 ≤ ψ ∧ ψ ≤ 1596) : Met l yX10_append (Cond.code yX10_append cX10_append 3 none :: tC) ({ frames := 0, cells := 0, slots := 0, locals := 0 }) (va_Pc [.ref o0, .int i1] (cB D ks τ L A N (ψ, f))) (va_Qv (fun x9 => (x9.1 = ψ + 4) ∧ view x9.2 = FC_X10_append (view f) o0 i1) (cB D ks τ L A N) A) 0 0 A := by
  refine cMet (own := RX10) (by decide) rfl (Nat.le_of_ble_eq_true rfl) ?_
  intro p e s m below meth c ls C9 hml hr hlk V I hNs hl
  have hx := C9.1
  have hb := C9.2.1
  have hown := C9.2.2.1
  have hts := C9.2.2.2.1
  have hS : va_S A s.heap s.heap [] := va_S.rf
  have hG := FC_X10_append.eq_1 (view f) o0 i1
  have hl : lv_has ls 3 [(0, .ref o0), (1, .int i1)] := hl
  refine lv_bipush (v := 24) hx hb dX10_append_0 (by decide) ?_
  refine lv_topi (fun x1 ex1 => ?_)
  replace hG := gLt_e hG ex1
  refine lv_istore_n (lv' := [(2, .int x1), (0, .ref o0), (1, .int i1)]) hx hb dX10_append_2 rfl hl (by decide) rfl (fun ls hl => ?_)
  have loop3 : ∀ (N9_3 : Nat) (w3_2 : Int32) (P9_3 : Int32) (Gf3 : Nat → va_E) (H : Heap) (locs : List Loc) (ls : Array Slot), cI ks τ L P9_3 Gf3 → (((w3_2 = 24 ∧ P9_3 = ψ) ∨ (w3_2 = 16 ∧ P9_3 = ψ + 1) ∨ (w3_2 = 8 ∧ P9_3 = ψ + 2) ∨ (w3_2 = 0 ∧ P9_3 = ψ + 3) ∨ (w3_2 = -8 ∧ P9_3 = ψ + 4))) → ((w3_2 + 8).toInt.toNat) < N9_3 → (FC_X10_append (view f) o0 i1 = FC_X10_append_L3 o0 i1 N9_3 w3_2 (view Gf3)) → cV D L Gf3 A H → va_S A s.heap H locs → lv_has ls 3 [(0, .ref o0), (1, .int i1), (2, .int w3_2)] → W p l e ({ frames := 0, cells := 0, slots := 0, locals := 0 } : Room) s m ([.ref o0, .int i1] : List Value).toArray below meth c H locs 0 0 (MQ below (va_Qv (fun x9 => (x9.1 = ψ + 4) ∧ view x9.2 = FC_X10_append (view f) o0 i1) (cB D ks τ L A N) A) ([.ref o0, .int i1] : List Value).toArray s 0 0 A) (F0 m 3 ls []) := by
    intro N9_3
    induction N9_3 with
    | zero => intro w3_2 P9_3 Gf3 H locs ls I hi3 hm3; exact absurd hm3 (Nat.not_lt_zero _)
    | succ N9_3 ih3 =>
      intro w3_2 P9_3 Gf3 H locs ls I hi3 hm3 hG V hS hl
      rw [FC_X10_append_L3] at hG
      refine lv_iload_n hx hb dX10_append_3 rfl (lv_at hl 2 rfl) ?_
      refine lv_if_lt (tgt := 48) hx hb dX10_append_4 (by decide) (fun c2 => ?_) (fun c2 => ?_)
      · replace hG := gIf_p hG c2
        exact cRetV C9 hr hlk hN hNs V I hS (⟨by clear hG V hS hl C9 hts hown hx hb hml hr hlk; first | exact ap_e hi3 c2 | exact (ap_x hi3 h1 (ci_le c2) nope9).elim, hG.symm⟩) dX10_append_48
      · replace hG := gIf_n hG c2
        refine lv_aload_n hx hb dX10_append_7 rfl (lv_at hl 0 rfl) ?_
        obtain ⟨v3_0, v3_1, v3_3, v3_4, v3_5, hf3, t3_0, t3_4, hp3, h03, h13⟩ := op8 I t_o0
        refine cG C9 V t_o0.1 hf3 rfl tC_lay8 2 (by decide) tCf_X10_23 (Or.inl rfl) rfl dX10_append_8 ?_
        replace hG := gLt_e hG (view_gI hf3 rfl)
        refine lv_aload_n hx hb dX10_append_11 rfl (lv_at hl 0 rfl) ?_
        refine cG C9 V t_o0.1 hf3 rfl tC_lay8 4 (by decide) tCf_X10_19 (Or.inl rfl) rfl dX10_append_12 ?_
        replace hG := gLt_e hG (view_gR hf3 rfl)
        obtain ⟨g4, hf4⟩ := op11 I t3_4
        refine cAl (t0 := 0) (v := 1600) C9 V t3_4.1 hf4 rfl (by first | rfl | decide) dX10_append_15 ?_
        refine lv_icmp_ge (tgt := 48) hx hb dX10_append_16 (by decide) (fun c5 => ?_) (fun c5 => ?_)
        · replace hG := gIf_p hG c5
          exact cRetV C9 hr hlk hN hNs V I hS (⟨by clear hG V hS hl C9 hts hown hx hb hml hr hlk; first | exact ap_e hi3 c2 | exact (ap_x hi3 h1 (ci_le c2) c5).elim, hG.symm⟩) dX10_append_48
        · replace hG := gIf_n hG c5
          refine lv_aload_n hx hb dX10_append_19 rfl (lv_at hl 0 rfl) ?_
          refine cG C9 V t_o0.1 hf3 rfl tC_lay8 4 (by decide) tCf_X10_19 (Or.inl rfl) rfl dX10_append_20 ?_
          refine lv_aload_n hx hb dX10_append_23 rfl (lv_at hl 0 rfl) ?_
          refine cG C9 V t_o0.1 hf3 rfl tC_lay8 2 (by decide) tCf_X10_23 (Or.inl rfl) rfl dX10_append_24 ?_
          refine lv_iload_n hx hb dX10_append_27 rfl (lv_at hl 1 rfl) ?_
          refine lv_iload_n hx hb dX10_append_28 rfl (lv_at hl 2 rfl) ?_
          refine lv_iushr hx hb dX10_append_29 rfl ?_
          refine lv_topi (fun x6 ex6 => ?_)
          replace hG := gLt_e hG ex6
          refine lv_i2b hx hb dX10_append_30 rfl ?_
          refine lv_topi (fun x7 ex7 => ?_)
          replace hG := gLt_e hG ex7
          refine cSb C9 V hS t3_4.1 hf4 (cvin (N := 1600) rfl (hp3.1) (ci_lt c5)) dX10_append_31 (fun f8 H locs ef8 V hS => ?_)
          replace hG := gLt_e hG (view_A hf4 ef8)
          obtain ⟨g9, eg9⟩ : ∃ z, z = upd g4 (Int32.toNatClampNeg P9_3) (vp_nar .byte x7) := ⟨_, rfl⟩
          rw [← eg9] at ef8
          have hf10 := up_s ef8
          have I := cI_up I t3_4.2 ef8 (mk11)
          have hf11 := up_n ef8 t3_4.2 t_o0.2 (by first | decide | omega) hf3
          refine lv_aload_n hx hb dX10_append_32 rfl (lv_at hl 0 rfl) ?_
          refine lv_dup hx hb dX10_append_33 rfl ?_
          refine cG C9 V t_o0.1 hf11 rfl tC_lay8 2 (by decide) tCf_X10_23 (Or.inl rfl) rfl dX10_append_34 ?_
          refine lv_iconst (v := 1) hx hb dX10_append_37 (by decide) ?_
          refine lv_iadd hx hb dX10_append_38 ?_
          refine lv_topi (fun x12 ex12 => ?_)
          replace hG := gLt_e hG ex12
          refine cP (v := .int x12) (ty := .int) C9 V hS t_o0.1 hf11 rfl tC_lay8 tyX10 tyX10_ok nmX10 2 (by decide) tCf_X10_23 rfl rfl (by decide +kernel) rfl rfl (Nat.le_of_ble_eq_true rfl) dX10_append_39 (fun f13 H locs ef13 V hS => ?_)
          replace hG := gLt_e hG (view_I hf11 rfl ef13)
          have hf14 : f13 o0 = .inr (8, [.ref v3_0, .int v3_1, .int x12, .int v3_3, .ref v3_4, .int v3_5]) := up_s ef13
          have hp9 := ap_l ex12 hp3 (ci_lt c5)
          have I := cI_len I hu t_o0.2 ef13 (mk8 t3_0 t3_4 hp9 h03 h13)
          have hp15 := hp9
          have h015 := h03
          have h115 := h13
          have hf16 := up_n ef13 t_o0.2 t3_4.2 (by first | decide | omega) hf10
          obtain ⟨x17, ex17⟩ : ∃ y : Int32, y = w3_2 + (-8) := ⟨_, rfl⟩
          replace hG := gLt_e hG ex17
          refine lv_iinc (v := x17) (lv' := [(2, .int x17), (0, .ref o0), (1, .int i1)]) hx hb dX10_append_42 hl (k := 2) rfl (by rw [ex17]; rfl) (by decide) rfl (fun ls hl => ?_)
          refine lv_goto (tgt := 3) hx hb dX10_append_45 (by decide) ?_
          exact ih3 x17 x12 f13 _ _ _ I (ap_s hi3 ex17 ex12 (ci_le c2)) (cmsd hm3 (ap_m hi3 ex17 (ci_le c2)).1 (ap_m hi3 ex17 (ci_le c2)).2) hG V hS (lv_sub hl [1, 2, 0] rfl)
  exact loop3 ((x1 + 8).toInt.toNat + 1) x1 ψ f _ _ _ I (by clear hG V hS hl C9 hts hown hx hb hml hr hlk; subst_vars; exact Or.inl ⟨rfl, rfl⟩) (Nat.lt_succ_self _) hG V hS (lv_sub hl [1, 2, 0] rfl)

theorem hr_q {f : Nat → va_E} {a cd by9 : Nat} {sz ln pl at9 ψ r : Int32} (h : f a = .inr (8, [.ref cd, .int sz, .int ln, .int pl, .ref by9, .int at9])) (q : tAt f a < ψ ∨ r = -1) (hr : ¬ r = -1) : at9 < ψ := by
  rw [tAt_e h] at q; exact q.resolve_right hr
theorem hrE {r k : Int32} (e : r = k) (hk : ¬ k = -1) : ¬ r = -1 := e ▸ hk
theorem hrG {r : Int32} (e : ¬ r < 48) : ¬ r = -1 := by grind
theorem rn_le {x y n : Int32} (e : y = x + 1) (h : x < n) : y ≤ n := by grind
theorem rn_t {a b n : Int32} (e : a = b) (h : b ≤ n) : a ≤ n := e ▸ h
theorem cs_n {n : Nat} (h : n ≤ 16) : 0 ≤ nI n ∧ nI n ≤ 16 := ⟨nI_pos' (by omega), nI_le (b := 16) h (by decide)⟩
theorem it_i {a i r n : Int32} (e : a - i = r) (er : r = n) (hn : 0 ≤ n ∧ n ≤ 16) (h1 : ¬ i < 0) (h0 : 0 ≤ a) (ha : a ≤ 1600) : 0 ≤ i ∧ i ≤ 1600 - n := by subst er; constructor <;> grind
theorem it_lt {x r n : Int32} (h : ¬ r ≤ x) (er : r = n) : x < n := by subst er; exact ci_lt h
theorem it_in {i n x : Int32} (hn : 0 ≤ n ∧ n ≤ 16) (hi : 0 ≤ i ∧ i ≤ 1600 - n) (h0 : 0 ≤ x) (hl : x < n) : 0 ≤ i + x ∧ i + x < 1600 := by constructor <;> grind
theorem ri_0 {x : Int32} {n : Nat} (e : x = 0) (h : n ≤ 16) : 0 ≤ x ∧ x ≤ nI n := by subst e; exact ⟨by decide, (cs_n h).1⟩
theorem rd_i {x : Int32} (e : x = 0) : 0 ≤ x ∧ x ≤ 60 := by subst e; decide

def FC_X10_inRange (X : xS) (i1 : Int32) (i2 : Int32) : Int32 := if (i1 : Int32) = 111 then (if (i2 : Int32) < 0 then ((0 : Int32)) else (if 24 ≤ (i2 : Int32) then ((0 : Int32)) else ((1 : Int32)))) else (if (i1 : Int32) = 107 then (if (i2 : Int32) < 0 then ((0 : Int32)) else (if 60 ≤ (i2 : Int32) then ((0 : Int32)) else ((1 : Int32)))) else (if (i1 : Int32) = 112 then (if (i2 : Int32) < 1 then ((0 : Int32)) else ((1 : Int32))) else ((1 : Int32))))
set_option maxHeartbeats 1500000 in
set_option maxRecDepth 100000 in
theorem c_X10_inRange (l : Launch) (D : va_G) (ks : kS) (τ : Nat → Nat) (L : List Nat) (A : Nat → Prop) (N : State → Prop) (hN : cNk A N)  (ψ : Int32) (f : Nat → va_E) (i1 : Int32) (i2 : Int32)  : Met l yX10_inRange (Cond.code yX10_inRange cX10_inRange 2 (some .boolean) :: tC) ({ frames := 0, cells := 0, slots := 0, locals := 0 }) (va_Pc [.int i1, .int i2] (cB D ks τ L A N (ψ, f))) (va_Qi (fun r9 x9 => (x9 = (ψ, f)) ∧ r9 = FC_X10_inRange (view f) i1 i2) (cB D ks τ L A N) A) 0 0 A := by
  refine cMet (own := RX10) (by decide) rfl (Nat.le_of_ble_eq_true rfl) ?_
  intro p e s m below meth c ls C9 hml hr hlk V I hNs hl
  have hx := C9.1
  have hb := C9.2.1
  have hown := C9.2.2.1
  have hts := C9.2.2.2.1
  have hS : va_S A s.heap s.heap [] := va_S.rf
  have hG := FC_X10_inRange.eq_1 (view f) i1 i2
  have hl : lv_has ls 2 [(0, .int i1), (1, .int i2)] := hl
  refine lv_iload_n hx hb dX10_inRange_0 rfl (lv_at hl 0 rfl) ?_
  refine lv_bipush (v := 111) hx hb dX10_inRange_1 (by decide) ?_
  refine lv_icmp_ne (tgt := 22) hx hb dX10_inRange_3 (by decide) (fun c1 => ?_) (fun c1 => ?_)
  · replace hG := gIf_n hG c1
    refine lv_iload_n hx hb dX10_inRange_22 rfl (lv_at hl 0 rfl) ?_
    refine lv_bipush (v := 107) hx hb dX10_inRange_23 (by decide) ?_
    refine lv_icmp_ne (tgt := 44) hx hb dX10_inRange_25 (by decide) (fun c2 => ?_) (fun c2 => ?_)
    · replace hG := gIf_n hG c2
      refine lv_iload_n hx hb dX10_inRange_44 rfl (lv_at hl 0 rfl) ?_
      refine lv_bipush (v := 112) hx hb dX10_inRange_45 (by decide) ?_
      refine lv_icmp_ne (tgt := 55) hx hb dX10_inRange_47 (by decide) (fun c3 => ?_) (fun c3 => ?_)
      · replace hG := gIf_n hG c3
        refine lv_iconst (v := 1) hx hb dX10_inRange_55 (by decide) ?_
        refine lv_goto (tgt := 60) hx hb dX10_inRange_56 (by decide) ?_
        exact cRetZ C9 hr hlk hN hNs V I hS (by clear hG V hS hl C9 hts hown hx hb hml hr hlk; first | rfl | decide | (subst_vars; rfl)) (⟨rfl, hG.symm⟩) dX10_inRange_60
      · replace hG := gIf_p hG c3
        refine lv_iload_n hx hb dX10_inRange_50 rfl (lv_at hl 1 rfl) ?_
        refine lv_iconst (v := 1) hx hb dX10_inRange_51 (by decide) ?_
        refine lv_icmp_lt (tgt := 59) hx hb dX10_inRange_52 (by decide) (fun c4 => ?_) (fun c4 => ?_)
        · replace hG := gIf_p hG c4
          refine lv_iconst (v := 0) hx hb dX10_inRange_59 (by decide) ?_
          exact cRetZ C9 hr hlk hN hNs V I hS (by clear hG V hS hl C9 hts hown hx hb hml hr hlk; first | rfl | decide | (subst_vars; rfl)) (⟨rfl, hG.symm⟩) dX10_inRange_60
        · replace hG := gIf_n hG c4
          refine lv_iconst (v := 1) hx hb dX10_inRange_55 (by decide) ?_
          refine lv_goto (tgt := 60) hx hb dX10_inRange_56 (by decide) ?_
          exact cRetZ C9 hr hlk hN hNs V I hS (by clear hG V hS hl C9 hts hown hx hb hml hr hlk; first | rfl | decide | (subst_vars; rfl)) (⟨rfl, hG.symm⟩) dX10_inRange_60
    · replace hG := gIf_p hG c2
      refine lv_iload_n hx hb dX10_inRange_28 rfl (lv_at hl 1 rfl) ?_
      refine lv_if_lt (tgt := 42) hx hb dX10_inRange_29 (by decide) (fun c5 => ?_) (fun c5 => ?_)
      · replace hG := gIf_p hG c5
        refine lv_iconst (v := 0) hx hb dX10_inRange_42 (by decide) ?_
        exact cRetZ C9 hr hlk hN hNs V I hS (by clear hG V hS hl C9 hts hown hx hb hml hr hlk; first | rfl | decide | (subst_vars; rfl)) (⟨rfl, hG.symm⟩) dX10_inRange_43
      · replace hG := gIf_n hG c5
        refine lv_iload_n hx hb dX10_inRange_32 rfl (lv_at hl 1 rfl) ?_
        refine lv_bipush (v := 60) hx hb dX10_inRange_33 (by decide) ?_
        refine lv_icmp_ge (tgt := 42) hx hb dX10_inRange_35 (by decide) (fun c6 => ?_) (fun c6 => ?_)
        · replace hG := gIf_p hG c6
          refine lv_iconst (v := 0) hx hb dX10_inRange_42 (by decide) ?_
          exact cRetZ C9 hr hlk hN hNs V I hS (by clear hG V hS hl C9 hts hown hx hb hml hr hlk; first | rfl | decide | (subst_vars; rfl)) (⟨rfl, hG.symm⟩) dX10_inRange_43
        · replace hG := gIf_n hG c6
          refine lv_iconst (v := 1) hx hb dX10_inRange_38 (by decide) ?_
          refine lv_goto (tgt := 43) hx hb dX10_inRange_39 (by decide) ?_
          exact cRetZ C9 hr hlk hN hNs V I hS (by clear hG V hS hl C9 hts hown hx hb hml hr hlk; first | rfl | decide | (subst_vars; rfl)) (⟨rfl, hG.symm⟩) dX10_inRange_43
  · replace hG := gIf_p hG c1
    refine lv_iload_n hx hb dX10_inRange_6 rfl (lv_at hl 1 rfl) ?_
    refine lv_if_lt (tgt := 20) hx hb dX10_inRange_7 (by decide) (fun c7 => ?_) (fun c7 => ?_)
    · replace hG := gIf_p hG c7
      refine lv_iconst (v := 0) hx hb dX10_inRange_20 (by decide) ?_
      exact cRetZ C9 hr hlk hN hNs V I hS (by clear hG V hS hl C9 hts hown hx hb hml hr hlk; first | rfl | decide | (subst_vars; rfl)) (⟨rfl, hG.symm⟩) dX10_inRange_21
    · replace hG := gIf_n hG c7
      refine lv_iload_n hx hb dX10_inRange_10 rfl (lv_at hl 1 rfl) ?_
      refine lv_bipush (v := 24) hx hb dX10_inRange_11 (by decide) ?_
      refine lv_icmp_ge (tgt := 20) hx hb dX10_inRange_13 (by decide) (fun c8 => ?_) (fun c8 => ?_)
      · replace hG := gIf_p hG c8
        refine lv_iconst (v := 0) hx hb dX10_inRange_20 (by decide) ?_
        exact cRetZ C9 hr hlk hN hNs V I hS (by clear hG V hS hl C9 hts hown hx hb hml hr hlk; first | rfl | decide | (subst_vars; rfl)) (⟨rfl, hG.symm⟩) dX10_inRange_21
      · replace hG := gIf_n hG c8
        refine lv_iconst (v := 1) hx hb dX10_inRange_16 (by decide) ?_
        refine lv_goto (tgt := 21) hx hb dX10_inRange_17 (by decide) ?_
        exact cRetZ C9 hr hlk hN hNs V I hS (by clear hG V hS hl C9 hts hown hx hb hml hr hlk; first | rfl | decide | (subst_vars; rfl)) (⟨rfl, hG.symm⟩) dX10_inRange_21
def FC_X10_isText_L33 (o0 : Nat) (i1 : Int32) (q2 : Nat) : Nat → Int32 → xS → Int32
  | 0, w33_3, XGf33 => (0 : Int32)
  | N9_33 + 1, w33_3, XGf33 => gLt (FC_J0_length_8abf5 XGf33 q2 : Int32) (fun r12 => if r12 ≤ (w33_3 : Int32) then ((1 : Int32)) else (gLt ((xR XGf33 o0 4).getD 0 : Nat) (fun v14_4 => gLt (xA XGf33 v14_4 (i1 + w33_3) : Int32) (fun x16 => gLt (FC_J0_charAt_5068e XGf33 q2 w33_3 : Int32) (fun r19 => if (x16 : Int32) = r19 then (gLt (w33_3 + (1) : Int32) (fun x21 => FC_X10_isText_L33 o0 i1 q2 N9_33 x21 XGf33)) else ((0 : Int32)))))))
def FC_X10_isText (X : xS) (o0 : Nat) (i1 : Int32) (q2 : Nat) : Int32 := gLt (xI X o0 5 : Int32) (fun v1_5 => gLt (FC_J0_length_8abf5 X q2 : Int32) (fun r4 => if ((v1_5 - i1) : Int32) = r4 then (if (i1 : Int32) < 0 then ((0 : Int32)) else (gLt ((xR X o0 4).getD 0 : Nat) (fun v1_4 => if (v1_5 : Int32) ≤ 1600 then (gLt (0 : Int32) (fun x9 => FC_X10_isText_L33 o0 i1 q2 ((nI (sLn.getD q2 0) - x9).toInt.toNat + 1) x9 X)) else ((0 : Int32))))) else ((0 : Int32))))
set_option maxHeartbeats 1500000 in
set_option maxRecDepth 100000 in
theorem c_X10_isText (l : Launch) (D : va_G) (ks : kS) (τ : Nat → Nat) (L : List Nat) (A : Nat → Prop) (N : State → Prop) (hN : cNk A N) (κ : kC) (hN0 : ∀ U, N U → N0 κ A U) (ψ : Int32) (f : Nat → va_E) (o0 : Nat) (i1 : Int32) (q2 : Nat) (t_o0 : ty τ L o0 8) (t_q2 : q2 < 68) : Met l yX10_isText (Cond.code yX10_isText cX10_isText 4 (some .boolean) :: tC) ({ frames := 4, cells := 0, slots := 0, locals := 85 }) (va_Pc [.ref o0, .int i1, .ref (κ.2.1 q2)] (cB D ks τ L A N (ψ, f))) (va_Qi (fun r9 x9 => (x9 = (ψ, f)) ∧ r9 = FC_X10_isText (view f) o0 i1 q2) (cB D ks τ L A N) A) 0 0 A := by
  refine cMet (own := RX10) (by decide) rfl (Nat.le_of_ble_eq_true rfl) ?_
  intro p e s m below meth c ls C9 hml hr hlk V I hNs hl
  have hx := C9.1
  have hb := C9.2.1
  have hown := C9.2.2.1
  have hts := C9.2.2.2.1
  have h0 := hN0 s hNs
  have hS : va_S A s.heap s.heap [] := va_S.rf
  have hG := FC_X10_isText.eq_1 (view f) o0 i1 q2
  have hl : lv_has ls 4 [(0, .ref o0), (1, .int i1), (2, .ref (κ.2.1 q2))] := hl
  refine lv_aload_n hx hb dX10_isText_0 rfl (lv_at hl 0 rfl) ?_
  obtain ⟨v1_0, v1_1, v1_3, v1_4, v1_5, hf1, t1_0, t1_4, hp1, h01, h11⟩ := op8 I t_o0
  refine cG C9 V t_o0.1 hf1 rfl tC_lay8 5 (by decide) tCf_X10_26 (Or.inl rfl) rfl dX10_isText_1 ?_
  replace hG := gLt_e hG (view_gI hf1 rfl)
  refine lv_iload_n hx hb dX10_isText_4 rfl (lv_at hl 1 rfl) ?_
  refine lv_isub hx hb dX10_isText_5 ?_
  refine lv_aload_n hx hb dX10_isText_6 rfl (lv_at hl 2 rfl) ?_
  refine cGoI (cRunR (As := []) (rest := [.int (v1_5 - i1)]) C9 hml hN hNs V I hS (isT_r h0 hS t_q2) (c_J0_length_8abf5 l D ks τ L A N hN κ hN0 ψ f q2 t_q2 ) gC_X10_64 okC_J0_length_8abf5 ⟨rfl, rfl, Nat.le_of_ble_eq_true rfl, Nat.le_of_ble_eq_true rfl⟩ hl.1 rfl (Nat.le_of_ble_eq_true rfl) dX10_isText_7 ⟨Nat.zero_le _, Nat.zero_le _⟩) hS (fun r4 p3 f2 H locs hqf2 V I hS => ?_)
  obtain ⟨hqf2, ghqf2⟩ := hqf2
  replace hG := gLt_e hG ghqf2
  have V : cV D L f A H := by rw [show f2 = f from congrArg Prod.snd hqf2.1] at V; exact V
  have I : cI ks τ L ψ f := by rw [show f2 = f from congrArg Prod.snd hqf2.1, show p3 = ψ from congrArg Prod.fst hqf2.1] at I; exact I
  refine lv_icmp_ne (tgt := 29) hx hb dX10_isText_10 (by decide) (fun c5 => ?_) (fun c5 => ?_)
  · replace hG := gIf_n hG c5
    refine lv_iconst (v := 0) hx hb dX10_isText_29 (by decide) ?_
    exact cRetZ C9 hr hlk hN hNs V I hS (by clear hG V hS hl C9 hts hown hx hb hml hr hlk h0 hN0; first | rfl | decide | (subst_vars; rfl)) (⟨rfl, hG.symm⟩) dX10_isText_30
  · replace hG := gIf_p hG c5
    refine lv_iload_n hx hb dX10_isText_13 rfl (lv_at hl 1 rfl) ?_
    refine lv_if_lt (tgt := 29) hx hb dX10_isText_14 (by decide) (fun c6 => ?_) (fun c6 => ?_)
    · replace hG := gIf_p hG c6
      refine lv_iconst (v := 0) hx hb dX10_isText_29 (by decide) ?_
      exact cRetZ C9 hr hlk hN hNs V I hS (by clear hG V hS hl C9 hts hown hx hb hml hr hlk h0 hN0; first | rfl | decide | (subst_vars; rfl)) (⟨rfl, hG.symm⟩) dX10_isText_30
    · replace hG := gIf_n hG c6
      refine lv_aload_n hx hb dX10_isText_17 rfl (lv_at hl 0 rfl) ?_
      refine cG C9 V t_o0.1 hf1 rfl tC_lay8 5 (by decide) tCf_X10_26 (Or.inl rfl) rfl dX10_isText_18 ?_
      refine lv_aload_n hx hb dX10_isText_21 rfl (lv_at hl 0 rfl) ?_
      refine cG C9 V t_o0.1 hf1 rfl tC_lay8 4 (by decide) tCf_X10_19 (Or.inl rfl) rfl dX10_isText_22 ?_
      replace hG := gLt_e hG (view_gR hf1 rfl)
      obtain ⟨g7, hf7⟩ := op11 I t1_4
      refine cAl (t0 := 0) (v := 1600) C9 V t1_4.1 hf7 rfl (by first | rfl | decide) dX10_isText_25 ?_
      refine lv_icmp_le (tgt := 31) hx hb dX10_isText_26 (by decide) (fun c8 => ?_) (fun c8 => ?_)
      · replace hG := gIf_p hG c8
        refine lv_iconst (v := 0) hx hb dX10_isText_31 (by decide) ?_
        refine lv_topi (fun x9 ex9 => ?_)
        replace hG := gLt_e hG ex9
        refine lv_istore_n (lv' := [(3, .int x9), (0, .ref o0), (1, .int i1), (2, .ref (κ.2.1 q2))]) hx hb dX10_isText_32 rfl hl (by decide) rfl (fun ls hl => ?_)
        have loop33 : ∀ (N9_33 : Nat) (w33_3 : Int32)  (Gf33 : Nat → va_E) (H : Heap) (locs : List Loc) (ls : Array Slot), cI ks τ L ψ Gf33 → (Gf33 = f ∧ (0 ≤ w33_3 ∧ w33_3 ≤ nI (sLn.getD q2 0)) ∧ 0 ≤ i1 ∧ i1 ≤ 1600 - nI (sLn.getD q2 0)) → ((nI (sLn.getD q2 0) - w33_3).toInt.toNat) < N9_33 → (FC_X10_isText (view f) o0 i1 q2 = FC_X10_isText_L33 o0 i1 q2 N9_33 w33_3 (view Gf33)) → cV D L Gf33 A H → va_S A s.heap H locs → lv_has ls 4 [(0, .ref o0), (1, .int i1), (2, .ref (κ.2.1 q2)), (3, .int w33_3)] → W p l e ({ frames := 4, cells := 0, slots := 0, locals := 85 } : Room) s m ([.ref o0, .int i1, .ref (κ.2.1 q2)] : List Value).toArray below meth c H locs 0 0 (MQ below (va_Qi (fun r9 x9 => (x9 = (ψ, f)) ∧ r9 = FC_X10_isText (view f) o0 i1 q2) (cB D ks τ L A N) A) ([.ref o0, .int i1, .ref (κ.2.1 q2)] : List Value).toArray s 0 0 A) (F0 m 33 ls []) := by
          intro N9_33
          induction N9_33 with
          | zero => intro w33_3  Gf33 H locs ls I hi33 hm33; exact absurd hm33 (Nat.not_lt_zero _)
          | succ N9_33 ih33 =>
            intro w33_3  Gf33 H locs ls I hi33 hm33 hG V hS hl
            rw [FC_X10_isText_L33] at hG
            refine lv_iload_n hx hb dX10_isText_33 rfl (lv_at hl 3 rfl) ?_
            refine lv_aload_n hx hb dX10_isText_34 rfl (lv_at hl 2 rfl) ?_
            refine cGoI (cRunR (As := []) (rest := [.int w33_3]) C9 hml hN hNs V I hS (isT_r h0 hS t_q2) (c_J0_length_8abf5 l D ks τ L A N hN κ hN0 ψ Gf33 q2 t_q2 ) gC_X10_64 okC_J0_length_8abf5 ⟨rfl, rfl, Nat.le_of_ble_eq_true rfl, Nat.le_of_ble_eq_true rfl⟩ hl.1 rfl (Nat.le_of_ble_eq_true rfl) dX10_isText_35 ⟨Nat.zero_le _, Nat.zero_le _⟩) hS (fun r12 p11 f10 H locs hqf10 V I hS => ?_)
            obtain ⟨hqf10, ghqf10⟩ := hqf10
            replace hG := gLt_e hG ghqf10
            have V : cV D L Gf33 A H := by rw [show f10 = Gf33 from congrArg Prod.snd hqf10.1] at V; exact V
            have I : cI ks τ L ψ Gf33 := by rw [show f10 = Gf33 from congrArg Prod.snd hqf10.1, show p11 = ψ from congrArg Prod.fst hqf10.1] at I; exact I
            refine lv_icmp_ge (tgt := 65) hx hb dX10_isText_38 (by decide) (fun c13 => ?_) (fun c13 => ?_)
            · replace hG := gIf_p hG c13
              refine lv_iconst (v := 1) hx hb dX10_isText_65 (by decide) ?_
              exact cRetZ C9 hr hlk hN hNs V I hS (by clear hG V hS hl C9 hts hown hx hb hml hr hlk h0 hN0; first | rfl | decide | (subst_vars; rfl)) (⟨congrArg (Prod.mk ψ) hi33.1, hG.symm⟩) dX10_isText_66
            · replace hG := gIf_n hG c13
              refine lv_aload_n hx hb dX10_isText_41 rfl (lv_at hl 0 rfl) ?_
              obtain ⟨v14_0, v14_1, v14_3, v14_4, v14_5, hf14, t14_0, t14_4, hp14, h014, h114⟩ := op8 I t_o0
              refine cG C9 V t_o0.1 hf14 rfl tC_lay8 4 (by decide) tCf_X10_19 (Or.inl rfl) rfl dX10_isText_42 ?_
              replace hG := gLt_e hG (view_gR hf14 rfl)
              refine lv_iload_n hx hb dX10_isText_45 rfl (lv_at hl 1 rfl) ?_
              refine lv_iload_n hx hb dX10_isText_46 rfl (lv_at hl 3 rfl) ?_
              refine lv_iadd hx hb dX10_isText_47 ?_
              obtain ⟨g15, hf15⟩ := op11 I t14_4
              refine cLb C9 V t14_4.1 hf15 (cvin (N := 1600) rfl ((it_in (cs_n (sLn_le.1 q2)) hi33.2.2 hi33.2.1.1 (it_lt c13 hqf10.2)).1) ((it_in (cs_n (sLn_le.1 q2)) hi33.2.2 hi33.2.1.1 (it_lt c13 hqf10.2)).2)) dX10_isText_48 ?_
              refine lv_topi (fun x16 ex16 => ?_)
              replace hG := gLt_e hG (ex16.trans (view_gA hf15))
              refine lv_aload_n hx hb dX10_isText_49 rfl (lv_at hl 2 rfl) ?_
              refine lv_iload_n hx hb dX10_isText_50 rfl (lv_at hl 3 rfl) ?_
              refine cGoI (cRunR (As := [.int w33_3]) (rest := [.int x16]) C9 hml hN hNs V I hS (isT_r h0 hS t_q2) (c_J0_charAt_5068e l D ks τ L A N hN κ hN0 ψ Gf33 q2 w33_3 t_q2 (hi33.2.1.1) (it_lt c13 hqf10.2)) gC_X10_68 okC_J0_charAt_5068e ⟨rfl, rfl, Nat.le_of_ble_eq_true rfl, Nat.le_of_ble_eq_true rfl⟩ hl.1 rfl (Nat.le_of_ble_eq_true rfl) dX10_isText_51 ⟨Nat.zero_le _, Nat.zero_le _⟩) hS (fun r19 p18 f17 H locs hqf17 V I hS => ?_)
              obtain ⟨hqf17, ghqf17⟩ := hqf17
              replace hG := gLt_e hG ghqf17
              have V : cV D L Gf33 A H := by rw [show f17 = Gf33 from congrArg Prod.snd hqf17] at V; exact V
              have I : cI ks τ L ψ Gf33 := by rw [show f17 = Gf33 from congrArg Prod.snd hqf17, show p18 = ψ from congrArg Prod.fst hqf17] at I; exact I
              refine lv_icmp_eq (tgt := 59) hx hb dX10_isText_54 (by decide) (fun c20 => ?_) (fun c20 => ?_)
              · replace hG := gIf_p hG c20
                obtain ⟨x21, ex21⟩ : ∃ y : Int32, y = w33_3 + (1) := ⟨_, rfl⟩
                replace hG := gLt_e hG ex21
                refine lv_iinc (v := x21) (lv' := [(3, .int x21), (0, .ref o0), (1, .int i1), (2, .ref (κ.2.1 q2))]) hx hb dX10_isText_59 hl (k := 3) rfl (by rw [ex21]; rfl) (by decide) rfl (fun ls hl => ?_)
                refine lv_goto (tgt := 33) hx hb dX10_isText_62 (by decide) ?_
                exact ih33 x21  Gf33 _ _ _ I (⟨hi33.1, ca_up ex21 hi33.2.1.1 (it_lt c13 hqf10.2), hi33.2.2⟩) (cmsd hm33 (ca_dec ex21 hi33.2.1.1 (it_lt c13 hqf10.2)).1 (ca_dec ex21 hi33.2.1.1 (it_lt c13 hqf10.2)).2) hG V hS (lv_sub hl [1, 2, 3, 0] rfl)
              · replace hG := gIf_n hG c20
                refine lv_iconst (v := 0) hx hb dX10_isText_57 (by decide) ?_
                exact cRetZ C9 hr hlk hN hNs V I hS (by clear hG V hS hl C9 hts hown hx hb hml hr hlk h0 hN0; first | rfl | decide | (subst_vars; rfl)) (⟨congrArg (Prod.mk ψ) hi33.1, hG.symm⟩) dX10_isText_58
        exact loop33 ((nI (sLn.getD q2 0) - x9).toInt.toNat + 1) x9  f _ _ _ I (⟨rfl, ri_0 ex9 (sLn_le.1 q2), it_i c5 hqf2.2 (cs_n (sLn_le.1 q2)) c6 h01 c8⟩) (Nat.lt_succ_self _) hG V hS (lv_sub hl [1, 2, 3, 0] rfl)
      · replace hG := gIf_n hG c8
        refine lv_iconst (v := 0) hx hb dX10_isText_29 (by decide) ?_
        exact cRetZ C9 hr hlk hN hNs V I hS (by clear hG V hS hl C9 hts hown hx hb hml hr hlk h0 hN0; first | rfl | decide | (subst_vars; rfl)) (⟨rfl, hG.symm⟩) dX10_isText_30
def FC_X10_wordAt_L2 (o0 : Nat) (i1 : Int32) : Nat → Int32 → xS → Int32
  | 0, w2_2, XGf2 => (0 : Int32)
  | N9_2 + 1, w2_2, XGf2 => if 34 ≤ (w2_2 : Int32) then (((-1) : Int32)) else (gLt (Int32.toNatClampNeg w2_2 : Nat) (fun u5 => gLt (FC_X10_isText XGf2 o0 i1 u5 : Int32) (fun r9 => if (r9 : Int32) = 0 then (gLt (w2_2 + (1) : Int32) (fun x11 => FC_X10_wordAt_L2 o0 i1 N9_2 x11 XGf2)) else ((w2_2 : Int32)))))
def FC_X10_wordAt (X : xS) (o0 : Nat) (i1 : Int32) : Int32 := gLt (0 : Int32) (fun x1 => FC_X10_wordAt_L2 o0 i1 ((34 - x1).toInt.toNat + 1) x1 X)
set_option maxHeartbeats 1500000 in
set_option maxRecDepth 100000 in
theorem c_X10_wordAt (l : Launch) (D : va_G) (ks : kS) (τ : Nat → Nat) (L : List Nat) (A : Nat → Prop) (N : State → Prop) (hN : cNk A N) (κ : kC) (hN0 : ∀ U, N U → N0 κ A U) (ψ : Int32) (f : Nat → va_E) (o0 : Nat) (i1 : Int32) (t_o0 : ty τ L o0 8) : Met l yX10_wordAt (Cond.code yX10_wordAt cX10_wordAt 3 (some .int) :: tC) ({ frames := 5, cells := 0, slots := 0, locals := 108 }) (va_Pc [.ref o0, .int i1] (cB D ks τ L A N (ψ, f))) (va_Qi (fun r9 x9 => (x9 = (ψ, f)) ∧ r9 = FC_X10_wordAt (view f) o0 i1) (cB D ks τ L A N) A) 0 0 A := by
  refine cMet (own := RX10) (by decide) rfl (Nat.le_of_ble_eq_true rfl) ?_
  intro p e s m below meth c ls C9 hml hr hlk V I hNs hl
  have hx := C9.1
  have hb := C9.2.1
  have hown := C9.2.2.1
  have hts := C9.2.2.2.1
  have h0 := hN0 s hNs
  have hS : va_S A s.heap s.heap [] := va_S.rf
  have hG := FC_X10_wordAt.eq_1 (view f) o0 i1
  have hl : lv_has ls 3 [(0, .ref o0), (1, .int i1)] := hl
  refine lv_iconst (v := 0) hx hb dX10_wordAt_0 (by decide) ?_
  refine lv_topi (fun x1 ex1 => ?_)
  replace hG := gLt_e hG ex1
  refine lv_istore_n (lv' := [(2, .int x1), (0, .ref o0), (1, .int i1)]) hx hb dX10_wordAt_1 rfl hl (by decide) rfl (fun ls hl => ?_)
  have loop2 : ∀ (N9_2 : Nat) (w2_2 : Int32)  (Gf2 : Nat → va_E) (H : Heap) (locs : List Loc) (ls : Array Slot), cI ks τ L ψ Gf2 → (Gf2 = f ∧ 0 ≤ w2_2 ∧ w2_2 ≤ 34) → ((34 - w2_2).toInt.toNat) < N9_2 → (FC_X10_wordAt (view f) o0 i1 = FC_X10_wordAt_L2 o0 i1 N9_2 w2_2 (view Gf2)) → cV D L Gf2 A H → va_S A s.heap H locs → lv_has ls 3 [(0, .ref o0), (1, .int i1), (2, .int w2_2)] → W p l e ({ frames := 5, cells := 0, slots := 0, locals := 108 } : Room) s m ([.ref o0, .int i1] : List Value).toArray below meth c H locs 0 0 (MQ below (va_Qi (fun r9 x9 => (x9 = (ψ, f)) ∧ r9 = FC_X10_wordAt (view f) o0 i1) (cB D ks τ L A N) A) ([.ref o0, .int i1] : List Value).toArray s 0 0 A) (F0 m 2 ls []) := by
    intro N9_2
    induction N9_2 with
    | zero => intro w2_2  Gf2 H locs ls I hi2 hm2; exact absurd hm2 (Nat.not_lt_zero _)
    | succ N9_2 ih2 =>
      intro w2_2  Gf2 H locs ls I hi2 hm2 hG V hS hl
      rw [FC_X10_wordAt_L2] at hG
      refine lv_iload_n hx hb dX10_wordAt_2 rfl (lv_at hl 2 rfl) ?_
      refine cZw C9 h0 hS (by simp [nwL, RX10]) dX10_wordAt_3 (fun y2 hy2 => ?_)
      refine cAw C9 hy2 hS dX10_wordAt_6 ?_
      refine lv_icmp_ge (tgt := 34) hx hb dX10_wordAt_7 (by decide) (fun c3 => ?_) (fun c3 => ?_)
      · replace hG := gIf_p hG c3
        refine lv_iconst (v := (-1)) hx hb dX10_wordAt_34 (by decide) ?_
        exact cRetI C9 hr hlk hN hNs V I hS (⟨congrArg (Prod.mk ψ) hi2.1, hG.symm⟩) dX10_wordAt_35
      · replace hG := gIf_n hG c3
        refine lv_aload_n hx hb dX10_wordAt_10 rfl (lv_at hl 0 rfl) ?_
        refine lv_iload_n hx hb dX10_wordAt_11 rfl (lv_at hl 1 rfl) ?_
        refine cZw C9 h0 hS (by simp [nwL, RX10]) dX10_wordAt_12 (fun y4 hy4 => ?_)
        refine lv_iload_n hx hb dX10_wordAt_15 rfl (lv_at hl 2 rfl) ?_
        refine cLw C9 hy4 hS (cvin (N := 34) rfl (hi2.2.1) (ci_lt c3)) dX10_wordAt_16 (fun u5 eu5 hu5 => ?_)
        replace hG := gLt_e hG (eu5)
        refine cGt hu5 C9 h0 hS tCf_X10_80 dX10_wordAt_17 ?_
        obtain ⟨v6_0, v6_1, v6_3, v6_4, v6_5, hf6, t6_0, t6_4, hp6, h06, h16⟩ := op8 I t_o0
        refine cGoI (cRunV (As := [.int i1, .ref (κ.2.1 u5)]) (rest := []) C9 hml hN hNs V I hS t_o0.1 hf6 rfl (c_X10_isText l D ks τ L A N hN κ hN0 ψ Gf2 o0 i1 u5 t_o0 (Nat.lt_of_lt_of_le hu5 (by decide)) ) gC_X10_83 okC_X10_isText ⟨rfl, rfl, Nat.le_of_ble_eq_true rfl, Nat.le_of_ble_eq_true rfl⟩ hl.1 rfl (Nat.le_of_ble_eq_true rfl) dX10_wordAt_20 ⟨Nat.zero_le _, Nat.zero_le _⟩) hS (fun r9 p8 f7 H locs hqf7 V I hS => ?_)
        obtain ⟨hqf7, ghqf7⟩ := hqf7
        replace hG := gLt_e hG ghqf7
        have V : cV D L Gf2 A H := by rw [show f7 = Gf2 from congrArg Prod.snd hqf7] at V; exact V
        have I : cI ks τ L ψ Gf2 := by rw [show f7 = Gf2 from congrArg Prod.snd hqf7, show p8 = ψ from congrArg Prod.fst hqf7] at I; exact I
        refine lv_if_eq (tgt := 28) hx hb dX10_wordAt_23 (by decide) (fun c10 => ?_) (fun c10 => ?_)
        · replace hG := gIf_p hG c10
          obtain ⟨x11, ex11⟩ : ∃ y : Int32, y = w2_2 + (1) := ⟨_, rfl⟩
          replace hG := gLt_e hG ex11
          refine lv_iinc (v := x11) (lv' := [(2, .int x11), (0, .ref o0), (1, .int i1)]) hx hb dX10_wordAt_28 hl (k := 2) rfl (by rw [ex11]; rfl) (by decide) rfl (fun ls hl => ?_)
          refine lv_goto (tgt := 2) hx hb dX10_wordAt_31 (by decide) ?_
          exact ih2 x11  Gf2 _ _ _ I (⟨hi2.1, ca_up ex11 hi2.2.1 (ci_lt c3)⟩) (cmsd hm2 (ca_dec ex11 hi2.2.1 (ci_lt c3)).1 (ca_dec ex11 hi2.2.1 (ci_lt c3)).2) hG V hS (lv_sub hl [1, 2, 0] rfl)
        · replace hG := gIf_n hG c10
          refine lv_iload_n hx hb dX10_wordAt_26 rfl (lv_at hl 2 rfl) ?_
          exact cRetI C9 hr hlk hN hNs V I hS (⟨congrArg (Prod.mk ψ) hi2.1, hG.symm⟩) dX10_wordAt_27
  exact loop2 ((34 - x1).toInt.toNat + 1) x1  f _ _ _ I (⟨rfl, by subst_vars; decide⟩) (Nat.lt_succ_self _) hG V hS (lv_sub hl [1, 2, 0] rfl)
def FC_X10_readNumber_L45 (o0 : Nat) (i1 : Int32) (i2 : Int32) (v1_5 : Int32) : Nat → Int32 → xS → Int32 × xS
  | 0, w45_6, XGf45 => ((0 : Int32), XGf45)
  | N9_45 + 1, w45_6, XGf45 => gLt (xI XGf45 o0 5 : Int32) (fun v8_5 => if 9 ≤ ((v8_5 - v1_5) : Int32) then (if (v8_5 : Int32) = v1_5 then (gC (FC_X10_broken XGf45 o0 v8_5) (fun r24 Xf22 => ((r24 : Int32), Xf22))) else (gLt (FC_X10_inRange XGf45 i2 w45_6 : Int32) (fun r14 => if (r14 : Int32) = 0 then (gC (FC_X10_broken XGf45 o0 v1_5) (fun r21 Xf19 => ((r21 : Int32), Xf19))) else (gLt (FC_X10_store XGf45 o0 i1 w45_6 : xS) (fun Xf16 => ((1 : Int32), Xf16)))))) else (gLt (FC_X10_here XGf45 o0 : Int32) (fun r27 => if (r27 : Int32) < 48 then (if (v8_5 : Int32) = v1_5 then (gC (FC_X10_broken XGf45 o0 v8_5) (fun r43 Xf41 => ((r43 : Int32), Xf41))) else (gLt (FC_X10_inRange XGf45 i2 w45_6 : Int32) (fun r33 => if (r33 : Int32) = 0 then (gC (FC_X10_broken XGf45 o0 v1_5) (fun r40 Xf38 => ((r40 : Int32), Xf38))) else (gLt (FC_X10_store XGf45 o0 i1 w45_6 : xS) (fun Xf35 => ((1 : Int32), Xf35)))))) else (gLt (FC_X10_here XGf45 o0 : Int32) (fun r46 => if 57 < (r46 : Int32) then (if (v8_5 : Int32) = v1_5 then (gC (FC_X10_broken XGf45 o0 v8_5) (fun r62 Xf60 => ((r62 : Int32), Xf60))) else (gLt (FC_X10_inRange XGf45 i2 w45_6 : Int32) (fun r52 => if (r52 : Int32) = 0 then (gC (FC_X10_broken XGf45 o0 v1_5) (fun r59 Xf57 => ((r59 : Int32), Xf57))) else (gLt (FC_X10_store XGf45 o0 i1 w45_6 : xS) (fun Xf54 => ((1 : Int32), Xf54)))))) else (gLt (FC_X10_here XGf45 o0 : Int32) (fun r65 => gLt (((w45_6 * 10) + (r65 - 48)) : Int32) (fun x66 => gLt ((v8_5 + 1) : Int32) (fun x67 => gLt (xwI XGf45 o0 5 x67 : xS) (fun Xf68 => FC_X10_readNumber_L45 o0 i1 i2 v1_5 N9_45 x66 Xf68))))))))))
def FC_X10_readNumber_L45x1 (o0 : Nat) (i1 : Int32) (i2 : Int32) (v1_5 : Int32) (x72 : Int32) : Nat → Int32 → xS → Int32 × xS
  | 0, w45_6, XGf45 => ((0 : Int32), XGf45)
  | N9_45 + 1, w45_6, XGf45 => gLt (xI XGf45 o0 5 : Int32) (fun v77_5 => if 9 ≤ ((v77_5 - x72) : Int32) then (if (v77_5 : Int32) = x72 then (gC (FC_X10_broken XGf45 o0 v77_5) (fun r94 Xf92 => ((r94 : Int32), Xf92))) else (gLt ((-w45_6) : Int32) (fun x81 => gLt (FC_X10_inRange XGf45 i2 x81 : Int32) (fun r84 => if (r84 : Int32) = 0 then (gC (FC_X10_broken XGf45 o0 v1_5) (fun r91 Xf89 => ((r91 : Int32), Xf89))) else (gLt (FC_X10_store XGf45 o0 i1 x81 : xS) (fun Xf86 => ((1 : Int32), Xf86))))))) else (gLt (FC_X10_here XGf45 o0 : Int32) (fun r97 => if (r97 : Int32) < 48 then (if (v77_5 : Int32) = x72 then (gC (FC_X10_broken XGf45 o0 v77_5) (fun r114 Xf112 => ((r114 : Int32), Xf112))) else (gLt ((-w45_6) : Int32) (fun x101 => gLt (FC_X10_inRange XGf45 i2 x101 : Int32) (fun r104 => if (r104 : Int32) = 0 then (gC (FC_X10_broken XGf45 o0 v1_5) (fun r111 Xf109 => ((r111 : Int32), Xf109))) else (gLt (FC_X10_store XGf45 o0 i1 x101 : xS) (fun Xf106 => ((1 : Int32), Xf106))))))) else (gLt (FC_X10_here XGf45 o0 : Int32) (fun r117 => if 57 < (r117 : Int32) then (if (v77_5 : Int32) = x72 then (gC (FC_X10_broken XGf45 o0 v77_5) (fun r134 Xf132 => ((r134 : Int32), Xf132))) else (gLt ((-w45_6) : Int32) (fun x121 => gLt (FC_X10_inRange XGf45 i2 x121 : Int32) (fun r124 => if (r124 : Int32) = 0 then (gC (FC_X10_broken XGf45 o0 v1_5) (fun r131 Xf129 => ((r131 : Int32), Xf129))) else (gLt (FC_X10_store XGf45 o0 i1 x121 : xS) (fun Xf126 => ((1 : Int32), Xf126))))))) else (gLt (FC_X10_here XGf45 o0 : Int32) (fun r137 => gLt (((w45_6 * 10) + (r137 - 48)) : Int32) (fun x138 => gLt ((v77_5 + 1) : Int32) (fun x139 => gLt (xwI XGf45 o0 5 x139 : xS) (fun Xf140 => FC_X10_readNumber_L45x1 o0 i1 i2 v1_5 x72 N9_45 x138 Xf140))))))))))
def FC_X10_readNumber (X : xS) (o0 : Nat) (i1 : Int32) (i2 : Int32) : Int32 × xS := gLt (xI X o0 5 : Int32) (fun v1_5 => gLt (FC_X10_here X o0 : Int32) (fun r4 => if (r4 : Int32) = 45 then (gLt ((v1_5 + 1) : Int32) (fun x72 => gLt (xwI X o0 5 x72 : xS) (fun Xf73 => gLt (0 : Int32) (fun x76 => FC_X10_readNumber_L45x1 o0 i1 i2 v1_5 x72 (4000) x76 Xf73)))) else (gLt (0 : Int32) (fun x7 => FC_X10_readNumber_L45 o0 i1 i2 v1_5 (4000) x7 X))))
set_option maxHeartbeats 1500000 in
set_option maxRecDepth 100000 in
theorem c_X10_readNumber (l : Launch) (D : va_G) (ks : kS) (τ : Nat → Nat) (L : List Nat) (A : Nat → Prop) (N : State → Prop) (hN : cNk A N)  (ψ : Int32) (f : Nat → va_E) (o0 : Nat) (i1 : Int32) (i2 : Int32) (t_o0 : ty τ L o0 8) (h1 : tAt f o0 ≤ ψ) : Met l yX10_readNumber (Cond.code yX10_readNumber cX10_readNumber 7 (some .boolean) :: tC) ({ frames := 1, cells := 0, slots := 0, locals := 22 }) (va_Pc [.ref o0, .int i1, .int i2] (cB D ks τ L A N (ψ, f))) (va_Qi (fun r9 x9 => (x9.1 = ψ ∧ tAt x9.2 o0 ≤ ψ) ∧ (r9, view x9.2) = FC_X10_readNumber (view f) o0 i1 i2) (cB D ks τ L A N) A) 0 0 A := by
  refine cMet (own := RX10) (by decide) rfl (Nat.le_of_ble_eq_true rfl) ?_
  intro p e s m below meth c ls C9 hml hr hlk V I hNs hl
  have hx := C9.1
  have hb := C9.2.1
  have hown := C9.2.2.1
  have hts := C9.2.2.2.1
  have hS : va_S A s.heap s.heap [] := va_S.rf
  have hG := FC_X10_readNumber.eq_1 (view f) o0 i1 i2
  have hl : lv_has ls 7 [(0, .ref o0), (1, .int i1), (2, .int i2)] := hl
  refine lv_aload_n hx hb dX10_readNumber_0 rfl (lv_at hl 0 rfl) ?_
  obtain ⟨v1_0, v1_1, v1_3, v1_4, v1_5, hf1, t1_0, t1_4, hp1, h01, h11⟩ := op8 I t_o0
  refine cG C9 V t_o0.1 hf1 rfl tC_lay8 5 (by decide) tCf_X10_26 (Or.inl rfl) rfl dX10_readNumber_1 ?_
  replace hG := gLt_e hG (view_gI hf1 rfl)
  refine lv_istore_n (lv' := [(3, .int v1_5), (0, .ref o0), (1, .int i1), (2, .int i2)]) hx hb dX10_readNumber_4 rfl hl (by decide) rfl (fun ls hl => ?_)
  refine lv_aload_n hx hb dX10_readNumber_5 rfl (lv_at hl 1 rfl) ?_
  refine cGoI (cRunV (As := []) (rest := []) C9 hml hN hNs V I hS t_o0.1 hf1 rfl (c_X10_here l D ks τ L A N hN  ψ f o0 t_o0 ) gC_X10_39 okC_X10_here ⟨rfl, rfl, Nat.le_of_ble_eq_true rfl, Nat.le_of_ble_eq_true rfl⟩ hl.1 rfl (Nat.le_of_ble_eq_true rfl) dX10_readNumber_6 ⟨Nat.zero_le _, Nat.zero_le _⟩) hS (fun r4 p3 f2 H locs hqf2 V I hS => ?_)
  obtain ⟨hqf2, ghqf2⟩ := hqf2
  replace hG := gLt_e hG ghqf2
  have V : cV D L f A H := by rw [show f2 = f from congrArg Prod.snd hqf2.1] at V; exact V
  have I : cI ks τ L ψ f := by rw [show f2 = f from congrArg Prod.snd hqf2.1, show p3 = ψ from congrArg Prod.fst hqf2.1] at I; exact I
  refine lv_bipush (v := 45) hx hb dX10_readNumber_9 (by decide) ?_
  refine lv_icmp_ne (tgt := 18) hx hb dX10_readNumber_11 (by decide) (fun c5 => ?_) (fun c5 => ?_)
  · replace hG := gIf_n hG c5
    refine lv_iconst (v := 0) hx hb dX10_readNumber_18 (by decide) ?_
    refine lv_istore (lv' := [(4, .int 0), (3, .int v1_5), (0, .ref o0), (1, .int i1), (2, .int i2)]) hx hb dX10_readNumber_19 hl (by decide) rfl (fun ls hl => ?_)
    refine lv_iload hx hb dX10_readNumber_21 (lv_at hl 0 rfl) ?_
    refine lv_if_eq (tgt := 36) hx hb dX10_readNumber_23 (by decide) (fun c6 => ?_) (fun c6 => ?_)
    · refine lv_aload_n hx hb dX10_readNumber_36 rfl (lv_at hl 2 rfl) ?_
      refine cG C9 V t_o0.1 hf1 rfl tC_lay8 5 (by decide) tCf_X10_26 (Or.inl rfl) rfl dX10_readNumber_37 ?_
      refine lv_istore (lv' := [(5, .int v1_5), (4, .int 0), (3, .int v1_5), (0, .ref o0), (1, .int i1), (2, .int i2)]) hx hb dX10_readNumber_40 hl (by decide) rfl (fun ls hl => ?_)
      refine lv_iconst (v := 0) hx hb dX10_readNumber_42 (by decide) ?_
      refine lv_topi (fun x7 ex7 => ?_)
      replace hG := gLt_e hG ex7
      refine lv_istore (lv' := [(6, .int x7), (5, .int v1_5), (4, .int 0), (3, .int v1_5), (0, .ref o0), (1, .int i1), (2, .int i2)]) hx hb dX10_readNumber_43 hl (by decide) rfl (fun ls hl => ?_)
      have loop45 : ∀ (N9_45 : Nat) (w45_6 : Int32)  (Gf45 : Nat → va_E) (H : Heap) (locs : List Loc) (ls : Array Slot), cI ks τ L ψ Gf45 → (tAt Gf45 o0 ≤ ψ) → ((ψ - tAt Gf45 o0).toInt.toNat) < N9_45 → (FC_X10_readNumber (view f) o0 i1 i2 = FC_X10_readNumber_L45 o0 i1 i2 v1_5 N9_45 w45_6 (view Gf45)) → cV D L Gf45 A H → va_S A s.heap H locs → lv_has ls 7 [(0, .ref o0), (1, .int i1), (2, .int i2), (3, .int v1_5), (4, .int 0), (5, .int v1_5), (6, .int w45_6)] → W p l e ({ frames := 1, cells := 0, slots := 0, locals := 22 } : Room) s m ([.ref o0, .int i1, .int i2] : List Value).toArray below meth c H locs 0 0 (MQ below (va_Qi (fun r9 x9 => (x9.1 = ψ ∧ tAt x9.2 o0 ≤ ψ) ∧ (r9, view x9.2) = FC_X10_readNumber (view f) o0 i1 i2) (cB D ks τ L A N) A) ([.ref o0, .int i1, .int i2] : List Value).toArray s 0 0 A) (F0 m 45 ls []) := by
        intro N9_45
        induction N9_45 with
        | zero => intro w45_6  Gf45 H locs ls I hi45 hm45; exact absurd hm45 (Nat.not_lt_zero _)
        | succ N9_45 ih45 =>
          intro w45_6  Gf45 H locs ls I hi45 hm45 hG V hS hl
          rw [FC_X10_readNumber_L45] at hG
          refine lv_aload_n hx hb dX10_readNumber_45 rfl (lv_at hl 0 rfl) ?_
          obtain ⟨v8_0, v8_1, v8_3, v8_4, v8_5, hf8, t8_0, t8_4, hp8, h08, h18⟩ := op8 I t_o0
          refine cG C9 V t_o0.1 hf8 rfl tC_lay8 5 (by decide) tCf_X10_26 (Or.inl rfl) rfl dX10_readNumber_46 ?_
          replace hG := gLt_e hG (view_gI hf8 rfl)
          refine lv_iload hx hb dX10_readNumber_49 (lv_at hl 5 rfl) ?_
          refine lv_isub hx hb dX10_readNumber_51 ?_
          refine lv_bipush (v := 9) hx hb dX10_readNumber_52 (by decide) ?_
          refine lv_icmp_ge (tgt := 103) hx hb dX10_readNumber_54 (by decide) (fun c9 => ?_) (fun c9 => ?_)
          · replace hG := gIf_p hG c9
            refine lv_aload_n hx hb dX10_readNumber_103 rfl (lv_at hl 0 rfl) ?_
            refine cG C9 V t_o0.1 hf8 rfl tC_lay8 5 (by decide) tCf_X10_26 (Or.inl rfl) rfl dX10_readNumber_104 ?_
            refine lv_iload hx hb dX10_readNumber_107 (lv_at hl 5 rfl) ?_
            refine lv_icmp_ne (tgt := 121) hx hb dX10_readNumber_109 (by decide) (fun c10 => ?_) (fun c10 => ?_)
            · replace hG := gIf_n hG c10
              refine lv_iload hx hb dX10_readNumber_121 (lv_at hl 4 rfl) ?_
              refine lv_if_eq (tgt := 132) hx hb dX10_readNumber_123 (by decide) (fun c11 => ?_) (fun c11 => ?_)
              · refine lv_iload hx hb dX10_readNumber_132 (lv_at hl 6 rfl) ?_
                refine lv_istore (lv' := [(6, .int w45_6), (0, .ref o0), (1, .int i1), (2, .int i2), (3, .int v1_5), (4, .int 0), (5, .int v1_5)]) hx hb dX10_readNumber_134 hl (by decide) rfl (fun ls hl => ?_)
                refine lv_iload_n hx hb dX10_readNumber_136 rfl (lv_at hl 3 rfl) ?_
                refine lv_iload hx hb dX10_readNumber_137 (lv_at hl 0 rfl) ?_
                refine cGoI (cRunS (As := [.int i2, .int w45_6]) (rest := []) C9 hml hN hNs V I hS (c_X10_inRange l D ks τ L A N hN  ψ Gf45 i2 w45_6  ) gS_X10_76 okC_X10_inRange ⟨rfl, rfl, Nat.le_of_ble_eq_true rfl, Nat.le_of_ble_eq_true rfl⟩ hl.1 rfl (Nat.le_of_ble_eq_true rfl) dX10_readNumber_139 ⟨Nat.zero_le _, Nat.zero_le _⟩) hS (fun r14 p13 f12 H locs hqf12 V I hS => ?_)
                obtain ⟨hqf12, ghqf12⟩ := hqf12
                replace hG := gLt_e hG ghqf12
                have V : cV D L Gf45 A H := by rw [show f12 = Gf45 from congrArg Prod.snd hqf12] at V; exact V
                have I : cI ks τ L ψ Gf45 := by rw [show f12 = Gf45 from congrArg Prod.snd hqf12, show p13 = ψ from congrArg Prod.fst hqf12] at I; exact I
                refine lv_if_ne (tgt := 151) hx hb dX10_readNumber_142 (by decide) (fun c15 => ?_) (fun c15 => ?_)
                · replace hG := gIf_n hG c15
                  refine lv_aload_n hx hb dX10_readNumber_151 rfl (lv_at hl 1 rfl) ?_
                  refine lv_iload_n hx hb dX10_readNumber_152 rfl (lv_at hl 2 rfl) ?_
                  refine lv_iload hx hb dX10_readNumber_153 (lv_at hl 0 rfl) ?_
                  refine cGoV (cRunV (As := [.int i1, .int w45_6]) (rest := []) C9 hml hN hNs V I hS t_o0.1 hf8 rfl (c_X10_store l D ks τ L A N hN  ψ Gf45 o0 i1 w45_6 t_o0 ) gC_X10_54 okC_X10_store ⟨rfl, rfl, Nat.le_of_ble_eq_true rfl, Nat.le_of_ble_eq_true rfl⟩ hl.1 rfl (Nat.le_of_ble_eq_true rfl) dX10_readNumber_155 ⟨Nat.zero_le _, Nat.zero_le _⟩) hS (fun p17 f16 H locs hqf16 V I hS => ?_)
                  obtain ⟨hqf16, ghqf16⟩ := hqf16
                  replace hG := gLt_e hG (ghqf16)
                  have I : cI ks τ L ψ f16 := by rw [show p17 = ψ from hqf16.1] at I; exact I
                  refine lv_iconst (v := 1) hx hb dX10_readNumber_158 (by decide) ?_
                  exact cRetZ C9 hr hlk hN hNs V I hS (by clear hG V hS hl C9 hts hown hx hb hml hr hlk; first | rfl | decide | (subst_vars; rfl) | (rw [nope9.2.2]; rfl) | (rw [nope9.2.2]; rfl)) (⟨⟨rfl, rn_t hqf16.2 hi45⟩, hG.symm⟩) dX10_readNumber_159
                · replace hG := gIf_p hG c15
                  refine lv_aload_n hx hb dX10_readNumber_145 rfl (lv_at hl 1 rfl) ?_
                  refine lv_iload_n hx hb dX10_readNumber_146 rfl (lv_at hl 4 rfl) ?_
                  refine cGoI (cRunV (As := [.int v1_5]) (rest := []) C9 hml hN hNs V I hS t_o0.1 hf8 rfl (c_X10_broken l D ks τ L A N hN  ψ Gf45 o0 v1_5 t_o0 ) gC_X10_43 okC_X10_broken ⟨rfl, rfl, Nat.le_of_ble_eq_true rfl, Nat.le_of_ble_eq_true rfl⟩ hl.1 rfl (Nat.le_of_ble_eq_true rfl) dX10_readNumber_147 ⟨Nat.zero_le _, Nat.zero_le _⟩) hS (fun r21 p20 f19 H locs hqf19 V I hS => ?_)
                  obtain ⟨hqf19, ghqf19⟩ := hqf19
                  replace hG := gC_e hG ghqf19
                  have I : cI ks τ L ψ f19 := by rw [show p20 = ψ from hqf19.1] at I; exact I
                  exact cRetZ C9 hr hlk hN hNs V I hS (by clear hG V hS hl C9 hts hown hx hb hml hr hlk; first | rfl | decide | (subst_vars; rfl) | (rw [nope9.2.2]; rfl) | (rw [hqf19.2.2]; rfl)) (⟨⟨rfl, rn_t hqf19.2.1 hi45⟩, hG.symm⟩) dX10_readNumber_150
              · exact absurd c11 (by decide)
            · replace hG := gIf_p hG c10
              refine lv_aload_n hx hb dX10_readNumber_112 rfl (lv_at hl 0 rfl) ?_
              refine lv_aload_n hx hb dX10_readNumber_113 rfl (lv_at hl 0 rfl) ?_
              refine cG C9 V t_o0.1 hf8 rfl tC_lay8 5 (by decide) tCf_X10_26 (Or.inl rfl) rfl dX10_readNumber_114 ?_
              refine cGoI (cRunV (As := [.int v8_5]) (rest := []) C9 hml hN hNs V I hS t_o0.1 hf8 rfl (c_X10_broken l D ks τ L A N hN  ψ Gf45 o0 v8_5 t_o0 ) gC_X10_43 okC_X10_broken ⟨rfl, rfl, Nat.le_of_ble_eq_true rfl, Nat.le_of_ble_eq_true rfl⟩ hl.1 rfl (Nat.le_of_ble_eq_true rfl) dX10_readNumber_117 ⟨Nat.zero_le _, Nat.zero_le _⟩) hS (fun r24 p23 f22 H locs hqf22 V I hS => ?_)
              obtain ⟨hqf22, ghqf22⟩ := hqf22
              replace hG := gC_e hG ghqf22
              have I : cI ks τ L ψ f22 := by rw [show p23 = ψ from hqf22.1] at I; exact I
              exact cRetZ C9 hr hlk hN hNs V I hS (by clear hG V hS hl C9 hts hown hx hb hml hr hlk; first | rfl | decide | (subst_vars; rfl) | (rw [hqf22.2.2]; rfl) | (rw [nope9.2.2]; rfl)) (⟨⟨rfl, rn_t hqf22.2.1 hi45⟩, hG.symm⟩) dX10_readNumber_120
          · replace hG := gIf_n hG c9
            refine lv_aload_n hx hb dX10_readNumber_57 rfl (lv_at hl 0 rfl) ?_
            refine cGoI (cRunV (As := []) (rest := []) C9 hml hN hNs V I hS t_o0.1 hf8 rfl (c_X10_here l D ks τ L A N hN  ψ Gf45 o0 t_o0 ) gC_X10_39 okC_X10_here ⟨rfl, rfl, Nat.le_of_ble_eq_true rfl, Nat.le_of_ble_eq_true rfl⟩ hl.1 rfl (Nat.le_of_ble_eq_true rfl) dX10_readNumber_58 ⟨Nat.zero_le _, Nat.zero_le _⟩) hS (fun r27 p26 f25 H locs hqf25 V I hS => ?_)
            obtain ⟨hqf25, ghqf25⟩ := hqf25
            replace hG := gLt_e hG ghqf25
            have V : cV D L Gf45 A H := by rw [show f25 = Gf45 from congrArg Prod.snd hqf25.1] at V; exact V
            have I : cI ks τ L ψ Gf45 := by rw [show f25 = Gf45 from congrArg Prod.snd hqf25.1, show p26 = ψ from congrArg Prod.fst hqf25.1] at I; exact I
            refine lv_bipush (v := 48) hx hb dX10_readNumber_61 (by decide) ?_
            refine lv_icmp_lt (tgt := 103) hx hb dX10_readNumber_63 (by decide) (fun c28 => ?_) (fun c28 => ?_)
            · replace hG := gIf_p hG c28
              refine lv_aload_n hx hb dX10_readNumber_103 rfl (lv_at hl 0 rfl) ?_
              refine cG C9 V t_o0.1 hf8 rfl tC_lay8 5 (by decide) tCf_X10_26 (Or.inl rfl) rfl dX10_readNumber_104 ?_
              refine lv_iload hx hb dX10_readNumber_107 (lv_at hl 5 rfl) ?_
              refine lv_icmp_ne (tgt := 121) hx hb dX10_readNumber_109 (by decide) (fun c29 => ?_) (fun c29 => ?_)
              · replace hG := gIf_n hG c29
                refine lv_iload hx hb dX10_readNumber_121 (lv_at hl 4 rfl) ?_
                refine lv_if_eq (tgt := 132) hx hb dX10_readNumber_123 (by decide) (fun c30 => ?_) (fun c30 => ?_)
                · refine lv_iload hx hb dX10_readNumber_132 (lv_at hl 6 rfl) ?_
                  refine lv_istore (lv' := [(6, .int w45_6), (0, .ref o0), (1, .int i1), (2, .int i2), (3, .int v1_5), (4, .int 0), (5, .int v1_5)]) hx hb dX10_readNumber_134 hl (by decide) rfl (fun ls hl => ?_)
                  refine lv_iload_n hx hb dX10_readNumber_136 rfl (lv_at hl 3 rfl) ?_
                  refine lv_iload hx hb dX10_readNumber_137 (lv_at hl 0 rfl) ?_
                  refine cGoI (cRunS (As := [.int i2, .int w45_6]) (rest := []) C9 hml hN hNs V I hS (c_X10_inRange l D ks τ L A N hN  ψ Gf45 i2 w45_6  ) gS_X10_76 okC_X10_inRange ⟨rfl, rfl, Nat.le_of_ble_eq_true rfl, Nat.le_of_ble_eq_true rfl⟩ hl.1 rfl (Nat.le_of_ble_eq_true rfl) dX10_readNumber_139 ⟨Nat.zero_le _, Nat.zero_le _⟩) hS (fun r33 p32 f31 H locs hqf31 V I hS => ?_)
                  obtain ⟨hqf31, ghqf31⟩ := hqf31
                  replace hG := gLt_e hG ghqf31
                  have V : cV D L Gf45 A H := by rw [show f31 = Gf45 from congrArg Prod.snd hqf31] at V; exact V
                  have I : cI ks τ L ψ Gf45 := by rw [show f31 = Gf45 from congrArg Prod.snd hqf31, show p32 = ψ from congrArg Prod.fst hqf31] at I; exact I
                  refine lv_if_ne (tgt := 151) hx hb dX10_readNumber_142 (by decide) (fun c34 => ?_) (fun c34 => ?_)
                  · replace hG := gIf_n hG c34
                    refine lv_aload_n hx hb dX10_readNumber_151 rfl (lv_at hl 1 rfl) ?_
                    refine lv_iload_n hx hb dX10_readNumber_152 rfl (lv_at hl 2 rfl) ?_
                    refine lv_iload hx hb dX10_readNumber_153 (lv_at hl 0 rfl) ?_
                    refine cGoV (cRunV (As := [.int i1, .int w45_6]) (rest := []) C9 hml hN hNs V I hS t_o0.1 hf8 rfl (c_X10_store l D ks τ L A N hN  ψ Gf45 o0 i1 w45_6 t_o0 ) gC_X10_54 okC_X10_store ⟨rfl, rfl, Nat.le_of_ble_eq_true rfl, Nat.le_of_ble_eq_true rfl⟩ hl.1 rfl (Nat.le_of_ble_eq_true rfl) dX10_readNumber_155 ⟨Nat.zero_le _, Nat.zero_le _⟩) hS (fun p36 f35 H locs hqf35 V I hS => ?_)
                    obtain ⟨hqf35, ghqf35⟩ := hqf35
                    replace hG := gLt_e hG (ghqf35)
                    have I : cI ks τ L ψ f35 := by rw [show p36 = ψ from hqf35.1] at I; exact I
                    refine lv_iconst (v := 1) hx hb dX10_readNumber_158 (by decide) ?_
                    exact cRetZ C9 hr hlk hN hNs V I hS (by clear hG V hS hl C9 hts hown hx hb hml hr hlk; first | rfl | decide | (subst_vars; rfl) | (rw [nope9.2.2]; rfl) | (rw [nope9.2.2]; rfl)) (⟨⟨rfl, rn_t hqf35.2 hi45⟩, hG.symm⟩) dX10_readNumber_159
                  · replace hG := gIf_p hG c34
                    refine lv_aload_n hx hb dX10_readNumber_145 rfl (lv_at hl 1 rfl) ?_
                    refine lv_iload_n hx hb dX10_readNumber_146 rfl (lv_at hl 4 rfl) ?_
                    refine cGoI (cRunV (As := [.int v1_5]) (rest := []) C9 hml hN hNs V I hS t_o0.1 hf8 rfl (c_X10_broken l D ks τ L A N hN  ψ Gf45 o0 v1_5 t_o0 ) gC_X10_43 okC_X10_broken ⟨rfl, rfl, Nat.le_of_ble_eq_true rfl, Nat.le_of_ble_eq_true rfl⟩ hl.1 rfl (Nat.le_of_ble_eq_true rfl) dX10_readNumber_147 ⟨Nat.zero_le _, Nat.zero_le _⟩) hS (fun r40 p39 f38 H locs hqf38 V I hS => ?_)
                    obtain ⟨hqf38, ghqf38⟩ := hqf38
                    replace hG := gC_e hG ghqf38
                    have I : cI ks τ L ψ f38 := by rw [show p39 = ψ from hqf38.1] at I; exact I
                    exact cRetZ C9 hr hlk hN hNs V I hS (by clear hG V hS hl C9 hts hown hx hb hml hr hlk; first | rfl | decide | (subst_vars; rfl) | (rw [nope9.2.2]; rfl) | (rw [hqf38.2.2]; rfl)) (⟨⟨rfl, rn_t hqf38.2.1 hi45⟩, hG.symm⟩) dX10_readNumber_150
                · exact absurd c30 (by decide)
              · replace hG := gIf_p hG c29
                refine lv_aload_n hx hb dX10_readNumber_112 rfl (lv_at hl 0 rfl) ?_
                refine lv_aload_n hx hb dX10_readNumber_113 rfl (lv_at hl 0 rfl) ?_
                refine cG C9 V t_o0.1 hf8 rfl tC_lay8 5 (by decide) tCf_X10_26 (Or.inl rfl) rfl dX10_readNumber_114 ?_
                refine cGoI (cRunV (As := [.int v8_5]) (rest := []) C9 hml hN hNs V I hS t_o0.1 hf8 rfl (c_X10_broken l D ks τ L A N hN  ψ Gf45 o0 v8_5 t_o0 ) gC_X10_43 okC_X10_broken ⟨rfl, rfl, Nat.le_of_ble_eq_true rfl, Nat.le_of_ble_eq_true rfl⟩ hl.1 rfl (Nat.le_of_ble_eq_true rfl) dX10_readNumber_117 ⟨Nat.zero_le _, Nat.zero_le _⟩) hS (fun r43 p42 f41 H locs hqf41 V I hS => ?_)
                obtain ⟨hqf41, ghqf41⟩ := hqf41
                replace hG := gC_e hG ghqf41
                have I : cI ks τ L ψ f41 := by rw [show p42 = ψ from hqf41.1] at I; exact I
                exact cRetZ C9 hr hlk hN hNs V I hS (by clear hG V hS hl C9 hts hown hx hb hml hr hlk; first | rfl | decide | (subst_vars; rfl) | (rw [hqf41.2.2]; rfl) | (rw [nope9.2.2]; rfl)) (⟨⟨rfl, rn_t hqf41.2.1 hi45⟩, hG.symm⟩) dX10_readNumber_120
            · replace hG := gIf_n hG c28
              refine lv_aload_n hx hb dX10_readNumber_66 rfl (lv_at hl 0 rfl) ?_
              refine cGoI (cRunV (As := []) (rest := []) C9 hml hN hNs V I hS t_o0.1 hf8 rfl (c_X10_here l D ks τ L A N hN  ψ Gf45 o0 t_o0 ) gC_X10_39 okC_X10_here ⟨rfl, rfl, Nat.le_of_ble_eq_true rfl, Nat.le_of_ble_eq_true rfl⟩ hl.1 rfl (Nat.le_of_ble_eq_true rfl) dX10_readNumber_67 ⟨Nat.zero_le _, Nat.zero_le _⟩) hS (fun r46 p45 f44 H locs hqf44 V I hS => ?_)
              obtain ⟨hqf44, ghqf44⟩ := hqf44
              replace hG := gLt_e hG ghqf44
              have V : cV D L Gf45 A H := by rw [show f44 = Gf45 from congrArg Prod.snd hqf44.1] at V; exact V
              have I : cI ks τ L ψ Gf45 := by rw [show f44 = Gf45 from congrArg Prod.snd hqf44.1, show p45 = ψ from congrArg Prod.fst hqf44.1] at I; exact I
              refine lv_bipush (v := 57) hx hb dX10_readNumber_70 (by decide) ?_
              refine lv_icmp_gt (tgt := 103) hx hb dX10_readNumber_72 (by decide) (fun c47 => ?_) (fun c47 => ?_)
              · replace hG := gIf_p hG c47
                refine lv_aload_n hx hb dX10_readNumber_103 rfl (lv_at hl 0 rfl) ?_
                refine cG C9 V t_o0.1 hf8 rfl tC_lay8 5 (by decide) tCf_X10_26 (Or.inl rfl) rfl dX10_readNumber_104 ?_
                refine lv_iload hx hb dX10_readNumber_107 (lv_at hl 5 rfl) ?_
                refine lv_icmp_ne (tgt := 121) hx hb dX10_readNumber_109 (by decide) (fun c48 => ?_) (fun c48 => ?_)
                · replace hG := gIf_n hG c48
                  refine lv_iload hx hb dX10_readNumber_121 (lv_at hl 4 rfl) ?_
                  refine lv_if_eq (tgt := 132) hx hb dX10_readNumber_123 (by decide) (fun c49 => ?_) (fun c49 => ?_)
                  · refine lv_iload hx hb dX10_readNumber_132 (lv_at hl 6 rfl) ?_
                    refine lv_istore (lv' := [(6, .int w45_6), (0, .ref o0), (1, .int i1), (2, .int i2), (3, .int v1_5), (4, .int 0), (5, .int v1_5)]) hx hb dX10_readNumber_134 hl (by decide) rfl (fun ls hl => ?_)
                    refine lv_iload_n hx hb dX10_readNumber_136 rfl (lv_at hl 3 rfl) ?_
                    refine lv_iload hx hb dX10_readNumber_137 (lv_at hl 0 rfl) ?_
                    refine cGoI (cRunS (As := [.int i2, .int w45_6]) (rest := []) C9 hml hN hNs V I hS (c_X10_inRange l D ks τ L A N hN  ψ Gf45 i2 w45_6  ) gS_X10_76 okC_X10_inRange ⟨rfl, rfl, Nat.le_of_ble_eq_true rfl, Nat.le_of_ble_eq_true rfl⟩ hl.1 rfl (Nat.le_of_ble_eq_true rfl) dX10_readNumber_139 ⟨Nat.zero_le _, Nat.zero_le _⟩) hS (fun r52 p51 f50 H locs hqf50 V I hS => ?_)
                    obtain ⟨hqf50, ghqf50⟩ := hqf50
                    replace hG := gLt_e hG ghqf50
                    have V : cV D L Gf45 A H := by rw [show f50 = Gf45 from congrArg Prod.snd hqf50] at V; exact V
                    have I : cI ks τ L ψ Gf45 := by rw [show f50 = Gf45 from congrArg Prod.snd hqf50, show p51 = ψ from congrArg Prod.fst hqf50] at I; exact I
                    refine lv_if_ne (tgt := 151) hx hb dX10_readNumber_142 (by decide) (fun c53 => ?_) (fun c53 => ?_)
                    · replace hG := gIf_n hG c53
                      refine lv_aload_n hx hb dX10_readNumber_151 rfl (lv_at hl 1 rfl) ?_
                      refine lv_iload_n hx hb dX10_readNumber_152 rfl (lv_at hl 2 rfl) ?_
                      refine lv_iload hx hb dX10_readNumber_153 (lv_at hl 0 rfl) ?_
                      refine cGoV (cRunV (As := [.int i1, .int w45_6]) (rest := []) C9 hml hN hNs V I hS t_o0.1 hf8 rfl (c_X10_store l D ks τ L A N hN  ψ Gf45 o0 i1 w45_6 t_o0 ) gC_X10_54 okC_X10_store ⟨rfl, rfl, Nat.le_of_ble_eq_true rfl, Nat.le_of_ble_eq_true rfl⟩ hl.1 rfl (Nat.le_of_ble_eq_true rfl) dX10_readNumber_155 ⟨Nat.zero_le _, Nat.zero_le _⟩) hS (fun p55 f54 H locs hqf54 V I hS => ?_)
                      obtain ⟨hqf54, ghqf54⟩ := hqf54
                      replace hG := gLt_e hG (ghqf54)
                      have I : cI ks τ L ψ f54 := by rw [show p55 = ψ from hqf54.1] at I; exact I
                      refine lv_iconst (v := 1) hx hb dX10_readNumber_158 (by decide) ?_
                      exact cRetZ C9 hr hlk hN hNs V I hS (by clear hG V hS hl C9 hts hown hx hb hml hr hlk; first | rfl | decide | (subst_vars; rfl) | (rw [nope9.2.2]; rfl) | (rw [nope9.2.2]; rfl)) (⟨⟨rfl, rn_t hqf54.2 hi45⟩, hG.symm⟩) dX10_readNumber_159
                    · replace hG := gIf_p hG c53
                      refine lv_aload_n hx hb dX10_readNumber_145 rfl (lv_at hl 1 rfl) ?_
                      refine lv_iload_n hx hb dX10_readNumber_146 rfl (lv_at hl 4 rfl) ?_
                      refine cGoI (cRunV (As := [.int v1_5]) (rest := []) C9 hml hN hNs V I hS t_o0.1 hf8 rfl (c_X10_broken l D ks τ L A N hN  ψ Gf45 o0 v1_5 t_o0 ) gC_X10_43 okC_X10_broken ⟨rfl, rfl, Nat.le_of_ble_eq_true rfl, Nat.le_of_ble_eq_true rfl⟩ hl.1 rfl (Nat.le_of_ble_eq_true rfl) dX10_readNumber_147 ⟨Nat.zero_le _, Nat.zero_le _⟩) hS (fun r59 p58 f57 H locs hqf57 V I hS => ?_)
                      obtain ⟨hqf57, ghqf57⟩ := hqf57
                      replace hG := gC_e hG ghqf57
                      have I : cI ks τ L ψ f57 := by rw [show p58 = ψ from hqf57.1] at I; exact I
                      exact cRetZ C9 hr hlk hN hNs V I hS (by clear hG V hS hl C9 hts hown hx hb hml hr hlk; first | rfl | decide | (subst_vars; rfl) | (rw [nope9.2.2]; rfl) | (rw [hqf57.2.2]; rfl)) (⟨⟨rfl, rn_t hqf57.2.1 hi45⟩, hG.symm⟩) dX10_readNumber_150
                  · exact absurd c49 (by decide)
                · replace hG := gIf_p hG c48
                  refine lv_aload_n hx hb dX10_readNumber_112 rfl (lv_at hl 0 rfl) ?_
                  refine lv_aload_n hx hb dX10_readNumber_113 rfl (lv_at hl 0 rfl) ?_
                  refine cG C9 V t_o0.1 hf8 rfl tC_lay8 5 (by decide) tCf_X10_26 (Or.inl rfl) rfl dX10_readNumber_114 ?_
                  refine cGoI (cRunV (As := [.int v8_5]) (rest := []) C9 hml hN hNs V I hS t_o0.1 hf8 rfl (c_X10_broken l D ks τ L A N hN  ψ Gf45 o0 v8_5 t_o0 ) gC_X10_43 okC_X10_broken ⟨rfl, rfl, Nat.le_of_ble_eq_true rfl, Nat.le_of_ble_eq_true rfl⟩ hl.1 rfl (Nat.le_of_ble_eq_true rfl) dX10_readNumber_117 ⟨Nat.zero_le _, Nat.zero_le _⟩) hS (fun r62 p61 f60 H locs hqf60 V I hS => ?_)
                  obtain ⟨hqf60, ghqf60⟩ := hqf60
                  replace hG := gC_e hG ghqf60
                  have I : cI ks τ L ψ f60 := by rw [show p61 = ψ from hqf60.1] at I; exact I
                  exact cRetZ C9 hr hlk hN hNs V I hS (by clear hG V hS hl C9 hts hown hx hb hml hr hlk; first | rfl | decide | (subst_vars; rfl) | (rw [hqf60.2.2]; rfl) | (rw [nope9.2.2]; rfl)) (⟨⟨rfl, rn_t hqf60.2.1 hi45⟩, hG.symm⟩) dX10_readNumber_120
              · replace hG := gIf_n hG c47
                refine lv_iload hx hb dX10_readNumber_75 (lv_at hl 6 rfl) ?_
                refine lv_bipush (v := 10) hx hb dX10_readNumber_77 (by decide) ?_
                refine lv_imul hx hb dX10_readNumber_79 ?_
                refine lv_aload_n hx hb dX10_readNumber_80 rfl (lv_at hl 0 rfl) ?_
                refine cGoI (cRunV (As := []) (rest := [.int (w45_6 * 10)]) C9 hml hN hNs V I hS t_o0.1 hf8 rfl (c_X10_here l D ks τ L A N hN  ψ Gf45 o0 t_o0 ) gC_X10_39 okC_X10_here ⟨rfl, rfl, Nat.le_of_ble_eq_true rfl, Nat.le_of_ble_eq_true rfl⟩ hl.1 rfl (Nat.le_of_ble_eq_true rfl) dX10_readNumber_81 ⟨Nat.zero_le _, Nat.zero_le _⟩) hS (fun r65 p64 f63 H locs hqf63 V I hS => ?_)
                obtain ⟨hqf63, ghqf63⟩ := hqf63
                replace hG := gLt_e hG ghqf63
                have V : cV D L Gf45 A H := by rw [show f63 = Gf45 from congrArg Prod.snd hqf63.1] at V; exact V
                have I : cI ks τ L ψ Gf45 := by rw [show f63 = Gf45 from congrArg Prod.snd hqf63.1, show p64 = ψ from congrArg Prod.fst hqf63.1] at I; exact I
                refine lv_bipush (v := 48) hx hb dX10_readNumber_84 (by decide) ?_
                refine lv_isub hx hb dX10_readNumber_86 ?_
                refine lv_iadd hx hb dX10_readNumber_87 ?_
                refine lv_topi (fun x66 ex66 => ?_)
                replace hG := gLt_e hG ex66
                refine lv_istore (lv' := [(6, .int x66), (0, .ref o0), (1, .int i1), (2, .int i2), (3, .int v1_5), (4, .int 0), (5, .int v1_5)]) hx hb dX10_readNumber_88 hl (by decide) rfl (fun ls hl => ?_)
                refine lv_aload_n hx hb dX10_readNumber_90 rfl (lv_at hl 1 rfl) ?_
                refine lv_dup hx hb dX10_readNumber_91 rfl ?_
                refine cG C9 V t_o0.1 hf8 rfl tC_lay8 5 (by decide) tCf_X10_26 (Or.inl rfl) rfl dX10_readNumber_92 ?_
                refine lv_iconst (v := 1) hx hb dX10_readNumber_95 (by decide) ?_
                refine lv_iadd hx hb dX10_readNumber_96 ?_
                refine lv_topi (fun x67 ex67 => ?_)
                replace hG := gLt_e hG ex67
                refine cP (v := .int x67) (ty := .int) C9 V hS t_o0.1 hf8 rfl tC_lay8 tyX10 tyX10_ok nmX10 5 (by decide) tCf_X10_26 rfl rfl (by decide +kernel) rfl rfl (Nat.le_of_ble_eq_true rfl) dX10_readNumber_97 (fun f68 H locs ef68 V hS => ?_)
                replace hG := gLt_e hG (view_I hf8 rfl ef68)
                have hf69 : f68 o0 = .inr (8, [.ref v8_0, .int v8_1, .int ψ, .int v8_3, .ref v8_4, .int x67]) := up_s ef68
                have hh70 := sb_a ex67 h08 (hr_q hf8 hqf25.2 (hrG c28)) hp8.2
                have h070 := hh70.1
                have h170 := hh70.2
                have hp70 := hp8
                have I := cI_up I t_o0.2 ef68 (mk8 t8_0 t8_4 hp70 h070 h170)
                refine lv_goto (tgt := 45) hx hb dX10_readNumber_100 (by decide) ?_
                exact ih45 x66  f68 _ _ _ I (by clear hG V hS hl C9 hts hown hx hb hml hr hlk; rw [tAt_e hf69]; exact rn_le ex67 (hr_q hf8 hqf25.2 (hrG c28))) (show _ < _ from by have z9 := hm45; rw [tAt_e hf8] at z9; rw [tAt_e hf69]; exact cmsd z9 (sb_m ex67 (hr_q hf8 hqf25.2 (hrG c28)) h070 hp70).1 (sb_m ex67 (hr_q hf8 hqf25.2 (hrG c28)) h070 hp70).2) hG V hS (lv_sub hl [1, 2, 3, 4, 5, 6, 0] rfl)
      exact loop45 (4000) x7  f _ _ _ I (by clear hG V hS hl C9 hts hown hx hb hml hr hlk; first | exact h1 | (rw [tAt_e hf1]; exact rn_le nope9 (hr_q hf1 hqf2.2 (hrE c5 (by decide))))) (sb_fuel I t_o0) hG V hS (lv_sub hl [4, 5, 6, 3, 2, 1, 0] rfl)
    · exact absurd c6 (by decide)
  · replace hG := gIf_p hG c5
    refine lv_iconst (v := 1) hx hb dX10_readNumber_14 (by decide) ?_
    refine lv_goto (tgt := 19) hx hb dX10_readNumber_15 (by decide) ?_
    refine lv_istore (lv' := [(4, .int 1), (3, .int v1_5), (0, .ref o0), (1, .int i1), (2, .int i2)]) hx hb dX10_readNumber_19 hl (by decide) rfl (fun ls hl => ?_)
    refine lv_iload hx hb dX10_readNumber_21 (lv_at hl 0 rfl) ?_
    refine lv_if_eq (tgt := 36) hx hb dX10_readNumber_23 (by decide) (fun c71 => ?_) (fun c71 => ?_)
    · exact absurd c71 (by decide)
    · refine lv_aload_n hx hb dX10_readNumber_26 rfl (lv_at hl 2 rfl) ?_
      refine lv_dup hx hb dX10_readNumber_27 rfl ?_
      refine cG C9 V t_o0.1 hf1 rfl tC_lay8 5 (by decide) tCf_X10_26 (Or.inl rfl) rfl dX10_readNumber_28 ?_
      refine lv_iconst (v := 1) hx hb dX10_readNumber_31 (by decide) ?_
      refine lv_iadd hx hb dX10_readNumber_32 ?_
      refine lv_topi (fun x72 ex72 => ?_)
      replace hG := gLt_e hG ex72
      refine cP (v := .int x72) (ty := .int) C9 V hS t_o0.1 hf1 rfl tC_lay8 tyX10 tyX10_ok nmX10 5 (by decide) tCf_X10_26 rfl rfl (by decide +kernel) rfl rfl (Nat.le_of_ble_eq_true rfl) dX10_readNumber_33 (fun f73 H locs ef73 V hS => ?_)
      replace hG := gLt_e hG (view_I hf1 rfl ef73)
      have hf74 : f73 o0 = .inr (8, [.ref v1_0, .int v1_1, .int ψ, .int v1_3, .ref v1_4, .int x72]) := up_s ef73
      have hh75 := sb_a ex72 h01 (hr_q hf1 hqf2.2 (hrE c5 (by decide))) hp1.2
      have h075 := hh75.1
      have h175 := hh75.2
      have hp75 := hp1
      have I := cI_up I t_o0.2 ef73 (mk8 t1_0 t1_4 hp75 h075 h175)
      refine lv_aload_n hx hb dX10_readNumber_36 rfl (lv_at hl 2 rfl) ?_
      refine cG C9 V t_o0.1 hf74 rfl tC_lay8 5 (by decide) tCf_X10_26 (Or.inl rfl) rfl dX10_readNumber_37 ?_
      refine lv_istore (lv' := [(5, .int x72), (4, .int 1), (3, .int v1_5), (0, .ref o0), (1, .int i1), (2, .int i2)]) hx hb dX10_readNumber_40 hl (by decide) rfl (fun ls hl => ?_)
      refine lv_iconst (v := 0) hx hb dX10_readNumber_42 (by decide) ?_
      refine lv_topi (fun x76 ex76 => ?_)
      replace hG := gLt_e hG ex76
      refine lv_istore (lv' := [(6, .int x76), (5, .int x72), (4, .int 1), (3, .int v1_5), (0, .ref o0), (1, .int i1), (2, .int i2)]) hx hb dX10_readNumber_43 hl (by decide) rfl (fun ls hl => ?_)
      have loop45 : ∀ (N9_45 : Nat) (w45_6 : Int32)  (Gf45 : Nat → va_E) (H : Heap) (locs : List Loc) (ls : Array Slot), cI ks τ L ψ Gf45 → (tAt Gf45 o0 ≤ ψ) → ((ψ - tAt Gf45 o0).toInt.toNat) < N9_45 → (FC_X10_readNumber (view f) o0 i1 i2 = FC_X10_readNumber_L45x1 o0 i1 i2 v1_5 x72 N9_45 w45_6 (view Gf45)) → cV D L Gf45 A H → va_S A s.heap H locs → lv_has ls 7 [(0, .ref o0), (1, .int i1), (2, .int i2), (3, .int v1_5), (4, .int 1), (5, .int x72), (6, .int w45_6)] → W p l e ({ frames := 1, cells := 0, slots := 0, locals := 22 } : Room) s m ([.ref o0, .int i1, .int i2] : List Value).toArray below meth c H locs 0 0 (MQ below (va_Qi (fun r9 x9 => (x9.1 = ψ ∧ tAt x9.2 o0 ≤ ψ) ∧ (r9, view x9.2) = FC_X10_readNumber (view f) o0 i1 i2) (cB D ks τ L A N) A) ([.ref o0, .int i1, .int i2] : List Value).toArray s 0 0 A) (F0 m 45 ls []) := by
        intro N9_45
        induction N9_45 with
        | zero => intro w45_6  Gf45 H locs ls I hi45 hm45; exact absurd hm45 (Nat.not_lt_zero _)
        | succ N9_45 ih45 =>
          intro w45_6  Gf45 H locs ls I hi45 hm45 hG V hS hl
          rw [FC_X10_readNumber_L45x1] at hG
          refine lv_aload_n hx hb dX10_readNumber_45 rfl (lv_at hl 0 rfl) ?_
          obtain ⟨v77_0, v77_1, v77_3, v77_4, v77_5, hf77, t77_0, t77_4, hp77, h077, h177⟩ := op8 I t_o0
          refine cG C9 V t_o0.1 hf77 rfl tC_lay8 5 (by decide) tCf_X10_26 (Or.inl rfl) rfl dX10_readNumber_46 ?_
          replace hG := gLt_e hG (view_gI hf77 rfl)
          refine lv_iload hx hb dX10_readNumber_49 (lv_at hl 5 rfl) ?_
          refine lv_isub hx hb dX10_readNumber_51 ?_
          refine lv_bipush (v := 9) hx hb dX10_readNumber_52 (by decide) ?_
          refine lv_icmp_ge (tgt := 103) hx hb dX10_readNumber_54 (by decide) (fun c78 => ?_) (fun c78 => ?_)
          · replace hG := gIf_p hG c78
            refine lv_aload_n hx hb dX10_readNumber_103 rfl (lv_at hl 0 rfl) ?_
            refine cG C9 V t_o0.1 hf77 rfl tC_lay8 5 (by decide) tCf_X10_26 (Or.inl rfl) rfl dX10_readNumber_104 ?_
            refine lv_iload hx hb dX10_readNumber_107 (lv_at hl 5 rfl) ?_
            refine lv_icmp_ne (tgt := 121) hx hb dX10_readNumber_109 (by decide) (fun c79 => ?_) (fun c79 => ?_)
            · replace hG := gIf_n hG c79
              refine lv_iload hx hb dX10_readNumber_121 (lv_at hl 4 rfl) ?_
              refine lv_if_eq (tgt := 132) hx hb dX10_readNumber_123 (by decide) (fun c80 => ?_) (fun c80 => ?_)
              · exact absurd c80 (by decide)
              · refine lv_iload hx hb dX10_readNumber_126 (lv_at hl 6 rfl) ?_
                refine lv_ineg hx hb dX10_readNumber_128 ?_
                refine lv_goto (tgt := 134) hx hb dX10_readNumber_129 (by decide) ?_
                refine lv_topi (fun x81 ex81 => ?_)
                replace hG := gLt_e hG ex81
                refine lv_istore (lv' := [(6, .int x81), (0, .ref o0), (1, .int i1), (2, .int i2), (3, .int v1_5), (4, .int 1), (5, .int x72)]) hx hb dX10_readNumber_134 hl (by decide) rfl (fun ls hl => ?_)
                refine lv_iload_n hx hb dX10_readNumber_136 rfl (lv_at hl 3 rfl) ?_
                refine lv_iload hx hb dX10_readNumber_137 (lv_at hl 0 rfl) ?_
                refine cGoI (cRunS (As := [.int i2, .int x81]) (rest := []) C9 hml hN hNs V I hS (c_X10_inRange l D ks τ L A N hN  ψ Gf45 i2 x81  ) gS_X10_76 okC_X10_inRange ⟨rfl, rfl, Nat.le_of_ble_eq_true rfl, Nat.le_of_ble_eq_true rfl⟩ hl.1 rfl (Nat.le_of_ble_eq_true rfl) dX10_readNumber_139 ⟨Nat.zero_le _, Nat.zero_le _⟩) hS (fun r84 p83 f82 H locs hqf82 V I hS => ?_)
                obtain ⟨hqf82, ghqf82⟩ := hqf82
                replace hG := gLt_e hG ghqf82
                have V : cV D L Gf45 A H := by rw [show f82 = Gf45 from congrArg Prod.snd hqf82] at V; exact V
                have I : cI ks τ L ψ Gf45 := by rw [show f82 = Gf45 from congrArg Prod.snd hqf82, show p83 = ψ from congrArg Prod.fst hqf82] at I; exact I
                refine lv_if_ne (tgt := 151) hx hb dX10_readNumber_142 (by decide) (fun c85 => ?_) (fun c85 => ?_)
                · replace hG := gIf_n hG c85
                  refine lv_aload_n hx hb dX10_readNumber_151 rfl (lv_at hl 1 rfl) ?_
                  refine lv_iload_n hx hb dX10_readNumber_152 rfl (lv_at hl 2 rfl) ?_
                  refine lv_iload hx hb dX10_readNumber_153 (lv_at hl 0 rfl) ?_
                  refine cGoV (cRunV (As := [.int i1, .int x81]) (rest := []) C9 hml hN hNs V I hS t_o0.1 hf77 rfl (c_X10_store l D ks τ L A N hN  ψ Gf45 o0 i1 x81 t_o0 ) gC_X10_54 okC_X10_store ⟨rfl, rfl, Nat.le_of_ble_eq_true rfl, Nat.le_of_ble_eq_true rfl⟩ hl.1 rfl (Nat.le_of_ble_eq_true rfl) dX10_readNumber_155 ⟨Nat.zero_le _, Nat.zero_le _⟩) hS (fun p87 f86 H locs hqf86 V I hS => ?_)
                  obtain ⟨hqf86, ghqf86⟩ := hqf86
                  replace hG := gLt_e hG (ghqf86)
                  have I : cI ks τ L ψ f86 := by rw [show p87 = ψ from hqf86.1] at I; exact I
                  refine lv_iconst (v := 1) hx hb dX10_readNumber_158 (by decide) ?_
                  exact cRetZ C9 hr hlk hN hNs V I hS (by clear hG V hS hl C9 hts hown hx hb hml hr hlk; first | rfl | decide | (subst_vars; rfl) | (rw [nope9.2.2]; rfl) | (rw [nope9.2.2]; rfl)) (⟨⟨rfl, rn_t hqf86.2 hi45⟩, hG.symm⟩) dX10_readNumber_159
                · replace hG := gIf_p hG c85
                  refine lv_aload_n hx hb dX10_readNumber_145 rfl (lv_at hl 1 rfl) ?_
                  refine lv_iload_n hx hb dX10_readNumber_146 rfl (lv_at hl 4 rfl) ?_
                  refine cGoI (cRunV (As := [.int v1_5]) (rest := []) C9 hml hN hNs V I hS t_o0.1 hf77 rfl (c_X10_broken l D ks τ L A N hN  ψ Gf45 o0 v1_5 t_o0 ) gC_X10_43 okC_X10_broken ⟨rfl, rfl, Nat.le_of_ble_eq_true rfl, Nat.le_of_ble_eq_true rfl⟩ hl.1 rfl (Nat.le_of_ble_eq_true rfl) dX10_readNumber_147 ⟨Nat.zero_le _, Nat.zero_le _⟩) hS (fun r91 p90 f89 H locs hqf89 V I hS => ?_)
                  obtain ⟨hqf89, ghqf89⟩ := hqf89
                  replace hG := gC_e hG ghqf89
                  have I : cI ks τ L ψ f89 := by rw [show p90 = ψ from hqf89.1] at I; exact I
                  exact cRetZ C9 hr hlk hN hNs V I hS (by clear hG V hS hl C9 hts hown hx hb hml hr hlk; first | rfl | decide | (subst_vars; rfl) | (rw [nope9.2.2]; rfl) | (rw [hqf89.2.2]; rfl)) (⟨⟨rfl, rn_t hqf89.2.1 hi45⟩, hG.symm⟩) dX10_readNumber_150
            · replace hG := gIf_p hG c79
              refine lv_aload_n hx hb dX10_readNumber_112 rfl (lv_at hl 0 rfl) ?_
              refine lv_aload_n hx hb dX10_readNumber_113 rfl (lv_at hl 0 rfl) ?_
              refine cG C9 V t_o0.1 hf77 rfl tC_lay8 5 (by decide) tCf_X10_26 (Or.inl rfl) rfl dX10_readNumber_114 ?_
              refine cGoI (cRunV (As := [.int v77_5]) (rest := []) C9 hml hN hNs V I hS t_o0.1 hf77 rfl (c_X10_broken l D ks τ L A N hN  ψ Gf45 o0 v77_5 t_o0 ) gC_X10_43 okC_X10_broken ⟨rfl, rfl, Nat.le_of_ble_eq_true rfl, Nat.le_of_ble_eq_true rfl⟩ hl.1 rfl (Nat.le_of_ble_eq_true rfl) dX10_readNumber_117 ⟨Nat.zero_le _, Nat.zero_le _⟩) hS (fun r94 p93 f92 H locs hqf92 V I hS => ?_)
              obtain ⟨hqf92, ghqf92⟩ := hqf92
              replace hG := gC_e hG ghqf92
              have I : cI ks τ L ψ f92 := by rw [show p93 = ψ from hqf92.1] at I; exact I
              exact cRetZ C9 hr hlk hN hNs V I hS (by clear hG V hS hl C9 hts hown hx hb hml hr hlk; first | rfl | decide | (subst_vars; rfl) | (rw [hqf92.2.2]; rfl) | (rw [nope9.2.2]; rfl)) (⟨⟨rfl, rn_t hqf92.2.1 hi45⟩, hG.symm⟩) dX10_readNumber_120
          · replace hG := gIf_n hG c78
            refine lv_aload_n hx hb dX10_readNumber_57 rfl (lv_at hl 0 rfl) ?_
            refine cGoI (cRunV (As := []) (rest := []) C9 hml hN hNs V I hS t_o0.1 hf77 rfl (c_X10_here l D ks τ L A N hN  ψ Gf45 o0 t_o0 ) gC_X10_39 okC_X10_here ⟨rfl, rfl, Nat.le_of_ble_eq_true rfl, Nat.le_of_ble_eq_true rfl⟩ hl.1 rfl (Nat.le_of_ble_eq_true rfl) dX10_readNumber_58 ⟨Nat.zero_le _, Nat.zero_le _⟩) hS (fun r97 p96 f95 H locs hqf95 V I hS => ?_)
            obtain ⟨hqf95, ghqf95⟩ := hqf95
            replace hG := gLt_e hG ghqf95
            have V : cV D L Gf45 A H := by rw [show f95 = Gf45 from congrArg Prod.snd hqf95.1] at V; exact V
            have I : cI ks τ L ψ Gf45 := by rw [show f95 = Gf45 from congrArg Prod.snd hqf95.1, show p96 = ψ from congrArg Prod.fst hqf95.1] at I; exact I
            refine lv_bipush (v := 48) hx hb dX10_readNumber_61 (by decide) ?_
            refine lv_icmp_lt (tgt := 103) hx hb dX10_readNumber_63 (by decide) (fun c98 => ?_) (fun c98 => ?_)
            · replace hG := gIf_p hG c98
              refine lv_aload_n hx hb dX10_readNumber_103 rfl (lv_at hl 0 rfl) ?_
              refine cG C9 V t_o0.1 hf77 rfl tC_lay8 5 (by decide) tCf_X10_26 (Or.inl rfl) rfl dX10_readNumber_104 ?_
              refine lv_iload hx hb dX10_readNumber_107 (lv_at hl 5 rfl) ?_
              refine lv_icmp_ne (tgt := 121) hx hb dX10_readNumber_109 (by decide) (fun c99 => ?_) (fun c99 => ?_)
              · replace hG := gIf_n hG c99
                refine lv_iload hx hb dX10_readNumber_121 (lv_at hl 4 rfl) ?_
                refine lv_if_eq (tgt := 132) hx hb dX10_readNumber_123 (by decide) (fun c100 => ?_) (fun c100 => ?_)
                · exact absurd c100 (by decide)
                · refine lv_iload hx hb dX10_readNumber_126 (lv_at hl 6 rfl) ?_
                  refine lv_ineg hx hb dX10_readNumber_128 ?_
                  refine lv_goto (tgt := 134) hx hb dX10_readNumber_129 (by decide) ?_
                  refine lv_topi (fun x101 ex101 => ?_)
                  replace hG := gLt_e hG ex101
                  refine lv_istore (lv' := [(6, .int x101), (0, .ref o0), (1, .int i1), (2, .int i2), (3, .int v1_5), (4, .int 1), (5, .int x72)]) hx hb dX10_readNumber_134 hl (by decide) rfl (fun ls hl => ?_)
                  refine lv_iload_n hx hb dX10_readNumber_136 rfl (lv_at hl 3 rfl) ?_
                  refine lv_iload hx hb dX10_readNumber_137 (lv_at hl 0 rfl) ?_
                  refine cGoI (cRunS (As := [.int i2, .int x101]) (rest := []) C9 hml hN hNs V I hS (c_X10_inRange l D ks τ L A N hN  ψ Gf45 i2 x101  ) gS_X10_76 okC_X10_inRange ⟨rfl, rfl, Nat.le_of_ble_eq_true rfl, Nat.le_of_ble_eq_true rfl⟩ hl.1 rfl (Nat.le_of_ble_eq_true rfl) dX10_readNumber_139 ⟨Nat.zero_le _, Nat.zero_le _⟩) hS (fun r104 p103 f102 H locs hqf102 V I hS => ?_)
                  obtain ⟨hqf102, ghqf102⟩ := hqf102
                  replace hG := gLt_e hG ghqf102
                  have V : cV D L Gf45 A H := by rw [show f102 = Gf45 from congrArg Prod.snd hqf102] at V; exact V
                  have I : cI ks τ L ψ Gf45 := by rw [show f102 = Gf45 from congrArg Prod.snd hqf102, show p103 = ψ from congrArg Prod.fst hqf102] at I; exact I
                  refine lv_if_ne (tgt := 151) hx hb dX10_readNumber_142 (by decide) (fun c105 => ?_) (fun c105 => ?_)
                  · replace hG := gIf_n hG c105
                    refine lv_aload_n hx hb dX10_readNumber_151 rfl (lv_at hl 1 rfl) ?_
                    refine lv_iload_n hx hb dX10_readNumber_152 rfl (lv_at hl 2 rfl) ?_
                    refine lv_iload hx hb dX10_readNumber_153 (lv_at hl 0 rfl) ?_
                    refine cGoV (cRunV (As := [.int i1, .int x101]) (rest := []) C9 hml hN hNs V I hS t_o0.1 hf77 rfl (c_X10_store l D ks τ L A N hN  ψ Gf45 o0 i1 x101 t_o0 ) gC_X10_54 okC_X10_store ⟨rfl, rfl, Nat.le_of_ble_eq_true rfl, Nat.le_of_ble_eq_true rfl⟩ hl.1 rfl (Nat.le_of_ble_eq_true rfl) dX10_readNumber_155 ⟨Nat.zero_le _, Nat.zero_le _⟩) hS (fun p107 f106 H locs hqf106 V I hS => ?_)
                    obtain ⟨hqf106, ghqf106⟩ := hqf106
                    replace hG := gLt_e hG (ghqf106)
                    have I : cI ks τ L ψ f106 := by rw [show p107 = ψ from hqf106.1] at I; exact I
                    refine lv_iconst (v := 1) hx hb dX10_readNumber_158 (by decide) ?_
                    exact cRetZ C9 hr hlk hN hNs V I hS (by clear hG V hS hl C9 hts hown hx hb hml hr hlk; first | rfl | decide | (subst_vars; rfl) | (rw [nope9.2.2]; rfl) | (rw [nope9.2.2]; rfl)) (⟨⟨rfl, rn_t hqf106.2 hi45⟩, hG.symm⟩) dX10_readNumber_159
                  · replace hG := gIf_p hG c105
                    refine lv_aload_n hx hb dX10_readNumber_145 rfl (lv_at hl 1 rfl) ?_
                    refine lv_iload_n hx hb dX10_readNumber_146 rfl (lv_at hl 4 rfl) ?_
                    refine cGoI (cRunV (As := [.int v1_5]) (rest := []) C9 hml hN hNs V I hS t_o0.1 hf77 rfl (c_X10_broken l D ks τ L A N hN  ψ Gf45 o0 v1_5 t_o0 ) gC_X10_43 okC_X10_broken ⟨rfl, rfl, Nat.le_of_ble_eq_true rfl, Nat.le_of_ble_eq_true rfl⟩ hl.1 rfl (Nat.le_of_ble_eq_true rfl) dX10_readNumber_147 ⟨Nat.zero_le _, Nat.zero_le _⟩) hS (fun r111 p110 f109 H locs hqf109 V I hS => ?_)
                    obtain ⟨hqf109, ghqf109⟩ := hqf109
                    replace hG := gC_e hG ghqf109
                    have I : cI ks τ L ψ f109 := by rw [show p110 = ψ from hqf109.1] at I; exact I
                    exact cRetZ C9 hr hlk hN hNs V I hS (by clear hG V hS hl C9 hts hown hx hb hml hr hlk; first | rfl | decide | (subst_vars; rfl) | (rw [nope9.2.2]; rfl) | (rw [hqf109.2.2]; rfl)) (⟨⟨rfl, rn_t hqf109.2.1 hi45⟩, hG.symm⟩) dX10_readNumber_150
              · replace hG := gIf_p hG c99
                refine lv_aload_n hx hb dX10_readNumber_112 rfl (lv_at hl 0 rfl) ?_
                refine lv_aload_n hx hb dX10_readNumber_113 rfl (lv_at hl 0 rfl) ?_
                refine cG C9 V t_o0.1 hf77 rfl tC_lay8 5 (by decide) tCf_X10_26 (Or.inl rfl) rfl dX10_readNumber_114 ?_
                refine cGoI (cRunV (As := [.int v77_5]) (rest := []) C9 hml hN hNs V I hS t_o0.1 hf77 rfl (c_X10_broken l D ks τ L A N hN  ψ Gf45 o0 v77_5 t_o0 ) gC_X10_43 okC_X10_broken ⟨rfl, rfl, Nat.le_of_ble_eq_true rfl, Nat.le_of_ble_eq_true rfl⟩ hl.1 rfl (Nat.le_of_ble_eq_true rfl) dX10_readNumber_117 ⟨Nat.zero_le _, Nat.zero_le _⟩) hS (fun r114 p113 f112 H locs hqf112 V I hS => ?_)
                obtain ⟨hqf112, ghqf112⟩ := hqf112
                replace hG := gC_e hG ghqf112
                have I : cI ks τ L ψ f112 := by rw [show p113 = ψ from hqf112.1] at I; exact I
                exact cRetZ C9 hr hlk hN hNs V I hS (by clear hG V hS hl C9 hts hown hx hb hml hr hlk; first | rfl | decide | (subst_vars; rfl) | (rw [hqf112.2.2]; rfl) | (rw [nope9.2.2]; rfl)) (⟨⟨rfl, rn_t hqf112.2.1 hi45⟩, hG.symm⟩) dX10_readNumber_120
            · replace hG := gIf_n hG c98
              refine lv_aload_n hx hb dX10_readNumber_66 rfl (lv_at hl 0 rfl) ?_
              refine cGoI (cRunV (As := []) (rest := []) C9 hml hN hNs V I hS t_o0.1 hf77 rfl (c_X10_here l D ks τ L A N hN  ψ Gf45 o0 t_o0 ) gC_X10_39 okC_X10_here ⟨rfl, rfl, Nat.le_of_ble_eq_true rfl, Nat.le_of_ble_eq_true rfl⟩ hl.1 rfl (Nat.le_of_ble_eq_true rfl) dX10_readNumber_67 ⟨Nat.zero_le _, Nat.zero_le _⟩) hS (fun r117 p116 f115 H locs hqf115 V I hS => ?_)
              obtain ⟨hqf115, ghqf115⟩ := hqf115
              replace hG := gLt_e hG ghqf115
              have V : cV D L Gf45 A H := by rw [show f115 = Gf45 from congrArg Prod.snd hqf115.1] at V; exact V
              have I : cI ks τ L ψ Gf45 := by rw [show f115 = Gf45 from congrArg Prod.snd hqf115.1, show p116 = ψ from congrArg Prod.fst hqf115.1] at I; exact I
              refine lv_bipush (v := 57) hx hb dX10_readNumber_70 (by decide) ?_
              refine lv_icmp_gt (tgt := 103) hx hb dX10_readNumber_72 (by decide) (fun c118 => ?_) (fun c118 => ?_)
              · replace hG := gIf_p hG c118
                refine lv_aload_n hx hb dX10_readNumber_103 rfl (lv_at hl 0 rfl) ?_
                refine cG C9 V t_o0.1 hf77 rfl tC_lay8 5 (by decide) tCf_X10_26 (Or.inl rfl) rfl dX10_readNumber_104 ?_
                refine lv_iload hx hb dX10_readNumber_107 (lv_at hl 5 rfl) ?_
                refine lv_icmp_ne (tgt := 121) hx hb dX10_readNumber_109 (by decide) (fun c119 => ?_) (fun c119 => ?_)
                · replace hG := gIf_n hG c119
                  refine lv_iload hx hb dX10_readNumber_121 (lv_at hl 4 rfl) ?_
                  refine lv_if_eq (tgt := 132) hx hb dX10_readNumber_123 (by decide) (fun c120 => ?_) (fun c120 => ?_)
                  · exact absurd c120 (by decide)
                  · refine lv_iload hx hb dX10_readNumber_126 (lv_at hl 6 rfl) ?_
                    refine lv_ineg hx hb dX10_readNumber_128 ?_
                    refine lv_goto (tgt := 134) hx hb dX10_readNumber_129 (by decide) ?_
                    refine lv_topi (fun x121 ex121 => ?_)
                    replace hG := gLt_e hG ex121
                    refine lv_istore (lv' := [(6, .int x121), (0, .ref o0), (1, .int i1), (2, .int i2), (3, .int v1_5), (4, .int 1), (5, .int x72)]) hx hb dX10_readNumber_134 hl (by decide) rfl (fun ls hl => ?_)
                    refine lv_iload_n hx hb dX10_readNumber_136 rfl (lv_at hl 3 rfl) ?_
                    refine lv_iload hx hb dX10_readNumber_137 (lv_at hl 0 rfl) ?_
                    refine cGoI (cRunS (As := [.int i2, .int x121]) (rest := []) C9 hml hN hNs V I hS (c_X10_inRange l D ks τ L A N hN  ψ Gf45 i2 x121  ) gS_X10_76 okC_X10_inRange ⟨rfl, rfl, Nat.le_of_ble_eq_true rfl, Nat.le_of_ble_eq_true rfl⟩ hl.1 rfl (Nat.le_of_ble_eq_true rfl) dX10_readNumber_139 ⟨Nat.zero_le _, Nat.zero_le _⟩) hS (fun r124 p123 f122 H locs hqf122 V I hS => ?_)
                    obtain ⟨hqf122, ghqf122⟩ := hqf122
                    replace hG := gLt_e hG ghqf122
                    have V : cV D L Gf45 A H := by rw [show f122 = Gf45 from congrArg Prod.snd hqf122] at V; exact V
                    have I : cI ks τ L ψ Gf45 := by rw [show f122 = Gf45 from congrArg Prod.snd hqf122, show p123 = ψ from congrArg Prod.fst hqf122] at I; exact I
                    refine lv_if_ne (tgt := 151) hx hb dX10_readNumber_142 (by decide) (fun c125 => ?_) (fun c125 => ?_)
                    · replace hG := gIf_n hG c125
                      refine lv_aload_n hx hb dX10_readNumber_151 rfl (lv_at hl 1 rfl) ?_
                      refine lv_iload_n hx hb dX10_readNumber_152 rfl (lv_at hl 2 rfl) ?_
                      refine lv_iload hx hb dX10_readNumber_153 (lv_at hl 0 rfl) ?_
                      refine cGoV (cRunV (As := [.int i1, .int x121]) (rest := []) C9 hml hN hNs V I hS t_o0.1 hf77 rfl (c_X10_store l D ks τ L A N hN  ψ Gf45 o0 i1 x121 t_o0 ) gC_X10_54 okC_X10_store ⟨rfl, rfl, Nat.le_of_ble_eq_true rfl, Nat.le_of_ble_eq_true rfl⟩ hl.1 rfl (Nat.le_of_ble_eq_true rfl) dX10_readNumber_155 ⟨Nat.zero_le _, Nat.zero_le _⟩) hS (fun p127 f126 H locs hqf126 V I hS => ?_)
                      obtain ⟨hqf126, ghqf126⟩ := hqf126
                      replace hG := gLt_e hG (ghqf126)
                      have I : cI ks τ L ψ f126 := by rw [show p127 = ψ from hqf126.1] at I; exact I
                      refine lv_iconst (v := 1) hx hb dX10_readNumber_158 (by decide) ?_
                      exact cRetZ C9 hr hlk hN hNs V I hS (by clear hG V hS hl C9 hts hown hx hb hml hr hlk; first | rfl | decide | (subst_vars; rfl) | (rw [nope9.2.2]; rfl) | (rw [nope9.2.2]; rfl)) (⟨⟨rfl, rn_t hqf126.2 hi45⟩, hG.symm⟩) dX10_readNumber_159
                    · replace hG := gIf_p hG c125
                      refine lv_aload_n hx hb dX10_readNumber_145 rfl (lv_at hl 1 rfl) ?_
                      refine lv_iload_n hx hb dX10_readNumber_146 rfl (lv_at hl 4 rfl) ?_
                      refine cGoI (cRunV (As := [.int v1_5]) (rest := []) C9 hml hN hNs V I hS t_o0.1 hf77 rfl (c_X10_broken l D ks τ L A N hN  ψ Gf45 o0 v1_5 t_o0 ) gC_X10_43 okC_X10_broken ⟨rfl, rfl, Nat.le_of_ble_eq_true rfl, Nat.le_of_ble_eq_true rfl⟩ hl.1 rfl (Nat.le_of_ble_eq_true rfl) dX10_readNumber_147 ⟨Nat.zero_le _, Nat.zero_le _⟩) hS (fun r131 p130 f129 H locs hqf129 V I hS => ?_)
                      obtain ⟨hqf129, ghqf129⟩ := hqf129
                      replace hG := gC_e hG ghqf129
                      have I : cI ks τ L ψ f129 := by rw [show p130 = ψ from hqf129.1] at I; exact I
                      exact cRetZ C9 hr hlk hN hNs V I hS (by clear hG V hS hl C9 hts hown hx hb hml hr hlk; first | rfl | decide | (subst_vars; rfl) | (rw [nope9.2.2]; rfl) | (rw [hqf129.2.2]; rfl)) (⟨⟨rfl, rn_t hqf129.2.1 hi45⟩, hG.symm⟩) dX10_readNumber_150
                · replace hG := gIf_p hG c119
                  refine lv_aload_n hx hb dX10_readNumber_112 rfl (lv_at hl 0 rfl) ?_
                  refine lv_aload_n hx hb dX10_readNumber_113 rfl (lv_at hl 0 rfl) ?_
                  refine cG C9 V t_o0.1 hf77 rfl tC_lay8 5 (by decide) tCf_X10_26 (Or.inl rfl) rfl dX10_readNumber_114 ?_
                  refine cGoI (cRunV (As := [.int v77_5]) (rest := []) C9 hml hN hNs V I hS t_o0.1 hf77 rfl (c_X10_broken l D ks τ L A N hN  ψ Gf45 o0 v77_5 t_o0 ) gC_X10_43 okC_X10_broken ⟨rfl, rfl, Nat.le_of_ble_eq_true rfl, Nat.le_of_ble_eq_true rfl⟩ hl.1 rfl (Nat.le_of_ble_eq_true rfl) dX10_readNumber_117 ⟨Nat.zero_le _, Nat.zero_le _⟩) hS (fun r134 p133 f132 H locs hqf132 V I hS => ?_)
                  obtain ⟨hqf132, ghqf132⟩ := hqf132
                  replace hG := gC_e hG ghqf132
                  have I : cI ks τ L ψ f132 := by rw [show p133 = ψ from hqf132.1] at I; exact I
                  exact cRetZ C9 hr hlk hN hNs V I hS (by clear hG V hS hl C9 hts hown hx hb hml hr hlk; first | rfl | decide | (subst_vars; rfl) | (rw [hqf132.2.2]; rfl) | (rw [nope9.2.2]; rfl)) (⟨⟨rfl, rn_t hqf132.2.1 hi45⟩, hG.symm⟩) dX10_readNumber_120
              · replace hG := gIf_n hG c118
                refine lv_iload hx hb dX10_readNumber_75 (lv_at hl 6 rfl) ?_
                refine lv_bipush (v := 10) hx hb dX10_readNumber_77 (by decide) ?_
                refine lv_imul hx hb dX10_readNumber_79 ?_
                refine lv_aload_n hx hb dX10_readNumber_80 rfl (lv_at hl 0 rfl) ?_
                refine cGoI (cRunV (As := []) (rest := [.int (w45_6 * 10)]) C9 hml hN hNs V I hS t_o0.1 hf77 rfl (c_X10_here l D ks τ L A N hN  ψ Gf45 o0 t_o0 ) gC_X10_39 okC_X10_here ⟨rfl, rfl, Nat.le_of_ble_eq_true rfl, Nat.le_of_ble_eq_true rfl⟩ hl.1 rfl (Nat.le_of_ble_eq_true rfl) dX10_readNumber_81 ⟨Nat.zero_le _, Nat.zero_le _⟩) hS (fun r137 p136 f135 H locs hqf135 V I hS => ?_)
                obtain ⟨hqf135, ghqf135⟩ := hqf135
                replace hG := gLt_e hG ghqf135
                have V : cV D L Gf45 A H := by rw [show f135 = Gf45 from congrArg Prod.snd hqf135.1] at V; exact V
                have I : cI ks τ L ψ Gf45 := by rw [show f135 = Gf45 from congrArg Prod.snd hqf135.1, show p136 = ψ from congrArg Prod.fst hqf135.1] at I; exact I
                refine lv_bipush (v := 48) hx hb dX10_readNumber_84 (by decide) ?_
                refine lv_isub hx hb dX10_readNumber_86 ?_
                refine lv_iadd hx hb dX10_readNumber_87 ?_
                refine lv_topi (fun x138 ex138 => ?_)
                replace hG := gLt_e hG ex138
                refine lv_istore (lv' := [(6, .int x138), (0, .ref o0), (1, .int i1), (2, .int i2), (3, .int v1_5), (4, .int 1), (5, .int x72)]) hx hb dX10_readNumber_88 hl (by decide) rfl (fun ls hl => ?_)
                refine lv_aload_n hx hb dX10_readNumber_90 rfl (lv_at hl 1 rfl) ?_
                refine lv_dup hx hb dX10_readNumber_91 rfl ?_
                refine cG C9 V t_o0.1 hf77 rfl tC_lay8 5 (by decide) tCf_X10_26 (Or.inl rfl) rfl dX10_readNumber_92 ?_
                refine lv_iconst (v := 1) hx hb dX10_readNumber_95 (by decide) ?_
                refine lv_iadd hx hb dX10_readNumber_96 ?_
                refine lv_topi (fun x139 ex139 => ?_)
                replace hG := gLt_e hG ex139
                refine cP (v := .int x139) (ty := .int) C9 V hS t_o0.1 hf77 rfl tC_lay8 tyX10 tyX10_ok nmX10 5 (by decide) tCf_X10_26 rfl rfl (by decide +kernel) rfl rfl (Nat.le_of_ble_eq_true rfl) dX10_readNumber_97 (fun f140 H locs ef140 V hS => ?_)
                replace hG := gLt_e hG (view_I hf77 rfl ef140)
                have hf141 : f140 o0 = .inr (8, [.ref v77_0, .int v77_1, .int ψ, .int v77_3, .ref v77_4, .int x139]) := up_s ef140
                have hh142 := sb_a ex139 h077 (hr_q hf77 hqf95.2 (hrG c98)) hp77.2
                have h0142 := hh142.1
                have h1142 := hh142.2
                have hp142 := hp77
                have I := cI_up I t_o0.2 ef140 (mk8 t77_0 t77_4 hp142 h0142 h1142)
                refine lv_goto (tgt := 45) hx hb dX10_readNumber_100 (by decide) ?_
                exact ih45 x138  f140 _ _ _ I (by clear hG V hS hl C9 hts hown hx hb hml hr hlk; rw [tAt_e hf141]; exact rn_le ex139 (hr_q hf77 hqf95.2 (hrG c98))) (show _ < _ from by have z9 := hm45; rw [tAt_e hf77] at z9; rw [tAt_e hf141]; exact cmsd z9 (sb_m ex139 (hr_q hf77 hqf95.2 (hrG c98)) h0142 hp142).1 (sb_m ex139 (hr_q hf77 hqf95.2 (hrG c98)) h0142 hp142).2) hG V hS (lv_sub hl [1, 2, 3, 4, 5, 6, 0] rfl)
      exact loop45 (4000) x76  f73 _ _ _ I (by clear hG V hS hl C9 hts hown hx hb hml hr hlk; first | exact h1 | (rw [tAt_e hf74]; exact rn_le ex72 (hr_q hf1 hqf2.2 (hrE c5 (by decide))))) (sb_fuel I t_o0) hG V hS (lv_sub hl [4, 5, 6, 3, 2, 1, 0] rfl)
def FC_X10_readInstruction_L90 (o0 : Nat) (i1 : Int32) (u17 : Nat) : Nat → Int32 → xS → Int32 × xS
  | 0, w90_5, XGf90 => ((0 : Int32), XGf90)
  | N9_90 + 1, w90_5, XGf90 => gLt (FC_J0_length_8abf5 XGf90 (34 + u17) : Int32) (fun r21 => if r21 ≤ (w90_5 : Int32) then (((1 : Int32), XGf90)) else (gLt (FC_X10_here XGf90 o0 : Int32) (fun r26 => if (r26 : Int32) = 32 then (gLt (FC_X10_skipBlanks XGf90 o0 : xS) (fun Xf28 => gLt (FC_J0_charAt_5068e Xf28 (34 + u17) w90_5 : Int32) (fun r33 => gC (FC_X10_readNumber Xf28 o0 ((i1 + 1) + w90_5) r33) (fun r37 Xf35 => if (r37 : Int32) = 0 then (((0 : Int32), Xf35)) else (gLt (w90_5 + (1) : Int32) (fun x39 => FC_X10_readInstruction_L90 o0 i1 u17 N9_90 x39 Xf35)))))) else (gLt (xI XGf90 o0 5 : Int32) (fun v23_5 => gC (FC_X10_broken XGf90 o0 v23_5) (fun r42 Xf40 => ((r42 : Int32), Xf40)))))))
def FC_X10_readInstruction_L90x1 (o0 : Nat) (i1 : Int32) (u63 : Nat) : Nat → Int32 → xS → Int32 × xS
  | 0, w90_5, XGf90 => ((0 : Int32), XGf90)
  | N9_90 + 1, w90_5, XGf90 => gLt (FC_J0_length_8abf5 XGf90 (34 + u63) : Int32) (fun r67 => if r67 ≤ (w90_5 : Int32) then (((1 : Int32), XGf90)) else (gLt (FC_X10_here XGf90 o0 : Int32) (fun r72 => if (r72 : Int32) = 32 then (gLt (FC_X10_skipBlanks XGf90 o0 : xS) (fun Xf74 => gLt (FC_J0_charAt_5068e Xf74 (34 + u63) w90_5 : Int32) (fun r79 => gC (FC_X10_readNumber Xf74 o0 ((i1 + 1) + w90_5) r79) (fun r83 Xf81 => if (r83 : Int32) = 0 then (((0 : Int32), Xf81)) else (gLt (w90_5 + (1) : Int32) (fun x85 => FC_X10_readInstruction_L90x1 o0 i1 u63 N9_90 x85 Xf81)))))) else (gLt (xI XGf90 o0 5 : Int32) (fun v69_5 => gC (FC_X10_broken XGf90 o0 v69_5) (fun r88 Xf86 => ((r88 : Int32), Xf86)))))))
def FC_X10_readInstruction_L90x2 (o0 : Nat) (i1 : Int32) (u109 : Nat) : Nat → Int32 → xS → Int32 × xS
  | 0, w90_5, XGf90 => ((0 : Int32), XGf90)
  | N9_90 + 1, w90_5, XGf90 => gLt (FC_J0_length_8abf5 XGf90 (34 + u109) : Int32) (fun r113 => if r113 ≤ (w90_5 : Int32) then (((1 : Int32), XGf90)) else (gLt (FC_X10_here XGf90 o0 : Int32) (fun r118 => if (r118 : Int32) = 32 then (gLt (FC_X10_skipBlanks XGf90 o0 : xS) (fun Xf120 => gLt (FC_J0_charAt_5068e Xf120 (34 + u109) w90_5 : Int32) (fun r125 => gC (FC_X10_readNumber Xf120 o0 ((i1 + 1) + w90_5) r125) (fun r129 Xf127 => if (r129 : Int32) = 0 then (((0 : Int32), Xf127)) else (gLt (w90_5 + (1) : Int32) (fun x131 => FC_X10_readInstruction_L90x2 o0 i1 u109 N9_90 x131 Xf127)))))) else (gLt (xI XGf90 o0 5 : Int32) (fun v115_5 => gC (FC_X10_broken XGf90 o0 v115_5) (fun r134 Xf132 => ((r134 : Int32), Xf132)))))))
def FC_X10_readInstruction_L5 (o0 : Nat) (i1 : Int32) (v1_5 : Int32) : Nat → xS → Int32 × xS
  | 0, XGf5 => ((0 : Int32), XGf5)
  | N9_5 + 1, XGf5 => gLt (xI XGf5 o0 5 : Int32) (fun v2_5 => gLt (xI XGf5 o0 2 : Int32) (fun ψ => if ψ ≤ (v2_5 : Int32) then (gLt (FC_X10_wordAt XGf5 o0 v1_5 : Int32) (fun r6 => if (r6 : Int32) < 0 then (gC (FC_X10_broken XGf5 o0 v1_5) (fun r10 Xf8 => ((r10 : Int32), Xf8))) else (if (r6 : Int32) < 34 then (gLt (FC_X10_store XGf5 o0 i1 r6 : xS) (fun Xf13 => gLt (Int32.toNatClampNeg r6 : Nat) (fun u17 => gLt (0 : Int32) (fun x18 => FC_X10_readInstruction_L90 o0 i1 u17 ((nI (sLn.getD (34 + u17) 0) - x18).toInt.toNat + 1) x18 Xf13)))) else (gC (FC_X10_broken XGf5 o0 v1_5) (fun r45 Xf43 => ((r45 : Int32), Xf43)))))) else (gLt (FC_X10_here XGf5 o0 : Int32) (fun r48 => if (r48 : Int32) < 97 then (gLt (FC_X10_wordAt XGf5 o0 v1_5 : Int32) (fun r52 => if (r52 : Int32) < 0 then (gC (FC_X10_broken XGf5 o0 v1_5) (fun r56 Xf54 => ((r56 : Int32), Xf54))) else (if (r52 : Int32) < 34 then (gLt (FC_X10_store XGf5 o0 i1 r52 : xS) (fun Xf59 => gLt (Int32.toNatClampNeg r52 : Nat) (fun u63 => gLt (0 : Int32) (fun x64 => FC_X10_readInstruction_L90x1 o0 i1 u63 ((nI (sLn.getD (34 + u63) 0) - x64).toInt.toNat + 1) x64 Xf59)))) else (gC (FC_X10_broken XGf5 o0 v1_5) (fun r91 Xf89 => ((r91 : Int32), Xf89)))))) else (gLt (FC_X10_here XGf5 o0 : Int32) (fun r94 => if 122 < (r94 : Int32) then (gLt (FC_X10_wordAt XGf5 o0 v1_5 : Int32) (fun r98 => if (r98 : Int32) < 0 then (gC (FC_X10_broken XGf5 o0 v1_5) (fun r102 Xf100 => ((r102 : Int32), Xf100))) else (if (r98 : Int32) < 34 then (gLt (FC_X10_store XGf5 o0 i1 r98 : xS) (fun Xf105 => gLt (Int32.toNatClampNeg r98 : Nat) (fun u109 => gLt (0 : Int32) (fun x110 => FC_X10_readInstruction_L90x2 o0 i1 u109 ((nI (sLn.getD (34 + u109) 0) - x110).toInt.toNat + 1) x110 Xf105)))) else (gC (FC_X10_broken XGf5 o0 v1_5) (fun r137 Xf135 => ((r137 : Int32), Xf135)))))) else (gLt ((v2_5 + 1) : Int32) (fun x138 => gLt (xwI XGf5 o0 5 x138 : xS) (fun Xf139 => FC_X10_readInstruction_L5 o0 i1 v1_5 N9_5  Xf139)))))))))
def FC_X10_readInstruction (X : xS) (o0 : Nat) (i1 : Int32) : Int32 × xS := gLt (xI X o0 5 : Int32) (fun v1_5 => FC_X10_readInstruction_L5 o0 i1 v1_5 (4000)  X)
set_option maxHeartbeats 1500000 in
set_option maxRecDepth 100000 in
theorem c_X10_readInstruction (l : Launch) (D : va_G) (ks : kS) (τ : Nat → Nat) (L : List Nat) (A : Nat → Prop) (N : State → Prop) (hN : cNk A N) (κ : kC) (hN0 : ∀ U, N U → N0 κ A U) (ψ : Int32) (f : Nat → va_E) (o0 : Nat) (i1 : Int32) (t_o0 : ty τ L o0 8) (h1 : tAt f o0 ≤ ψ) : Met l yX10_readInstruction (Cond.code yX10_readInstruction cX10_readInstruction 6 (some .boolean) :: tC) ({ frames := 6, cells := 0, slots := 0, locals := 130 }) (va_Pc [.ref o0, .int i1] (cB D ks τ L A N (ψ, f))) (va_Qi (fun r9 x9 => (x9.1 = ψ ∧ tAt x9.2 o0 ≤ ψ) ∧ (r9, view x9.2) = FC_X10_readInstruction (view f) o0 i1) (cB D ks τ L A N) A) 0 0 A := by
  refine cMet (own := RX10) (by decide) rfl (Nat.le_of_ble_eq_true rfl) ?_
  intro p e s m below meth c ls C9 hml hr hlk V I hNs hl
  have hx := C9.1
  have hb := C9.2.1
  have hown := C9.2.2.1
  have hts := C9.2.2.2.1
  have h0 := hN0 s hNs
  have hS : va_S A s.heap s.heap [] := va_S.rf
  have hG := FC_X10_readInstruction.eq_1 (view f) o0 i1
  have hl : lv_has ls 6 [(0, .ref o0), (1, .int i1)] := hl
  refine lv_aload_n hx hb dX10_readInstruction_0 rfl (lv_at hl 0 rfl) ?_
  obtain ⟨v1_0, v1_1, v1_3, v1_4, v1_5, hf1, t1_0, t1_4, hp1, h01, h11⟩ := op8 I t_o0
  refine cG C9 V t_o0.1 hf1 rfl tC_lay8 5 (by decide) tCf_X10_26 (Or.inl rfl) rfl dX10_readInstruction_1 ?_
  replace hG := gLt_e hG (view_gI hf1 rfl)
  refine lv_istore_n (lv' := [(2, .int v1_5), (0, .ref o0), (1, .int i1)]) hx hb dX10_readInstruction_4 rfl hl (by decide) rfl (fun ls hl => ?_)
  have loop5 : ∀ (N9_5 : Nat)   (Gf5 : Nat → va_E) (H : Heap) (locs : List Loc) (ls : Array Slot), cI ks τ L ψ Gf5 → (tAt Gf5 o0 ≤ ψ) → ((ψ - tAt Gf5 o0).toInt.toNat) < N9_5 → (FC_X10_readInstruction (view f) o0 i1 = FC_X10_readInstruction_L5 o0 i1 v1_5 N9_5  (view Gf5)) → cV D L Gf5 A H → va_S A s.heap H locs → lv_has ls 6 [(0, .ref o0), (1, .int i1), (2, .int v1_5)] → W p l e ({ frames := 6, cells := 0, slots := 0, locals := 130 } : Room) s m ([.ref o0, .int i1] : List Value).toArray below meth c H locs 0 0 (MQ below (va_Qi (fun r9 x9 => (x9.1 = ψ ∧ tAt x9.2 o0 ≤ ψ) ∧ (r9, view x9.2) = FC_X10_readInstruction (view f) o0 i1) (cB D ks τ L A N) A) ([.ref o0, .int i1] : List Value).toArray s 0 0 A) (F0 m 5 ls []) := by
    intro N9_5
    induction N9_5 with
    | zero => intro   Gf5 H locs ls I hi5 hm5; exact absurd hm5 (Nat.not_lt_zero _)
    | succ N9_5 ih5 =>
      intro   Gf5 H locs ls I hi5 hm5 hG V hS hl
      rw [FC_X10_readInstruction_L5] at hG
      refine lv_aload_n hx hb dX10_readInstruction_5 rfl (lv_at hl 0 rfl) ?_
      obtain ⟨v2_0, v2_1, v2_3, v2_4, v2_5, hf2, t2_0, t2_4, hp2, h02, h12⟩ := op8 I t_o0
      refine cG C9 V t_o0.1 hf2 rfl tC_lay8 5 (by decide) tCf_X10_26 (Or.inl rfl) rfl dX10_readInstruction_6 ?_
      replace hG := gLt_e hG (view_gI hf2 rfl)
      refine lv_aload_n hx hb dX10_readInstruction_9 rfl (lv_at hl 0 rfl) ?_
      refine cG C9 V t_o0.1 hf2 rfl tC_lay8 2 (by decide) tCf_X10_23 (Or.inl rfl) rfl dX10_readInstruction_10 ?_
      replace hG := gLt_e hG (view_gI hf2 rfl)
      refine lv_icmp_ge (tgt := 47) hx hb dX10_readInstruction_13 (by decide) (fun c3 => ?_) (fun c3 => ?_)
      · replace hG := gIf_p hG c3
        refine lv_aload_n hx hb dX10_readInstruction_47 rfl (lv_at hl 0 rfl) ?_
        refine lv_iload_n hx hb dX10_readInstruction_48 rfl (lv_at hl 2 rfl) ?_
        refine cGoI (cRunV (As := [.int v1_5]) (rest := []) C9 hml hN hNs V I hS t_o0.1 hf2 rfl (c_X10_wordAt l D ks τ L A N hN κ hN0 ψ Gf5 o0 v1_5 t_o0 ) gC_X10_46 okC_X10_wordAt ⟨rfl, rfl, Nat.le_of_ble_eq_true rfl, Nat.le_of_ble_eq_true rfl⟩ hl.1 rfl (Nat.le_of_ble_eq_true rfl) dX10_readInstruction_49 ⟨Nat.zero_le _, Nat.zero_le _⟩) hS (fun r6 p5 f4 H locs hqf4 V I hS => ?_)
        obtain ⟨hqf4, ghqf4⟩ := hqf4
        replace hG := gLt_e hG ghqf4
        have V : cV D L Gf5 A H := by rw [show f4 = Gf5 from congrArg Prod.snd hqf4] at V; exact V
        have I : cI ks τ L ψ Gf5 := by rw [show f4 = Gf5 from congrArg Prod.snd hqf4, show p5 = ψ from congrArg Prod.fst hqf4] at I; exact I
        refine lv_istore_n (lv' := [(3, .int r6), (0, .ref o0), (1, .int i1), (2, .int v1_5)]) hx hb dX10_readInstruction_52 rfl hl (by decide) rfl (fun ls hl => ?_)
        refine lv_iload_n hx hb dX10_readInstruction_53 rfl (lv_at hl 0 rfl) ?_
        refine lv_if_lt (tgt := 65) hx hb dX10_readInstruction_54 (by decide) (fun c7 => ?_) (fun c7 => ?_)
        · replace hG := gIf_p hG c7
          refine lv_aload_n hx hb dX10_readInstruction_65 rfl (lv_at hl 1 rfl) ?_
          refine lv_iload_n hx hb dX10_readInstruction_66 rfl (lv_at hl 3 rfl) ?_
          refine cGoI (cRunV (As := [.int v1_5]) (rest := []) C9 hml hN hNs V I hS t_o0.1 hf2 rfl (c_X10_broken l D ks τ L A N hN  ψ Gf5 o0 v1_5 t_o0 ) gC_X10_43 okC_X10_broken ⟨rfl, rfl, Nat.le_of_ble_eq_true rfl, Nat.le_of_ble_eq_true rfl⟩ hl.1 rfl (Nat.le_of_ble_eq_true rfl) dX10_readInstruction_67 ⟨Nat.zero_le _, Nat.zero_le _⟩) hS (fun r10 p9 f8 H locs hqf8 V I hS => ?_)
          obtain ⟨hqf8, ghqf8⟩ := hqf8
          replace hG := gC_e hG ghqf8
          have I : cI ks τ L ψ f8 := by rw [show p9 = ψ from hqf8.1] at I; exact I
          exact cRetZ C9 hr hlk hN hNs V I hS (by clear hG V hS hl C9 hts hown hx hb hml hr hlk h0 hN0; first | rfl | decide | (subst_vars; rfl) | (rw [hqf8.2.2]; rfl) | (rw [nope9.2.2]; rfl)) (⟨⟨rfl, rn_t hqf8.2.1 hi5⟩, hG.symm⟩) dX10_readInstruction_70
        · replace hG := gIf_n hG c7
          refine lv_iload_n hx hb dX10_readInstruction_57 rfl (lv_at hl 0 rfl) ?_
          refine cZw C9 h0 hS (by simp [nwL, RX10]) dX10_readInstruction_58 (fun y11 hy11 => ?_)
          refine cAw C9 hy11 hS dX10_readInstruction_61 ?_
          refine lv_icmp_lt (tgt := 71) hx hb dX10_readInstruction_62 (by decide) (fun c12 => ?_) (fun c12 => ?_)
          · replace hG := gIf_p hG c12
            refine lv_aload_n hx hb dX10_readInstruction_71 rfl (lv_at hl 1 rfl) ?_
            refine lv_iload_n hx hb dX10_readInstruction_72 rfl (lv_at hl 2 rfl) ?_
            refine lv_iload_n hx hb dX10_readInstruction_73 rfl (lv_at hl 0 rfl) ?_
            refine cGoV (cRunV (As := [.int i1, .int r6]) (rest := []) C9 hml hN hNs V I hS t_o0.1 hf2 rfl (c_X10_store l D ks τ L A N hN  ψ Gf5 o0 i1 r6 t_o0 ) gC_X10_54 okC_X10_store ⟨rfl, rfl, Nat.le_of_ble_eq_true rfl, Nat.le_of_ble_eq_true rfl⟩ hl.1 rfl (Nat.le_of_ble_eq_true rfl) dX10_readInstruction_74 ⟨Nat.zero_le _, Nat.zero_le _⟩) hS (fun p14 f13 H locs hqf13 V I hS => ?_)
            obtain ⟨hqf13, ghqf13⟩ := hqf13
            replace hG := gLt_e hG (ghqf13)
            have I : cI ks τ L ψ f13 := by rw [show p14 = ψ from hqf13.1] at I; exact I
            refine cZw C9 h0 hS (by simp [nwL, RX10]) dX10_readInstruction_77 (fun y16 hy16 => ?_)
            refine lv_iload_n hx hb dX10_readInstruction_80 rfl (lv_at hl 0 rfl) ?_
            refine cLw C9 hy16 hS (cvin (N := 34) rfl (ci_le c7) (c12)) dX10_readInstruction_81 (fun u17 eu17 hu17 => ?_)
            replace hG := gLt_e hG (eu17)
            refine cGn hu17 C9 h0 hS tCf_X10_58 dX10_readInstruction_82 ?_
            refine lv_astore (lv' := [(4, .ref (κ.2.1 (34 + u17))), (3, .int r6), (0, .ref o0), (1, .int i1), (2, .int v1_5)]) hx hb dX10_readInstruction_85 hl (by decide) rfl (fun ls hl => ?_)
            refine lv_iconst (v := 0) hx hb dX10_readInstruction_87 (by decide) ?_
            refine lv_topi (fun x18 ex18 => ?_)
            replace hG := gLt_e hG ex18
            refine lv_istore (lv' := [(5, .int x18), (4, .ref (κ.2.1 (34 + u17))), (3, .int r6), (0, .ref o0), (1, .int i1), (2, .int v1_5)]) hx hb dX10_readInstruction_88 hl (by decide) rfl (fun ls hl => ?_)
            have loop90 : ∀ (N9_90 : Nat) (w90_5 : Int32)  (Gf90 : Nat → va_E) (H : Heap) (locs : List Loc) (ls : Array Slot), cI ks τ L ψ Gf90 → (tAt Gf90 o0 ≤ ψ ∧ 0 ≤ w90_5 ∧ w90_5 ≤ nI (sLn.getD (34 + u17) 0)) → ((nI (sLn.getD (34 + u17) 0) - w90_5).toInt.toNat) < N9_90 → (FC_X10_readInstruction (view f) o0 i1 = FC_X10_readInstruction_L90 o0 i1 u17 N9_90 w90_5 (view Gf90)) → cV D L Gf90 A H → va_S A s.heap H locs → lv_has ls 6 [(0, .ref o0), (1, .int i1), (4, .ref (κ.2.1 (34 + u17))), (5, .int w90_5)] → W p l e ({ frames := 6, cells := 0, slots := 0, locals := 130 } : Room) s m ([.ref o0, .int i1] : List Value).toArray below meth c H locs 0 0 (MQ below (va_Qi (fun r9 x9 => (x9.1 = ψ ∧ tAt x9.2 o0 ≤ ψ) ∧ (r9, view x9.2) = FC_X10_readInstruction (view f) o0 i1) (cB D ks τ L A N) A) ([.ref o0, .int i1] : List Value).toArray s 0 0 A) (F0 m 90 ls []) := by
              intro N9_90
              induction N9_90 with
              | zero => intro w90_5  Gf90 H locs ls I hi90 hm90; exact absurd hm90 (Nat.not_lt_zero _)
              | succ N9_90 ih90 =>
                intro w90_5  Gf90 H locs ls I hi90 hm90 hG V hS hl
                rw [FC_X10_readInstruction_L90] at hG
                refine lv_iload hx hb dX10_readInstruction_90 (lv_at hl 3 rfl) ?_
                refine lv_aload hx hb dX10_readInstruction_92 (lv_at hl 2 rfl) ?_
                refine cGoI (cRunR (As := []) (rest := [.int w90_5]) C9 hml hN hNs V I hS (isT_r h0 hS (Nat.add_lt_add_left hu17 34)) (c_J0_length_8abf5 l D ks τ L A N hN κ hN0 ψ Gf90 (34 + u17) (Nat.add_lt_add_left hu17 34) ) gC_X10_64 okC_J0_length_8abf5 ⟨rfl, rfl, Nat.le_of_ble_eq_true rfl, Nat.le_of_ble_eq_true rfl⟩ hl.1 rfl (Nat.le_of_ble_eq_true rfl) dX10_readInstruction_94 ⟨Nat.zero_le _, Nat.zero_le _⟩) hS (fun r21 p20 f19 H locs hqf19 V I hS => ?_)
                obtain ⟨hqf19, ghqf19⟩ := hqf19
                replace hG := gLt_e hG ghqf19
                have V : cV D L Gf90 A H := by rw [show f19 = Gf90 from congrArg Prod.snd hqf19.1] at V; exact V
                have I : cI ks τ L ψ Gf90 := by rw [show f19 = Gf90 from congrArg Prod.snd hqf19.1, show p20 = ψ from congrArg Prod.fst hqf19.1] at I; exact I
                refine lv_icmp_ge (tgt := 150) hx hb dX10_readInstruction_97 (by decide) (fun c22 => ?_) (fun c22 => ?_)
                · replace hG := gIf_p hG c22
                  refine lv_iconst (v := 1) hx hb dX10_readInstruction_150 (by decide) ?_
                  exact cRetZ C9 hr hlk hN hNs V I hS (by clear hG V hS hl C9 hts hown hx hb hml hr hlk h0 hN0; first | rfl | decide | (subst_vars; rfl) | (rw [nope9.2.2]; rfl) | (rw [nope9.2.2]; rfl)) (⟨⟨rfl, hi90.1⟩, hG.symm⟩) dX10_readInstruction_151
                · replace hG := gIf_n hG c22
                  refine lv_aload_n hx hb dX10_readInstruction_100 rfl (lv_at hl 0 rfl) ?_
                  obtain ⟨v23_0, v23_1, v23_3, v23_4, v23_5, hf23, t23_0, t23_4, hp23, h023, h123⟩ := op8 I t_o0
                  refine cGoI (cRunV (As := []) (rest := []) C9 hml hN hNs V I hS t_o0.1 hf23 rfl (c_X10_here l D ks τ L A N hN  ψ Gf90 o0 t_o0 ) gC_X10_39 okC_X10_here ⟨rfl, rfl, Nat.le_of_ble_eq_true rfl, Nat.le_of_ble_eq_true rfl⟩ hl.1 rfl (Nat.le_of_ble_eq_true rfl) dX10_readInstruction_101 ⟨Nat.zero_le _, Nat.zero_le _⟩) hS (fun r26 p25 f24 H locs hqf24 V I hS => ?_)
                  obtain ⟨hqf24, ghqf24⟩ := hqf24
                  replace hG := gLt_e hG ghqf24
                  have V : cV D L Gf90 A H := by rw [show f24 = Gf90 from congrArg Prod.snd hqf24.1] at V; exact V
                  have I : cI ks τ L ψ Gf90 := by rw [show f24 = Gf90 from congrArg Prod.snd hqf24.1, show p25 = ψ from congrArg Prod.fst hqf24.1] at I; exact I
                  refine lv_bipush (v := 32) hx hb dX10_readInstruction_104 (by decide) ?_
                  refine lv_icmp_eq (tgt := 118) hx hb dX10_readInstruction_106 (by decide) (fun c27 => ?_) (fun c27 => ?_)
                  · replace hG := gIf_p hG c27
                    refine lv_aload_n hx hb dX10_readInstruction_118 rfl (lv_at hl 0 rfl) ?_
                    refine cGoV (cRunV (As := []) (rest := []) C9 hml hN hNs V I hS t_o0.1 hf23 rfl (c_X10_skipBlanks l D ks τ L A N hN  ψ Gf90 o0 t_o0 (hi90.1)) gC_X10_29 okC_X10_skipBlanks ⟨rfl, rfl, Nat.le_of_ble_eq_true rfl, Nat.le_of_ble_eq_true rfl⟩ hl.1 rfl (Nat.le_of_ble_eq_true rfl) dX10_readInstruction_119 ⟨Nat.zero_le _, Nat.zero_le _⟩) hS (fun p29 f28 H locs hqf28 V I hS => ?_)
                    obtain ⟨hqf28, ghqf28⟩ := hqf28
                    replace hG := gLt_e hG (ghqf28)
                    have I : cI ks τ L ψ f28 := by rw [show p29 = ψ from hqf28.1] at I; exact I
                    refine lv_aload_n hx hb dX10_readInstruction_122 rfl (lv_at hl 0 rfl) ?_
                    refine lv_iload_n hx hb dX10_readInstruction_123 rfl (lv_at hl 1 rfl) ?_
                    refine lv_iconst (v := 1) hx hb dX10_readInstruction_124 (by decide) ?_
                    refine lv_iadd hx hb dX10_readInstruction_125 ?_
                    refine lv_iload hx hb dX10_readInstruction_126 (lv_at hl 3 rfl) ?_
                    refine lv_iadd hx hb dX10_readInstruction_128 ?_
                    refine lv_aload hx hb dX10_readInstruction_129 (lv_at hl 2 rfl) ?_
                    refine lv_iload hx hb dX10_readInstruction_131 (lv_at hl 3 rfl) ?_
                    refine cGoI (cRunR (As := [.int w90_5]) (rest := [.int ((i1 + 1) + w90_5), .ref o0]) C9 hml hN hNs V I hS (isT_r h0 hS (Nat.add_lt_add_left hu17 34)) (c_J0_charAt_5068e l D ks τ L A N hN κ hN0 ψ f28 (34 + u17) w90_5 (Nat.add_lt_add_left hu17 34) (hi90.2.1) ((it_lt c22 hqf19.2))) gC_X10_68 okC_J0_charAt_5068e ⟨rfl, rfl, Nat.le_of_ble_eq_true rfl, Nat.le_of_ble_eq_true rfl⟩ hl.1 rfl (Nat.le_of_ble_eq_true rfl) dX10_readInstruction_133 ⟨Nat.zero_le _, Nat.zero_le _⟩) hS (fun r33 p32 f31 H locs hqf31 V I hS => ?_)
                    obtain ⟨hqf31, ghqf31⟩ := hqf31
                    replace hG := gLt_e hG ghqf31
                    have V : cV D L f28 A H := by rw [show f31 = f28 from congrArg Prod.snd hqf31] at V; exact V
                    have I : cI ks τ L ψ f28 := by rw [show f31 = f28 from congrArg Prod.snd hqf31, show p32 = ψ from congrArg Prod.fst hqf31] at I; exact I
                    obtain ⟨v34_0, v34_1, v34_3, v34_4, v34_5, hf34, t34_0, t34_4, hp34, h034, h134⟩ := op8 I t_o0
                    refine cGoI (cRunV (As := [.int ((i1 + 1) + w90_5), .int r33]) (rest := []) C9 hml hN hNs V I hS t_o0.1 hf34 rfl (c_X10_readNumber l D ks τ L A N hN  ψ f28 o0 ((i1 + 1) + w90_5) r33 t_o0 (hqf28.2.2)) gC_X10_72 okC_X10_readNumber ⟨rfl, rfl, Nat.le_of_ble_eq_true rfl, Nat.le_of_ble_eq_true rfl⟩ hl.1 rfl (Nat.le_of_ble_eq_true rfl) dX10_readInstruction_136 ⟨Nat.zero_le _, Nat.zero_le _⟩) hS (fun r37 p36 f35 H locs hqf35 V I hS => ?_)
                    obtain ⟨hqf35, ghqf35⟩ := hqf35
                    replace hG := gC_e hG ghqf35
                    have I : cI ks τ L ψ f35 := by rw [show p36 = ψ from hqf35.1] at I; exact I
                    refine lv_if_ne (tgt := 144) hx hb dX10_readInstruction_139 (by decide) (fun c38 => ?_) (fun c38 => ?_)
                    · replace hG := gIf_n hG c38
                      obtain ⟨x39, ex39⟩ : ∃ y : Int32, y = w90_5 + (1) := ⟨_, rfl⟩
                      replace hG := gLt_e hG ex39
                      refine lv_iinc (v := x39) (lv' := [(5, .int x39), (0, .ref o0), (1, .int i1), (4, .ref (κ.2.1 (34 + u17)))]) hx hb dX10_readInstruction_144 hl (k := 3) rfl (by rw [ex39]; rfl) (by decide) rfl (fun ls hl => ?_)
                      refine lv_goto (tgt := 90) hx hb dX10_readInstruction_147 (by decide) ?_
                      exact ih90 x39  f35 _ _ _ I (⟨hqf35.2, ca_up ex39 hi90.2.1 (it_lt c22 hqf19.2)⟩) (cmsd hm90 (ca_dec ex39 hi90.2.1 (it_lt c22 hqf19.2)).1 (ca_dec ex39 hi90.2.1 (it_lt c22 hqf19.2)).2) hG V hS (lv_sub hl [1, 2, 3, 0] rfl)
                    · replace hG := gIf_p hG c38
                      refine lv_iconst (v := 0) hx hb dX10_readInstruction_142 (by decide) ?_
                      exact cRetZ C9 hr hlk hN hNs V I hS (by clear hG V hS hl C9 hts hown hx hb hml hr hlk h0 hN0; first | rfl | decide | (subst_vars; rfl) | (rw [nope9.2.2]; rfl) | (rw [nope9.2.2]; rfl)) (⟨⟨rfl, hqf35.2⟩, hG.symm⟩) dX10_readInstruction_143
                  · replace hG := gIf_n hG c27
                    refine lv_aload_n hx hb dX10_readInstruction_109 rfl (lv_at hl 0 rfl) ?_
                    refine lv_aload_n hx hb dX10_readInstruction_110 rfl (lv_at hl 0 rfl) ?_
                    refine cG C9 V t_o0.1 hf23 rfl tC_lay8 5 (by decide) tCf_X10_26 (Or.inl rfl) rfl dX10_readInstruction_111 ?_
                    replace hG := gLt_e hG (view_gI hf23 rfl)
                    refine cGoI (cRunV (As := [.int v23_5]) (rest := []) C9 hml hN hNs V I hS t_o0.1 hf23 rfl (c_X10_broken l D ks τ L A N hN  ψ Gf90 o0 v23_5 t_o0 ) gC_X10_43 okC_X10_broken ⟨rfl, rfl, Nat.le_of_ble_eq_true rfl, Nat.le_of_ble_eq_true rfl⟩ hl.1 rfl (Nat.le_of_ble_eq_true rfl) dX10_readInstruction_114 ⟨Nat.zero_le _, Nat.zero_le _⟩) hS (fun r42 p41 f40 H locs hqf40 V I hS => ?_)
                    obtain ⟨hqf40, ghqf40⟩ := hqf40
                    replace hG := gC_e hG ghqf40
                    have I : cI ks τ L ψ f40 := by rw [show p41 = ψ from hqf40.1] at I; exact I
                    exact cRetZ C9 hr hlk hN hNs V I hS (by clear hG V hS hl C9 hts hown hx hb hml hr hlk h0 hN0; first | rfl | decide | (subst_vars; rfl) | (rw [nope9.2.2]; rfl) | (rw [hqf40.2.2]; rfl)) (⟨⟨rfl, rn_t hqf40.2.1 hi90.1⟩, hG.symm⟩) dX10_readInstruction_117
            exact loop90 ((nI (sLn.getD (34 + u17) 0) - x18).toInt.toNat + 1) x18  f13 _ _ _ I (⟨rn_t hqf13.2 hi5, ri_0 ex18 (sLn_le.1 _)⟩) (Nat.lt_succ_self _) hG V hS (lv_sub hl [3, 4, 1, 0] rfl)
          · replace hG := gIf_n hG c12
            refine lv_aload_n hx hb dX10_readInstruction_65 rfl (lv_at hl 1 rfl) ?_
            refine lv_iload_n hx hb dX10_readInstruction_66 rfl (lv_at hl 3 rfl) ?_
            refine cGoI (cRunV (As := [.int v1_5]) (rest := []) C9 hml hN hNs V I hS t_o0.1 hf2 rfl (c_X10_broken l D ks τ L A N hN  ψ Gf5 o0 v1_5 t_o0 ) gC_X10_43 okC_X10_broken ⟨rfl, rfl, Nat.le_of_ble_eq_true rfl, Nat.le_of_ble_eq_true rfl⟩ hl.1 rfl (Nat.le_of_ble_eq_true rfl) dX10_readInstruction_67 ⟨Nat.zero_le _, Nat.zero_le _⟩) hS (fun r45 p44 f43 H locs hqf43 V I hS => ?_)
            obtain ⟨hqf43, ghqf43⟩ := hqf43
            replace hG := gC_e hG ghqf43
            have I : cI ks τ L ψ f43 := by rw [show p44 = ψ from hqf43.1] at I; exact I
            exact cRetZ C9 hr hlk hN hNs V I hS (by clear hG V hS hl C9 hts hown hx hb hml hr hlk h0 hN0; first | rfl | decide | (subst_vars; rfl) | (rw [hqf43.2.2]; rfl) | (rw [nope9.2.2]; rfl)) (⟨⟨rfl, rn_t hqf43.2.1 hi5⟩, hG.symm⟩) dX10_readInstruction_70
      · replace hG := gIf_n hG c3
        refine lv_aload_n hx hb dX10_readInstruction_16 rfl (lv_at hl 0 rfl) ?_
        refine cGoI (cRunV (As := []) (rest := []) C9 hml hN hNs V I hS t_o0.1 hf2 rfl (c_X10_here l D ks τ L A N hN  ψ Gf5 o0 t_o0 ) gC_X10_39 okC_X10_here ⟨rfl, rfl, Nat.le_of_ble_eq_true rfl, Nat.le_of_ble_eq_true rfl⟩ hl.1 rfl (Nat.le_of_ble_eq_true rfl) dX10_readInstruction_17 ⟨Nat.zero_le _, Nat.zero_le _⟩) hS (fun r48 p47 f46 H locs hqf46 V I hS => ?_)
        obtain ⟨hqf46, ghqf46⟩ := hqf46
        replace hG := gLt_e hG ghqf46
        have V : cV D L Gf5 A H := by rw [show f46 = Gf5 from congrArg Prod.snd hqf46.1] at V; exact V
        have I : cI ks τ L ψ Gf5 := by rw [show f46 = Gf5 from congrArg Prod.snd hqf46.1, show p47 = ψ from congrArg Prod.fst hqf46.1] at I; exact I
        refine lv_bipush (v := 97) hx hb dX10_readInstruction_20 (by decide) ?_
        refine lv_icmp_lt (tgt := 47) hx hb dX10_readInstruction_22 (by decide) (fun c49 => ?_) (fun c49 => ?_)
        · replace hG := gIf_p hG c49
          refine lv_aload_n hx hb dX10_readInstruction_47 rfl (lv_at hl 0 rfl) ?_
          refine lv_iload_n hx hb dX10_readInstruction_48 rfl (lv_at hl 2 rfl) ?_
          refine cGoI (cRunV (As := [.int v1_5]) (rest := []) C9 hml hN hNs V I hS t_o0.1 hf2 rfl (c_X10_wordAt l D ks τ L A N hN κ hN0 ψ Gf5 o0 v1_5 t_o0 ) gC_X10_46 okC_X10_wordAt ⟨rfl, rfl, Nat.le_of_ble_eq_true rfl, Nat.le_of_ble_eq_true rfl⟩ hl.1 rfl (Nat.le_of_ble_eq_true rfl) dX10_readInstruction_49 ⟨Nat.zero_le _, Nat.zero_le _⟩) hS (fun r52 p51 f50 H locs hqf50 V I hS => ?_)
          obtain ⟨hqf50, ghqf50⟩ := hqf50
          replace hG := gLt_e hG ghqf50
          have V : cV D L Gf5 A H := by rw [show f50 = Gf5 from congrArg Prod.snd hqf50] at V; exact V
          have I : cI ks τ L ψ Gf5 := by rw [show f50 = Gf5 from congrArg Prod.snd hqf50, show p51 = ψ from congrArg Prod.fst hqf50] at I; exact I
          refine lv_istore_n (lv' := [(3, .int r52), (0, .ref o0), (1, .int i1), (2, .int v1_5)]) hx hb dX10_readInstruction_52 rfl hl (by decide) rfl (fun ls hl => ?_)
          refine lv_iload_n hx hb dX10_readInstruction_53 rfl (lv_at hl 0 rfl) ?_
          refine lv_if_lt (tgt := 65) hx hb dX10_readInstruction_54 (by decide) (fun c53 => ?_) (fun c53 => ?_)
          · replace hG := gIf_p hG c53
            refine lv_aload_n hx hb dX10_readInstruction_65 rfl (lv_at hl 1 rfl) ?_
            refine lv_iload_n hx hb dX10_readInstruction_66 rfl (lv_at hl 3 rfl) ?_
            refine cGoI (cRunV (As := [.int v1_5]) (rest := []) C9 hml hN hNs V I hS t_o0.1 hf2 rfl (c_X10_broken l D ks τ L A N hN  ψ Gf5 o0 v1_5 t_o0 ) gC_X10_43 okC_X10_broken ⟨rfl, rfl, Nat.le_of_ble_eq_true rfl, Nat.le_of_ble_eq_true rfl⟩ hl.1 rfl (Nat.le_of_ble_eq_true rfl) dX10_readInstruction_67 ⟨Nat.zero_le _, Nat.zero_le _⟩) hS (fun r56 p55 f54 H locs hqf54 V I hS => ?_)
            obtain ⟨hqf54, ghqf54⟩ := hqf54
            replace hG := gC_e hG ghqf54
            have I : cI ks τ L ψ f54 := by rw [show p55 = ψ from hqf54.1] at I; exact I
            exact cRetZ C9 hr hlk hN hNs V I hS (by clear hG V hS hl C9 hts hown hx hb hml hr hlk h0 hN0; first | rfl | decide | (subst_vars; rfl) | (rw [hqf54.2.2]; rfl) | (rw [nope9.2.2]; rfl)) (⟨⟨rfl, rn_t hqf54.2.1 hi5⟩, hG.symm⟩) dX10_readInstruction_70
          · replace hG := gIf_n hG c53
            refine lv_iload_n hx hb dX10_readInstruction_57 rfl (lv_at hl 0 rfl) ?_
            refine cZw C9 h0 hS (by simp [nwL, RX10]) dX10_readInstruction_58 (fun y57 hy57 => ?_)
            refine cAw C9 hy57 hS dX10_readInstruction_61 ?_
            refine lv_icmp_lt (tgt := 71) hx hb dX10_readInstruction_62 (by decide) (fun c58 => ?_) (fun c58 => ?_)
            · replace hG := gIf_p hG c58
              refine lv_aload_n hx hb dX10_readInstruction_71 rfl (lv_at hl 1 rfl) ?_
              refine lv_iload_n hx hb dX10_readInstruction_72 rfl (lv_at hl 2 rfl) ?_
              refine lv_iload_n hx hb dX10_readInstruction_73 rfl (lv_at hl 0 rfl) ?_
              refine cGoV (cRunV (As := [.int i1, .int r52]) (rest := []) C9 hml hN hNs V I hS t_o0.1 hf2 rfl (c_X10_store l D ks τ L A N hN  ψ Gf5 o0 i1 r52 t_o0 ) gC_X10_54 okC_X10_store ⟨rfl, rfl, Nat.le_of_ble_eq_true rfl, Nat.le_of_ble_eq_true rfl⟩ hl.1 rfl (Nat.le_of_ble_eq_true rfl) dX10_readInstruction_74 ⟨Nat.zero_le _, Nat.zero_le _⟩) hS (fun p60 f59 H locs hqf59 V I hS => ?_)
              obtain ⟨hqf59, ghqf59⟩ := hqf59
              replace hG := gLt_e hG (ghqf59)
              have I : cI ks τ L ψ f59 := by rw [show p60 = ψ from hqf59.1] at I; exact I
              refine cZw C9 h0 hS (by simp [nwL, RX10]) dX10_readInstruction_77 (fun y62 hy62 => ?_)
              refine lv_iload_n hx hb dX10_readInstruction_80 rfl (lv_at hl 0 rfl) ?_
              refine cLw C9 hy62 hS (cvin (N := 34) rfl (ci_le c53) (c58)) dX10_readInstruction_81 (fun u63 eu63 hu63 => ?_)
              replace hG := gLt_e hG (eu63)
              refine cGn hu63 C9 h0 hS tCf_X10_58 dX10_readInstruction_82 ?_
              refine lv_astore (lv' := [(4, .ref (κ.2.1 (34 + u63))), (3, .int r52), (0, .ref o0), (1, .int i1), (2, .int v1_5)]) hx hb dX10_readInstruction_85 hl (by decide) rfl (fun ls hl => ?_)
              refine lv_iconst (v := 0) hx hb dX10_readInstruction_87 (by decide) ?_
              refine lv_topi (fun x64 ex64 => ?_)
              replace hG := gLt_e hG ex64
              refine lv_istore (lv' := [(5, .int x64), (4, .ref (κ.2.1 (34 + u63))), (3, .int r52), (0, .ref o0), (1, .int i1), (2, .int v1_5)]) hx hb dX10_readInstruction_88 hl (by decide) rfl (fun ls hl => ?_)
              have loop90 : ∀ (N9_90 : Nat) (w90_5 : Int32)  (Gf90 : Nat → va_E) (H : Heap) (locs : List Loc) (ls : Array Slot), cI ks τ L ψ Gf90 → (tAt Gf90 o0 ≤ ψ ∧ 0 ≤ w90_5 ∧ w90_5 ≤ nI (sLn.getD (34 + u63) 0)) → ((nI (sLn.getD (34 + u63) 0) - w90_5).toInt.toNat) < N9_90 → (FC_X10_readInstruction (view f) o0 i1 = FC_X10_readInstruction_L90x1 o0 i1 u63 N9_90 w90_5 (view Gf90)) → cV D L Gf90 A H → va_S A s.heap H locs → lv_has ls 6 [(0, .ref o0), (1, .int i1), (4, .ref (κ.2.1 (34 + u63))), (5, .int w90_5)] → W p l e ({ frames := 6, cells := 0, slots := 0, locals := 130 } : Room) s m ([.ref o0, .int i1] : List Value).toArray below meth c H locs 0 0 (MQ below (va_Qi (fun r9 x9 => (x9.1 = ψ ∧ tAt x9.2 o0 ≤ ψ) ∧ (r9, view x9.2) = FC_X10_readInstruction (view f) o0 i1) (cB D ks τ L A N) A) ([.ref o0, .int i1] : List Value).toArray s 0 0 A) (F0 m 90 ls []) := by
                intro N9_90
                induction N9_90 with
                | zero => intro w90_5  Gf90 H locs ls I hi90 hm90; exact absurd hm90 (Nat.not_lt_zero _)
                | succ N9_90 ih90 =>
                  intro w90_5  Gf90 H locs ls I hi90 hm90 hG V hS hl
                  rw [FC_X10_readInstruction_L90x1] at hG
                  refine lv_iload hx hb dX10_readInstruction_90 (lv_at hl 3 rfl) ?_
                  refine lv_aload hx hb dX10_readInstruction_92 (lv_at hl 2 rfl) ?_
                  refine cGoI (cRunR (As := []) (rest := [.int w90_5]) C9 hml hN hNs V I hS (isT_r h0 hS (Nat.add_lt_add_left hu63 34)) (c_J0_length_8abf5 l D ks τ L A N hN κ hN0 ψ Gf90 (34 + u63) (Nat.add_lt_add_left hu63 34) ) gC_X10_64 okC_J0_length_8abf5 ⟨rfl, rfl, Nat.le_of_ble_eq_true rfl, Nat.le_of_ble_eq_true rfl⟩ hl.1 rfl (Nat.le_of_ble_eq_true rfl) dX10_readInstruction_94 ⟨Nat.zero_le _, Nat.zero_le _⟩) hS (fun r67 p66 f65 H locs hqf65 V I hS => ?_)
                  obtain ⟨hqf65, ghqf65⟩ := hqf65
                  replace hG := gLt_e hG ghqf65
                  have V : cV D L Gf90 A H := by rw [show f65 = Gf90 from congrArg Prod.snd hqf65.1] at V; exact V
                  have I : cI ks τ L ψ Gf90 := by rw [show f65 = Gf90 from congrArg Prod.snd hqf65.1, show p66 = ψ from congrArg Prod.fst hqf65.1] at I; exact I
                  refine lv_icmp_ge (tgt := 150) hx hb dX10_readInstruction_97 (by decide) (fun c68 => ?_) (fun c68 => ?_)
                  · replace hG := gIf_p hG c68
                    refine lv_iconst (v := 1) hx hb dX10_readInstruction_150 (by decide) ?_
                    exact cRetZ C9 hr hlk hN hNs V I hS (by clear hG V hS hl C9 hts hown hx hb hml hr hlk h0 hN0; first | rfl | decide | (subst_vars; rfl) | (rw [nope9.2.2]; rfl) | (rw [nope9.2.2]; rfl)) (⟨⟨rfl, hi90.1⟩, hG.symm⟩) dX10_readInstruction_151
                  · replace hG := gIf_n hG c68
                    refine lv_aload_n hx hb dX10_readInstruction_100 rfl (lv_at hl 0 rfl) ?_
                    obtain ⟨v69_0, v69_1, v69_3, v69_4, v69_5, hf69, t69_0, t69_4, hp69, h069, h169⟩ := op8 I t_o0
                    refine cGoI (cRunV (As := []) (rest := []) C9 hml hN hNs V I hS t_o0.1 hf69 rfl (c_X10_here l D ks τ L A N hN  ψ Gf90 o0 t_o0 ) gC_X10_39 okC_X10_here ⟨rfl, rfl, Nat.le_of_ble_eq_true rfl, Nat.le_of_ble_eq_true rfl⟩ hl.1 rfl (Nat.le_of_ble_eq_true rfl) dX10_readInstruction_101 ⟨Nat.zero_le _, Nat.zero_le _⟩) hS (fun r72 p71 f70 H locs hqf70 V I hS => ?_)
                    obtain ⟨hqf70, ghqf70⟩ := hqf70
                    replace hG := gLt_e hG ghqf70
                    have V : cV D L Gf90 A H := by rw [show f70 = Gf90 from congrArg Prod.snd hqf70.1] at V; exact V
                    have I : cI ks τ L ψ Gf90 := by rw [show f70 = Gf90 from congrArg Prod.snd hqf70.1, show p71 = ψ from congrArg Prod.fst hqf70.1] at I; exact I
                    refine lv_bipush (v := 32) hx hb dX10_readInstruction_104 (by decide) ?_
                    refine lv_icmp_eq (tgt := 118) hx hb dX10_readInstruction_106 (by decide) (fun c73 => ?_) (fun c73 => ?_)
                    · replace hG := gIf_p hG c73
                      refine lv_aload_n hx hb dX10_readInstruction_118 rfl (lv_at hl 0 rfl) ?_
                      refine cGoV (cRunV (As := []) (rest := []) C9 hml hN hNs V I hS t_o0.1 hf69 rfl (c_X10_skipBlanks l D ks τ L A N hN  ψ Gf90 o0 t_o0 (hi90.1)) gC_X10_29 okC_X10_skipBlanks ⟨rfl, rfl, Nat.le_of_ble_eq_true rfl, Nat.le_of_ble_eq_true rfl⟩ hl.1 rfl (Nat.le_of_ble_eq_true rfl) dX10_readInstruction_119 ⟨Nat.zero_le _, Nat.zero_le _⟩) hS (fun p75 f74 H locs hqf74 V I hS => ?_)
                      obtain ⟨hqf74, ghqf74⟩ := hqf74
                      replace hG := gLt_e hG (ghqf74)
                      have I : cI ks τ L ψ f74 := by rw [show p75 = ψ from hqf74.1] at I; exact I
                      refine lv_aload_n hx hb dX10_readInstruction_122 rfl (lv_at hl 0 rfl) ?_
                      refine lv_iload_n hx hb dX10_readInstruction_123 rfl (lv_at hl 1 rfl) ?_
                      refine lv_iconst (v := 1) hx hb dX10_readInstruction_124 (by decide) ?_
                      refine lv_iadd hx hb dX10_readInstruction_125 ?_
                      refine lv_iload hx hb dX10_readInstruction_126 (lv_at hl 3 rfl) ?_
                      refine lv_iadd hx hb dX10_readInstruction_128 ?_
                      refine lv_aload hx hb dX10_readInstruction_129 (lv_at hl 2 rfl) ?_
                      refine lv_iload hx hb dX10_readInstruction_131 (lv_at hl 3 rfl) ?_
                      refine cGoI (cRunR (As := [.int w90_5]) (rest := [.int ((i1 + 1) + w90_5), .ref o0]) C9 hml hN hNs V I hS (isT_r h0 hS (Nat.add_lt_add_left hu63 34)) (c_J0_charAt_5068e l D ks τ L A N hN κ hN0 ψ f74 (34 + u63) w90_5 (Nat.add_lt_add_left hu63 34) (hi90.2.1) ((it_lt c68 hqf65.2))) gC_X10_68 okC_J0_charAt_5068e ⟨rfl, rfl, Nat.le_of_ble_eq_true rfl, Nat.le_of_ble_eq_true rfl⟩ hl.1 rfl (Nat.le_of_ble_eq_true rfl) dX10_readInstruction_133 ⟨Nat.zero_le _, Nat.zero_le _⟩) hS (fun r79 p78 f77 H locs hqf77 V I hS => ?_)
                      obtain ⟨hqf77, ghqf77⟩ := hqf77
                      replace hG := gLt_e hG ghqf77
                      have V : cV D L f74 A H := by rw [show f77 = f74 from congrArg Prod.snd hqf77] at V; exact V
                      have I : cI ks τ L ψ f74 := by rw [show f77 = f74 from congrArg Prod.snd hqf77, show p78 = ψ from congrArg Prod.fst hqf77] at I; exact I
                      obtain ⟨v80_0, v80_1, v80_3, v80_4, v80_5, hf80, t80_0, t80_4, hp80, h080, h180⟩ := op8 I t_o0
                      refine cGoI (cRunV (As := [.int ((i1 + 1) + w90_5), .int r79]) (rest := []) C9 hml hN hNs V I hS t_o0.1 hf80 rfl (c_X10_readNumber l D ks τ L A N hN  ψ f74 o0 ((i1 + 1) + w90_5) r79 t_o0 (hqf74.2.2)) gC_X10_72 okC_X10_readNumber ⟨rfl, rfl, Nat.le_of_ble_eq_true rfl, Nat.le_of_ble_eq_true rfl⟩ hl.1 rfl (Nat.le_of_ble_eq_true rfl) dX10_readInstruction_136 ⟨Nat.zero_le _, Nat.zero_le _⟩) hS (fun r83 p82 f81 H locs hqf81 V I hS => ?_)
                      obtain ⟨hqf81, ghqf81⟩ := hqf81
                      replace hG := gC_e hG ghqf81
                      have I : cI ks τ L ψ f81 := by rw [show p82 = ψ from hqf81.1] at I; exact I
                      refine lv_if_ne (tgt := 144) hx hb dX10_readInstruction_139 (by decide) (fun c84 => ?_) (fun c84 => ?_)
                      · replace hG := gIf_n hG c84
                        obtain ⟨x85, ex85⟩ : ∃ y : Int32, y = w90_5 + (1) := ⟨_, rfl⟩
                        replace hG := gLt_e hG ex85
                        refine lv_iinc (v := x85) (lv' := [(5, .int x85), (0, .ref o0), (1, .int i1), (4, .ref (κ.2.1 (34 + u63)))]) hx hb dX10_readInstruction_144 hl (k := 3) rfl (by rw [ex85]; rfl) (by decide) rfl (fun ls hl => ?_)
                        refine lv_goto (tgt := 90) hx hb dX10_readInstruction_147 (by decide) ?_
                        exact ih90 x85  f81 _ _ _ I (⟨hqf81.2, ca_up ex85 hi90.2.1 (it_lt c68 hqf65.2)⟩) (cmsd hm90 (ca_dec ex85 hi90.2.1 (it_lt c68 hqf65.2)).1 (ca_dec ex85 hi90.2.1 (it_lt c68 hqf65.2)).2) hG V hS (lv_sub hl [1, 2, 3, 0] rfl)
                      · replace hG := gIf_p hG c84
                        refine lv_iconst (v := 0) hx hb dX10_readInstruction_142 (by decide) ?_
                        exact cRetZ C9 hr hlk hN hNs V I hS (by clear hG V hS hl C9 hts hown hx hb hml hr hlk h0 hN0; first | rfl | decide | (subst_vars; rfl) | (rw [nope9.2.2]; rfl) | (rw [nope9.2.2]; rfl)) (⟨⟨rfl, hqf81.2⟩, hG.symm⟩) dX10_readInstruction_143
                    · replace hG := gIf_n hG c73
                      refine lv_aload_n hx hb dX10_readInstruction_109 rfl (lv_at hl 0 rfl) ?_
                      refine lv_aload_n hx hb dX10_readInstruction_110 rfl (lv_at hl 0 rfl) ?_
                      refine cG C9 V t_o0.1 hf69 rfl tC_lay8 5 (by decide) tCf_X10_26 (Or.inl rfl) rfl dX10_readInstruction_111 ?_
                      replace hG := gLt_e hG (view_gI hf69 rfl)
                      refine cGoI (cRunV (As := [.int v69_5]) (rest := []) C9 hml hN hNs V I hS t_o0.1 hf69 rfl (c_X10_broken l D ks τ L A N hN  ψ Gf90 o0 v69_5 t_o0 ) gC_X10_43 okC_X10_broken ⟨rfl, rfl, Nat.le_of_ble_eq_true rfl, Nat.le_of_ble_eq_true rfl⟩ hl.1 rfl (Nat.le_of_ble_eq_true rfl) dX10_readInstruction_114 ⟨Nat.zero_le _, Nat.zero_le _⟩) hS (fun r88 p87 f86 H locs hqf86 V I hS => ?_)
                      obtain ⟨hqf86, ghqf86⟩ := hqf86
                      replace hG := gC_e hG ghqf86
                      have I : cI ks τ L ψ f86 := by rw [show p87 = ψ from hqf86.1] at I; exact I
                      exact cRetZ C9 hr hlk hN hNs V I hS (by clear hG V hS hl C9 hts hown hx hb hml hr hlk h0 hN0; first | rfl | decide | (subst_vars; rfl) | (rw [nope9.2.2]; rfl) | (rw [hqf86.2.2]; rfl)) (⟨⟨rfl, rn_t hqf86.2.1 hi90.1⟩, hG.symm⟩) dX10_readInstruction_117
              exact loop90 ((nI (sLn.getD (34 + u63) 0) - x64).toInt.toNat + 1) x64  f59 _ _ _ I (⟨rn_t hqf59.2 hi5, ri_0 ex64 (sLn_le.1 _)⟩) (Nat.lt_succ_self _) hG V hS (lv_sub hl [3, 4, 1, 0] rfl)
            · replace hG := gIf_n hG c58
              refine lv_aload_n hx hb dX10_readInstruction_65 rfl (lv_at hl 1 rfl) ?_
              refine lv_iload_n hx hb dX10_readInstruction_66 rfl (lv_at hl 3 rfl) ?_
              refine cGoI (cRunV (As := [.int v1_5]) (rest := []) C9 hml hN hNs V I hS t_o0.1 hf2 rfl (c_X10_broken l D ks τ L A N hN  ψ Gf5 o0 v1_5 t_o0 ) gC_X10_43 okC_X10_broken ⟨rfl, rfl, Nat.le_of_ble_eq_true rfl, Nat.le_of_ble_eq_true rfl⟩ hl.1 rfl (Nat.le_of_ble_eq_true rfl) dX10_readInstruction_67 ⟨Nat.zero_le _, Nat.zero_le _⟩) hS (fun r91 p90 f89 H locs hqf89 V I hS => ?_)
              obtain ⟨hqf89, ghqf89⟩ := hqf89
              replace hG := gC_e hG ghqf89
              have I : cI ks τ L ψ f89 := by rw [show p90 = ψ from hqf89.1] at I; exact I
              exact cRetZ C9 hr hlk hN hNs V I hS (by clear hG V hS hl C9 hts hown hx hb hml hr hlk h0 hN0; first | rfl | decide | (subst_vars; rfl) | (rw [hqf89.2.2]; rfl) | (rw [nope9.2.2]; rfl)) (⟨⟨rfl, rn_t hqf89.2.1 hi5⟩, hG.symm⟩) dX10_readInstruction_70
        · replace hG := gIf_n hG c49
          refine lv_aload_n hx hb dX10_readInstruction_25 rfl (lv_at hl 0 rfl) ?_
          refine cGoI (cRunV (As := []) (rest := []) C9 hml hN hNs V I hS t_o0.1 hf2 rfl (c_X10_here l D ks τ L A N hN  ψ Gf5 o0 t_o0 ) gC_X10_39 okC_X10_here ⟨rfl, rfl, Nat.le_of_ble_eq_true rfl, Nat.le_of_ble_eq_true rfl⟩ hl.1 rfl (Nat.le_of_ble_eq_true rfl) dX10_readInstruction_26 ⟨Nat.zero_le _, Nat.zero_le _⟩) hS (fun r94 p93 f92 H locs hqf92 V I hS => ?_)
          obtain ⟨hqf92, ghqf92⟩ := hqf92
          replace hG := gLt_e hG ghqf92
          have V : cV D L Gf5 A H := by rw [show f92 = Gf5 from congrArg Prod.snd hqf92.1] at V; exact V
          have I : cI ks τ L ψ Gf5 := by rw [show f92 = Gf5 from congrArg Prod.snd hqf92.1, show p93 = ψ from congrArg Prod.fst hqf92.1] at I; exact I
          refine lv_bipush (v := 122) hx hb dX10_readInstruction_29 (by decide) ?_
          refine lv_icmp_gt (tgt := 47) hx hb dX10_readInstruction_31 (by decide) (fun c95 => ?_) (fun c95 => ?_)
          · replace hG := gIf_p hG c95
            refine lv_aload_n hx hb dX10_readInstruction_47 rfl (lv_at hl 0 rfl) ?_
            refine lv_iload_n hx hb dX10_readInstruction_48 rfl (lv_at hl 2 rfl) ?_
            refine cGoI (cRunV (As := [.int v1_5]) (rest := []) C9 hml hN hNs V I hS t_o0.1 hf2 rfl (c_X10_wordAt l D ks τ L A N hN κ hN0 ψ Gf5 o0 v1_5 t_o0 ) gC_X10_46 okC_X10_wordAt ⟨rfl, rfl, Nat.le_of_ble_eq_true rfl, Nat.le_of_ble_eq_true rfl⟩ hl.1 rfl (Nat.le_of_ble_eq_true rfl) dX10_readInstruction_49 ⟨Nat.zero_le _, Nat.zero_le _⟩) hS (fun r98 p97 f96 H locs hqf96 V I hS => ?_)
            obtain ⟨hqf96, ghqf96⟩ := hqf96
            replace hG := gLt_e hG ghqf96
            have V : cV D L Gf5 A H := by rw [show f96 = Gf5 from congrArg Prod.snd hqf96] at V; exact V
            have I : cI ks τ L ψ Gf5 := by rw [show f96 = Gf5 from congrArg Prod.snd hqf96, show p97 = ψ from congrArg Prod.fst hqf96] at I; exact I
            refine lv_istore_n (lv' := [(3, .int r98), (0, .ref o0), (1, .int i1), (2, .int v1_5)]) hx hb dX10_readInstruction_52 rfl hl (by decide) rfl (fun ls hl => ?_)
            refine lv_iload_n hx hb dX10_readInstruction_53 rfl (lv_at hl 0 rfl) ?_
            refine lv_if_lt (tgt := 65) hx hb dX10_readInstruction_54 (by decide) (fun c99 => ?_) (fun c99 => ?_)
            · replace hG := gIf_p hG c99
              refine lv_aload_n hx hb dX10_readInstruction_65 rfl (lv_at hl 1 rfl) ?_
              refine lv_iload_n hx hb dX10_readInstruction_66 rfl (lv_at hl 3 rfl) ?_
              refine cGoI (cRunV (As := [.int v1_5]) (rest := []) C9 hml hN hNs V I hS t_o0.1 hf2 rfl (c_X10_broken l D ks τ L A N hN  ψ Gf5 o0 v1_5 t_o0 ) gC_X10_43 okC_X10_broken ⟨rfl, rfl, Nat.le_of_ble_eq_true rfl, Nat.le_of_ble_eq_true rfl⟩ hl.1 rfl (Nat.le_of_ble_eq_true rfl) dX10_readInstruction_67 ⟨Nat.zero_le _, Nat.zero_le _⟩) hS (fun r102 p101 f100 H locs hqf100 V I hS => ?_)
              obtain ⟨hqf100, ghqf100⟩ := hqf100
              replace hG := gC_e hG ghqf100
              have I : cI ks τ L ψ f100 := by rw [show p101 = ψ from hqf100.1] at I; exact I
              exact cRetZ C9 hr hlk hN hNs V I hS (by clear hG V hS hl C9 hts hown hx hb hml hr hlk h0 hN0; first | rfl | decide | (subst_vars; rfl) | (rw [hqf100.2.2]; rfl) | (rw [nope9.2.2]; rfl)) (⟨⟨rfl, rn_t hqf100.2.1 hi5⟩, hG.symm⟩) dX10_readInstruction_70
            · replace hG := gIf_n hG c99
              refine lv_iload_n hx hb dX10_readInstruction_57 rfl (lv_at hl 0 rfl) ?_
              refine cZw C9 h0 hS (by simp [nwL, RX10]) dX10_readInstruction_58 (fun y103 hy103 => ?_)
              refine cAw C9 hy103 hS dX10_readInstruction_61 ?_
              refine lv_icmp_lt (tgt := 71) hx hb dX10_readInstruction_62 (by decide) (fun c104 => ?_) (fun c104 => ?_)
              · replace hG := gIf_p hG c104
                refine lv_aload_n hx hb dX10_readInstruction_71 rfl (lv_at hl 1 rfl) ?_
                refine lv_iload_n hx hb dX10_readInstruction_72 rfl (lv_at hl 2 rfl) ?_
                refine lv_iload_n hx hb dX10_readInstruction_73 rfl (lv_at hl 0 rfl) ?_
                refine cGoV (cRunV (As := [.int i1, .int r98]) (rest := []) C9 hml hN hNs V I hS t_o0.1 hf2 rfl (c_X10_store l D ks τ L A N hN  ψ Gf5 o0 i1 r98 t_o0 ) gC_X10_54 okC_X10_store ⟨rfl, rfl, Nat.le_of_ble_eq_true rfl, Nat.le_of_ble_eq_true rfl⟩ hl.1 rfl (Nat.le_of_ble_eq_true rfl) dX10_readInstruction_74 ⟨Nat.zero_le _, Nat.zero_le _⟩) hS (fun p106 f105 H locs hqf105 V I hS => ?_)
                obtain ⟨hqf105, ghqf105⟩ := hqf105
                replace hG := gLt_e hG (ghqf105)
                have I : cI ks τ L ψ f105 := by rw [show p106 = ψ from hqf105.1] at I; exact I
                refine cZw C9 h0 hS (by simp [nwL, RX10]) dX10_readInstruction_77 (fun y108 hy108 => ?_)
                refine lv_iload_n hx hb dX10_readInstruction_80 rfl (lv_at hl 0 rfl) ?_
                refine cLw C9 hy108 hS (cvin (N := 34) rfl (ci_le c99) (c104)) dX10_readInstruction_81 (fun u109 eu109 hu109 => ?_)
                replace hG := gLt_e hG (eu109)
                refine cGn hu109 C9 h0 hS tCf_X10_58 dX10_readInstruction_82 ?_
                refine lv_astore (lv' := [(4, .ref (κ.2.1 (34 + u109))), (3, .int r98), (0, .ref o0), (1, .int i1), (2, .int v1_5)]) hx hb dX10_readInstruction_85 hl (by decide) rfl (fun ls hl => ?_)
                refine lv_iconst (v := 0) hx hb dX10_readInstruction_87 (by decide) ?_
                refine lv_topi (fun x110 ex110 => ?_)
                replace hG := gLt_e hG ex110
                refine lv_istore (lv' := [(5, .int x110), (4, .ref (κ.2.1 (34 + u109))), (3, .int r98), (0, .ref o0), (1, .int i1), (2, .int v1_5)]) hx hb dX10_readInstruction_88 hl (by decide) rfl (fun ls hl => ?_)
                have loop90 : ∀ (N9_90 : Nat) (w90_5 : Int32)  (Gf90 : Nat → va_E) (H : Heap) (locs : List Loc) (ls : Array Slot), cI ks τ L ψ Gf90 → (tAt Gf90 o0 ≤ ψ ∧ 0 ≤ w90_5 ∧ w90_5 ≤ nI (sLn.getD (34 + u109) 0)) → ((nI (sLn.getD (34 + u109) 0) - w90_5).toInt.toNat) < N9_90 → (FC_X10_readInstruction (view f) o0 i1 = FC_X10_readInstruction_L90x2 o0 i1 u109 N9_90 w90_5 (view Gf90)) → cV D L Gf90 A H → va_S A s.heap H locs → lv_has ls 6 [(0, .ref o0), (1, .int i1), (4, .ref (κ.2.1 (34 + u109))), (5, .int w90_5)] → W p l e ({ frames := 6, cells := 0, slots := 0, locals := 130 } : Room) s m ([.ref o0, .int i1] : List Value).toArray below meth c H locs 0 0 (MQ below (va_Qi (fun r9 x9 => (x9.1 = ψ ∧ tAt x9.2 o0 ≤ ψ) ∧ (r9, view x9.2) = FC_X10_readInstruction (view f) o0 i1) (cB D ks τ L A N) A) ([.ref o0, .int i1] : List Value).toArray s 0 0 A) (F0 m 90 ls []) := by
                  intro N9_90
                  induction N9_90 with
                  | zero => intro w90_5  Gf90 H locs ls I hi90 hm90; exact absurd hm90 (Nat.not_lt_zero _)
                  | succ N9_90 ih90 =>
                    intro w90_5  Gf90 H locs ls I hi90 hm90 hG V hS hl
                    rw [FC_X10_readInstruction_L90x2] at hG
                    refine lv_iload hx hb dX10_readInstruction_90 (lv_at hl 3 rfl) ?_
                    refine lv_aload hx hb dX10_readInstruction_92 (lv_at hl 2 rfl) ?_
                    refine cGoI (cRunR (As := []) (rest := [.int w90_5]) C9 hml hN hNs V I hS (isT_r h0 hS (Nat.add_lt_add_left hu109 34)) (c_J0_length_8abf5 l D ks τ L A N hN κ hN0 ψ Gf90 (34 + u109) (Nat.add_lt_add_left hu109 34) ) gC_X10_64 okC_J0_length_8abf5 ⟨rfl, rfl, Nat.le_of_ble_eq_true rfl, Nat.le_of_ble_eq_true rfl⟩ hl.1 rfl (Nat.le_of_ble_eq_true rfl) dX10_readInstruction_94 ⟨Nat.zero_le _, Nat.zero_le _⟩) hS (fun r113 p112 f111 H locs hqf111 V I hS => ?_)
                    obtain ⟨hqf111, ghqf111⟩ := hqf111
                    replace hG := gLt_e hG ghqf111
                    have V : cV D L Gf90 A H := by rw [show f111 = Gf90 from congrArg Prod.snd hqf111.1] at V; exact V
                    have I : cI ks τ L ψ Gf90 := by rw [show f111 = Gf90 from congrArg Prod.snd hqf111.1, show p112 = ψ from congrArg Prod.fst hqf111.1] at I; exact I
                    refine lv_icmp_ge (tgt := 150) hx hb dX10_readInstruction_97 (by decide) (fun c114 => ?_) (fun c114 => ?_)
                    · replace hG := gIf_p hG c114
                      refine lv_iconst (v := 1) hx hb dX10_readInstruction_150 (by decide) ?_
                      exact cRetZ C9 hr hlk hN hNs V I hS (by clear hG V hS hl C9 hts hown hx hb hml hr hlk h0 hN0; first | rfl | decide | (subst_vars; rfl) | (rw [nope9.2.2]; rfl) | (rw [nope9.2.2]; rfl)) (⟨⟨rfl, hi90.1⟩, hG.symm⟩) dX10_readInstruction_151
                    · replace hG := gIf_n hG c114
                      refine lv_aload_n hx hb dX10_readInstruction_100 rfl (lv_at hl 0 rfl) ?_
                      obtain ⟨v115_0, v115_1, v115_3, v115_4, v115_5, hf115, t115_0, t115_4, hp115, h0115, h1115⟩ := op8 I t_o0
                      refine cGoI (cRunV (As := []) (rest := []) C9 hml hN hNs V I hS t_o0.1 hf115 rfl (c_X10_here l D ks τ L A N hN  ψ Gf90 o0 t_o0 ) gC_X10_39 okC_X10_here ⟨rfl, rfl, Nat.le_of_ble_eq_true rfl, Nat.le_of_ble_eq_true rfl⟩ hl.1 rfl (Nat.le_of_ble_eq_true rfl) dX10_readInstruction_101 ⟨Nat.zero_le _, Nat.zero_le _⟩) hS (fun r118 p117 f116 H locs hqf116 V I hS => ?_)
                      obtain ⟨hqf116, ghqf116⟩ := hqf116
                      replace hG := gLt_e hG ghqf116
                      have V : cV D L Gf90 A H := by rw [show f116 = Gf90 from congrArg Prod.snd hqf116.1] at V; exact V
                      have I : cI ks τ L ψ Gf90 := by rw [show f116 = Gf90 from congrArg Prod.snd hqf116.1, show p117 = ψ from congrArg Prod.fst hqf116.1] at I; exact I
                      refine lv_bipush (v := 32) hx hb dX10_readInstruction_104 (by decide) ?_
                      refine lv_icmp_eq (tgt := 118) hx hb dX10_readInstruction_106 (by decide) (fun c119 => ?_) (fun c119 => ?_)
                      · replace hG := gIf_p hG c119
                        refine lv_aload_n hx hb dX10_readInstruction_118 rfl (lv_at hl 0 rfl) ?_
                        refine cGoV (cRunV (As := []) (rest := []) C9 hml hN hNs V I hS t_o0.1 hf115 rfl (c_X10_skipBlanks l D ks τ L A N hN  ψ Gf90 o0 t_o0 (hi90.1)) gC_X10_29 okC_X10_skipBlanks ⟨rfl, rfl, Nat.le_of_ble_eq_true rfl, Nat.le_of_ble_eq_true rfl⟩ hl.1 rfl (Nat.le_of_ble_eq_true rfl) dX10_readInstruction_119 ⟨Nat.zero_le _, Nat.zero_le _⟩) hS (fun p121 f120 H locs hqf120 V I hS => ?_)
                        obtain ⟨hqf120, ghqf120⟩ := hqf120
                        replace hG := gLt_e hG (ghqf120)
                        have I : cI ks τ L ψ f120 := by rw [show p121 = ψ from hqf120.1] at I; exact I
                        refine lv_aload_n hx hb dX10_readInstruction_122 rfl (lv_at hl 0 rfl) ?_
                        refine lv_iload_n hx hb dX10_readInstruction_123 rfl (lv_at hl 1 rfl) ?_
                        refine lv_iconst (v := 1) hx hb dX10_readInstruction_124 (by decide) ?_
                        refine lv_iadd hx hb dX10_readInstruction_125 ?_
                        refine lv_iload hx hb dX10_readInstruction_126 (lv_at hl 3 rfl) ?_
                        refine lv_iadd hx hb dX10_readInstruction_128 ?_
                        refine lv_aload hx hb dX10_readInstruction_129 (lv_at hl 2 rfl) ?_
                        refine lv_iload hx hb dX10_readInstruction_131 (lv_at hl 3 rfl) ?_
                        refine cGoI (cRunR (As := [.int w90_5]) (rest := [.int ((i1 + 1) + w90_5), .ref o0]) C9 hml hN hNs V I hS (isT_r h0 hS (Nat.add_lt_add_left hu109 34)) (c_J0_charAt_5068e l D ks τ L A N hN κ hN0 ψ f120 (34 + u109) w90_5 (Nat.add_lt_add_left hu109 34) (hi90.2.1) ((it_lt c114 hqf111.2))) gC_X10_68 okC_J0_charAt_5068e ⟨rfl, rfl, Nat.le_of_ble_eq_true rfl, Nat.le_of_ble_eq_true rfl⟩ hl.1 rfl (Nat.le_of_ble_eq_true rfl) dX10_readInstruction_133 ⟨Nat.zero_le _, Nat.zero_le _⟩) hS (fun r125 p124 f123 H locs hqf123 V I hS => ?_)
                        obtain ⟨hqf123, ghqf123⟩ := hqf123
                        replace hG := gLt_e hG ghqf123
                        have V : cV D L f120 A H := by rw [show f123 = f120 from congrArg Prod.snd hqf123] at V; exact V
                        have I : cI ks τ L ψ f120 := by rw [show f123 = f120 from congrArg Prod.snd hqf123, show p124 = ψ from congrArg Prod.fst hqf123] at I; exact I
                        obtain ⟨v126_0, v126_1, v126_3, v126_4, v126_5, hf126, t126_0, t126_4, hp126, h0126, h1126⟩ := op8 I t_o0
                        refine cGoI (cRunV (As := [.int ((i1 + 1) + w90_5), .int r125]) (rest := []) C9 hml hN hNs V I hS t_o0.1 hf126 rfl (c_X10_readNumber l D ks τ L A N hN  ψ f120 o0 ((i1 + 1) + w90_5) r125 t_o0 (hqf120.2.2)) gC_X10_72 okC_X10_readNumber ⟨rfl, rfl, Nat.le_of_ble_eq_true rfl, Nat.le_of_ble_eq_true rfl⟩ hl.1 rfl (Nat.le_of_ble_eq_true rfl) dX10_readInstruction_136 ⟨Nat.zero_le _, Nat.zero_le _⟩) hS (fun r129 p128 f127 H locs hqf127 V I hS => ?_)
                        obtain ⟨hqf127, ghqf127⟩ := hqf127
                        replace hG := gC_e hG ghqf127
                        have I : cI ks τ L ψ f127 := by rw [show p128 = ψ from hqf127.1] at I; exact I
                        refine lv_if_ne (tgt := 144) hx hb dX10_readInstruction_139 (by decide) (fun c130 => ?_) (fun c130 => ?_)
                        · replace hG := gIf_n hG c130
                          obtain ⟨x131, ex131⟩ : ∃ y : Int32, y = w90_5 + (1) := ⟨_, rfl⟩
                          replace hG := gLt_e hG ex131
                          refine lv_iinc (v := x131) (lv' := [(5, .int x131), (0, .ref o0), (1, .int i1), (4, .ref (κ.2.1 (34 + u109)))]) hx hb dX10_readInstruction_144 hl (k := 3) rfl (by rw [ex131]; rfl) (by decide) rfl (fun ls hl => ?_)
                          refine lv_goto (tgt := 90) hx hb dX10_readInstruction_147 (by decide) ?_
                          exact ih90 x131  f127 _ _ _ I (⟨hqf127.2, ca_up ex131 hi90.2.1 (it_lt c114 hqf111.2)⟩) (cmsd hm90 (ca_dec ex131 hi90.2.1 (it_lt c114 hqf111.2)).1 (ca_dec ex131 hi90.2.1 (it_lt c114 hqf111.2)).2) hG V hS (lv_sub hl [1, 2, 3, 0] rfl)
                        · replace hG := gIf_p hG c130
                          refine lv_iconst (v := 0) hx hb dX10_readInstruction_142 (by decide) ?_
                          exact cRetZ C9 hr hlk hN hNs V I hS (by clear hG V hS hl C9 hts hown hx hb hml hr hlk h0 hN0; first | rfl | decide | (subst_vars; rfl) | (rw [nope9.2.2]; rfl) | (rw [nope9.2.2]; rfl)) (⟨⟨rfl, hqf127.2⟩, hG.symm⟩) dX10_readInstruction_143
                      · replace hG := gIf_n hG c119
                        refine lv_aload_n hx hb dX10_readInstruction_109 rfl (lv_at hl 0 rfl) ?_
                        refine lv_aload_n hx hb dX10_readInstruction_110 rfl (lv_at hl 0 rfl) ?_
                        refine cG C9 V t_o0.1 hf115 rfl tC_lay8 5 (by decide) tCf_X10_26 (Or.inl rfl) rfl dX10_readInstruction_111 ?_
                        replace hG := gLt_e hG (view_gI hf115 rfl)
                        refine cGoI (cRunV (As := [.int v115_5]) (rest := []) C9 hml hN hNs V I hS t_o0.1 hf115 rfl (c_X10_broken l D ks τ L A N hN  ψ Gf90 o0 v115_5 t_o0 ) gC_X10_43 okC_X10_broken ⟨rfl, rfl, Nat.le_of_ble_eq_true rfl, Nat.le_of_ble_eq_true rfl⟩ hl.1 rfl (Nat.le_of_ble_eq_true rfl) dX10_readInstruction_114 ⟨Nat.zero_le _, Nat.zero_le _⟩) hS (fun r134 p133 f132 H locs hqf132 V I hS => ?_)
                        obtain ⟨hqf132, ghqf132⟩ := hqf132
                        replace hG := gC_e hG ghqf132
                        have I : cI ks τ L ψ f132 := by rw [show p133 = ψ from hqf132.1] at I; exact I
                        exact cRetZ C9 hr hlk hN hNs V I hS (by clear hG V hS hl C9 hts hown hx hb hml hr hlk h0 hN0; first | rfl | decide | (subst_vars; rfl) | (rw [nope9.2.2]; rfl) | (rw [hqf132.2.2]; rfl)) (⟨⟨rfl, rn_t hqf132.2.1 hi90.1⟩, hG.symm⟩) dX10_readInstruction_117
                exact loop90 ((nI (sLn.getD (34 + u109) 0) - x110).toInt.toNat + 1) x110  f105 _ _ _ I (⟨rn_t hqf105.2 hi5, ri_0 ex110 (sLn_le.1 _)⟩) (Nat.lt_succ_self _) hG V hS (lv_sub hl [3, 4, 1, 0] rfl)
              · replace hG := gIf_n hG c104
                refine lv_aload_n hx hb dX10_readInstruction_65 rfl (lv_at hl 1 rfl) ?_
                refine lv_iload_n hx hb dX10_readInstruction_66 rfl (lv_at hl 3 rfl) ?_
                refine cGoI (cRunV (As := [.int v1_5]) (rest := []) C9 hml hN hNs V I hS t_o0.1 hf2 rfl (c_X10_broken l D ks τ L A N hN  ψ Gf5 o0 v1_5 t_o0 ) gC_X10_43 okC_X10_broken ⟨rfl, rfl, Nat.le_of_ble_eq_true rfl, Nat.le_of_ble_eq_true rfl⟩ hl.1 rfl (Nat.le_of_ble_eq_true rfl) dX10_readInstruction_67 ⟨Nat.zero_le _, Nat.zero_le _⟩) hS (fun r137 p136 f135 H locs hqf135 V I hS => ?_)
                obtain ⟨hqf135, ghqf135⟩ := hqf135
                replace hG := gC_e hG ghqf135
                have I : cI ks τ L ψ f135 := by rw [show p136 = ψ from hqf135.1] at I; exact I
                exact cRetZ C9 hr hlk hN hNs V I hS (by clear hG V hS hl C9 hts hown hx hb hml hr hlk h0 hN0; first | rfl | decide | (subst_vars; rfl) | (rw [hqf135.2.2]; rfl) | (rw [nope9.2.2]; rfl)) (⟨⟨rfl, rn_t hqf135.2.1 hi5⟩, hG.symm⟩) dX10_readInstruction_70
          · replace hG := gIf_n hG c95
            refine lv_aload_n hx hb dX10_readInstruction_34 rfl (lv_at hl 0 rfl) ?_
            refine lv_dup hx hb dX10_readInstruction_35 rfl ?_
            refine cG C9 V t_o0.1 hf2 rfl tC_lay8 5 (by decide) tCf_X10_26 (Or.inl rfl) rfl dX10_readInstruction_36 ?_
            refine lv_iconst (v := 1) hx hb dX10_readInstruction_39 (by decide) ?_
            refine lv_iadd hx hb dX10_readInstruction_40 ?_
            refine lv_topi (fun x138 ex138 => ?_)
            replace hG := gLt_e hG ex138
            refine cP (v := .int x138) (ty := .int) C9 V hS t_o0.1 hf2 rfl tC_lay8 tyX10 tyX10_ok nmX10 5 (by decide) tCf_X10_26 rfl rfl (by decide +kernel) rfl rfl (Nat.le_of_ble_eq_true rfl) dX10_readInstruction_41 (fun f139 H locs ef139 V hS => ?_)
            replace hG := gLt_e hG (view_I hf2 rfl ef139)
            have hf140 : f139 o0 = .inr (8, [.ref v2_0, .int v2_1, .int ψ, .int v2_3, .ref v2_4, .int x138]) := up_s ef139
            have hh141 := sb_a ex138 h02 (ci_lt c3) hp2.2
            have h0141 := hh141.1
            have h1141 := hh141.2
            have hp141 := hp2
            have I := cI_up I t_o0.2 ef139 (mk8 t2_0 t2_4 hp141 h0141 h1141)
            refine lv_goto (tgt := 5) hx hb dX10_readInstruction_44 (by decide) ?_
            exact ih5   f139 _ _ _ I (by clear hG V hS hl C9 hts hown hx hb hml hr hlk h0 hN0; rw [tAt_e hf140]; exact rn_le ex138 (ci_lt c3)) (show _ < _ from by have z9 := hm5; rw [tAt_e hf2] at z9; rw [tAt_e hf140]; exact cmsd z9 (sb_m ex138 (ci_lt c3) h0141 hp141).1 (sb_m ex138 (ci_lt c3) h0141 hp141).2) hG V hS (lv_sub hl [0, 1, 2] rfl)
  exact loop5 (4000)   f _ _ _ I (h1) (sb_fuel I t_o0) hG V hS (lv_sub hl [1, 2, 0] rfl)
def FC_X10_read_L12 (o0 : Nat) : Nat → Int32 → xS → Int32 × xS
  | 0, w12_1, XGf12 => ((0 : Int32), XGf12)
  | N9_12 + 1, w12_1, XGf12 => if 60 ≤ (w12_1 : Int32) then (gLt (FC_X10_skipBlanks XGf12 o0 : xS) (fun Xf11 => gLt (xI Xf11 o0 5 : Int32) (fun v14_5 => gC (FC_X10_broken Xf11 o0 v14_5) (fun r17 Xf15 => ((r17 : Int32), Xf15))))) else (gLt (FC_X10_skipBlanks XGf12 o0 : xS) (fun Xf19 => gC (FC_X10_readInstruction Xf19 o0 (w12_1 * 4)) (fun r25 Xf23 => if (r25 : Int32) = 0 then (((0 : Int32), Xf23)) else (gLt (FC_X10_skipBlanks Xf23 o0 : xS) (fun Xf28 => gLt (xI Xf28 o0 5 : Int32) (fun v31_5 => gLt (xI Xf28 o0 2 : Int32) (fun ψ => if (v31_5 : Int32) < ψ then (gLt (FC_X10_here Xf28 o0 : Int32) (fun r35 => if (r35 : Int32) = 59 then (gLt ((v31_5 + 1) : Int32) (fun x37 => gLt (xwI Xf28 o0 5 x37 : xS) (fun Xf38 => gLt (w12_1 + (1) : Int32) (fun x41 => FC_X10_read_L12 o0 N9_12 x41 Xf38)))) else (gC (FC_X10_broken Xf28 o0 v31_5) (fun r44 Xf42 => ((r44 : Int32), Xf42))))) else (gLt ((w12_1 + 1) : Int32) (fun x45 => gLt (xwI Xf28 o0 1 x45 : xS) (fun Xf46 => ((1 : Int32), Xf46)))))))))))
def FC_X10_read (X : xS) (o0 : Nat) : Int32 × xS := gLt (xwI X o0 5 0 : xS) (fun Xf2 => gLt ((-1) : Int32) (fun x5 => gLt (xwI Xf2 o0 3 x5 : xS) (fun Xf6 => gLt (0 : Int32) (fun x8 => FC_X10_read_L12 o0 ((60 - x8).toInt.toNat + 1) x8 Xf6))))
set_option maxHeartbeats 1500000 in
set_option maxRecDepth 100000 in
theorem c_X10_read (l : Launch) (D : va_G) (ks : kS) (τ : Nat → Nat) (L : List Nat) (A : Nat → Prop) (N : State → Prop) (hN : cNk A N) (κ : kC) (hN0 : ∀ U, N U → N0 κ A U) (ψ : Int32) (f : Nat → va_E) (o0 : Nat) (t_o0 : ty τ L o0 8) : Met l yX10_read (Cond.code yX10_read cX10_read 2 (some .boolean) :: tC) ({ frames := 7, cells := 0, slots := 0, locals := 155 }) (va_Pc [.ref o0] (cB D ks τ L A N (ψ, f))) (va_Qi (fun r9 x9 => (x9.1 = ψ) ∧ (r9, view x9.2) = FC_X10_read (view f) o0) (cB D ks τ L A N) A) 0 0 A := by
  refine cMet (own := RX10) (by decide) rfl (Nat.le_of_ble_eq_true rfl) ?_
  intro p e s m below meth c ls C9 hml hr hlk V I hNs hl
  have hx := C9.1
  have hb := C9.2.1
  have hown := C9.2.2.1
  have hts := C9.2.2.2.1
  have h0 := hN0 s hNs
  have hS : va_S A s.heap s.heap [] := va_S.rf
  have hG := FC_X10_read.eq_1 (view f) o0
  have hl : lv_has ls 2 [(0, .ref o0)] := hl
  refine lv_aload_n hx hb dX10_read_0 rfl (lv_at hl 0 rfl) ?_
  refine lv_iconst (v := 0) hx hb dX10_read_1 (by decide) ?_
  obtain ⟨v1_0, v1_1, v1_3, v1_4, v1_5, hf1, t1_0, t1_4, hp1, h01, h11⟩ := op8 I t_o0
  refine cP (v := .int 0) (ty := .int) C9 V hS t_o0.1 hf1 rfl tC_lay8 tyX10 tyX10_ok nmX10 5 (by decide) tCf_X10_26 rfl rfl (by decide +kernel) rfl rfl (Nat.le_of_ble_eq_true rfl) dX10_read_2 (fun f2 H locs ef2 V hS => ?_)
  replace hG := gLt_e hG (view_I hf1 rfl ef2)
  have hf3 : f2 o0 = .inr (8, [.ref v1_0, .int v1_1, .int ψ, .int v1_3, .ref v1_4, .int 0]) := up_s ef2
  have hh4 := (by decide : (0 : Int32) ≤ 0 ∧ (0 : Int32) ≤ 1601)
  have h04 := hh4.1
  have h14 := hh4.2
  have hp4 := hp1
  have I := cI_up I t_o0.2 ef2 (mk8 t1_0 t1_4 hp4 h04 h14)
  refine lv_aload_n hx hb dX10_read_5 rfl (lv_at hl 0 rfl) ?_
  refine lv_iconst (v := (-1)) hx hb dX10_read_6 (by decide) ?_
  refine lv_topi (fun x5 ex5 => ?_)
  replace hG := gLt_e hG ex5
  refine cP (v := .int x5) (ty := .int) C9 V hS t_o0.1 hf3 rfl tC_lay8 tyX10 tyX10_ok nmX10 3 (by decide) tCf_X10_15 rfl rfl (by decide +kernel) rfl rfl (Nat.le_of_ble_eq_true rfl) dX10_read_7 (fun f6 H locs ef6 V hS => ?_)
  replace hG := gLt_e hG (view_I hf3 rfl ef6)
  have hf7 : f6 o0 = .inr (8, [.ref v1_0, .int v1_1, .int ψ, .int x5, .ref v1_4, .int 0]) := up_s ef6
  have I := cI_up I t_o0.2 ef6 (mk8 t1_0 t1_4 hp4 h04 h14)
  refine lv_iconst (v := 0) hx hb dX10_read_10 (by decide) ?_
  refine lv_topi (fun x8 ex8 => ?_)
  replace hG := gLt_e hG ex8
  refine lv_istore_n (lv' := [(1, .int x8), (0, .ref o0)]) hx hb dX10_read_11 rfl hl (by decide) rfl (fun ls hl => ?_)
  have loop12 : ∀ (N9_12 : Nat) (w12_1 : Int32)  (Gf12 : Nat → va_E) (H : Heap) (locs : List Loc) (ls : Array Slot), cI ks τ L ψ Gf12 → (tAt Gf12 o0 ≤ ψ ∧ 0 ≤ w12_1 ∧ w12_1 ≤ 60) → ((60 - w12_1).toInt.toNat) < N9_12 → (FC_X10_read (view f) o0 = FC_X10_read_L12 o0 N9_12 w12_1 (view Gf12)) → cV D L Gf12 A H → va_S A s.heap H locs → lv_has ls 2 [(0, .ref o0), (1, .int w12_1)] → W p l e ({ frames := 7, cells := 0, slots := 0, locals := 155 } : Room) s m ([.ref o0] : List Value).toArray below meth c H locs 0 0 (MQ below (va_Qi (fun r9 x9 => (x9.1 = ψ) ∧ (r9, view x9.2) = FC_X10_read (view f) o0) (cB D ks τ L A N) A) ([.ref o0] : List Value).toArray s 0 0 A) (F0 m 12 ls []) := by
    intro N9_12
    induction N9_12 with
    | zero => intro w12_1  Gf12 H locs ls I hi12 hm12; exact absurd hm12 (Nat.not_lt_zero _)
    | succ N9_12 ih12 =>
      intro w12_1  Gf12 H locs ls I hi12 hm12 hG V hS hl
      rw [FC_X10_read_L12] at hG
      refine lv_iload_n hx hb dX10_read_12 rfl (lv_at hl 1 rfl) ?_
      refine lv_bipush (v := 60) hx hb dX10_read_13 (by decide) ?_
      refine lv_icmp_ge (tgt := 92) hx hb dX10_read_15 (by decide) (fun c9 => ?_) (fun c9 => ?_)
      · replace hG := gIf_p hG c9
        refine lv_aload_n hx hb dX10_read_92 rfl (lv_at hl 0 rfl) ?_
        obtain ⟨v10_0, v10_1, v10_3, v10_4, v10_5, hf10, t10_0, t10_4, hp10, h010, h110⟩ := op8 I t_o0
        refine cGoV (cRunV (As := []) (rest := []) C9 hml hN hNs V I hS t_o0.1 hf10 rfl (c_X10_skipBlanks l D ks τ L A N hN  ψ Gf12 o0 t_o0 (hi12.1)) gC_X10_29 okC_X10_skipBlanks ⟨rfl, rfl, Nat.le_of_ble_eq_true rfl, Nat.le_of_ble_eq_true rfl⟩ hl.1 rfl (Nat.le_of_ble_eq_true rfl) dX10_read_93 ⟨Nat.zero_le _, Nat.zero_le _⟩) hS (fun p12 f11 H locs hqf11 V I hS => ?_)
        obtain ⟨hqf11, ghqf11⟩ := hqf11
        replace hG := gLt_e hG (ghqf11)
        have I : cI ks τ L ψ f11 := by rw [show p12 = ψ from hqf11.1] at I; exact I
        refine lv_aload_n hx hb dX10_read_96 rfl (lv_at hl 0 rfl) ?_
        refine lv_aload_n hx hb dX10_read_97 rfl (lv_at hl 0 rfl) ?_
        obtain ⟨v14_0, v14_1, v14_3, v14_4, v14_5, hf14, t14_0, t14_4, hp14, h014, h114⟩ := op8 I t_o0
        refine cG C9 V t_o0.1 hf14 rfl tC_lay8 5 (by decide) tCf_X10_26 (Or.inl rfl) rfl dX10_read_98 ?_
        replace hG := gLt_e hG (view_gI hf14 rfl)
        refine cGoI (cRunV (As := [.int v14_5]) (rest := []) C9 hml hN hNs V I hS t_o0.1 hf14 rfl (c_X10_broken l D ks τ L A N hN  ψ f11 o0 v14_5 t_o0 ) gC_X10_43 okC_X10_broken ⟨rfl, rfl, Nat.le_of_ble_eq_true rfl, Nat.le_of_ble_eq_true rfl⟩ hl.1 rfl (Nat.le_of_ble_eq_true rfl) dX10_read_101 ⟨Nat.zero_le _, Nat.zero_le _⟩) hS (fun r17 p16 f15 H locs hqf15 V I hS => ?_)
        obtain ⟨hqf15, ghqf15⟩ := hqf15
        replace hG := gC_e hG ghqf15
        have I : cI ks τ L ψ f15 := by rw [show p16 = ψ from hqf15.1] at I; exact I
        exact cRetZ C9 hr hlk hN hNs V I hS (by clear hG V hS hl C9 hts hown hx hb hml hr hlk h0 hN0; first | rfl | decide | (subst_vars; rfl) | (rw [nope9.2.2]; rfl) | (rw [hqf15.2.2]; rfl)) (⟨rfl, hG.symm⟩) dX10_read_104
      · replace hG := gIf_n hG c9
        refine lv_aload_n hx hb dX10_read_18 rfl (lv_at hl 0 rfl) ?_
        obtain ⟨v18_0, v18_1, v18_3, v18_4, v18_5, hf18, t18_0, t18_4, hp18, h018, h118⟩ := op8 I t_o0
        refine cGoV (cRunV (As := []) (rest := []) C9 hml hN hNs V I hS t_o0.1 hf18 rfl (c_X10_skipBlanks l D ks τ L A N hN  ψ Gf12 o0 t_o0 (hi12.1)) gC_X10_29 okC_X10_skipBlanks ⟨rfl, rfl, Nat.le_of_ble_eq_true rfl, Nat.le_of_ble_eq_true rfl⟩ hl.1 rfl (Nat.le_of_ble_eq_true rfl) dX10_read_19 ⟨Nat.zero_le _, Nat.zero_le _⟩) hS (fun p20 f19 H locs hqf19 V I hS => ?_)
        obtain ⟨hqf19, ghqf19⟩ := hqf19
        replace hG := gLt_e hG (ghqf19)
        have I : cI ks τ L ψ f19 := by rw [show p20 = ψ from hqf19.1] at I; exact I
        refine lv_aload_n hx hb dX10_read_22 rfl (lv_at hl 0 rfl) ?_
        refine lv_iload_n hx hb dX10_read_23 rfl (lv_at hl 1 rfl) ?_
        refine lv_iconst (v := 4) hx hb dX10_read_24 (by decide) ?_
        refine lv_imul hx hb dX10_read_25 ?_
        obtain ⟨v22_0, v22_1, v22_3, v22_4, v22_5, hf22, t22_0, t22_4, hp22, h022, h122⟩ := op8 I t_o0
        refine cGoI (cRunV (As := [.int (w12_1 * 4)]) (rest := []) C9 hml hN hNs V I hS t_o0.1 hf22 rfl (c_X10_readInstruction l D ks τ L A N hN κ hN0 ψ f19 o0 (w12_1 * 4) t_o0 (hqf19.2.2)) gC_X10_32 okC_X10_readInstruction ⟨rfl, rfl, Nat.le_of_ble_eq_true rfl, Nat.le_of_ble_eq_true rfl⟩ hl.1 rfl (Nat.le_of_ble_eq_true rfl) dX10_read_26 ⟨Nat.zero_le _, Nat.zero_le _⟩) hS (fun r25 p24 f23 H locs hqf23 V I hS => ?_)
        obtain ⟨hqf23, ghqf23⟩ := hqf23
        replace hG := gC_e hG ghqf23
        have I : cI ks τ L ψ f23 := by rw [show p24 = ψ from hqf23.1] at I; exact I
        refine lv_if_ne (tgt := 34) hx hb dX10_read_29 (by decide) (fun c26 => ?_) (fun c26 => ?_)
        · replace hG := gIf_n hG c26
          refine lv_aload_n hx hb dX10_read_34 rfl (lv_at hl 0 rfl) ?_
          obtain ⟨v27_0, v27_1, v27_3, v27_4, v27_5, hf27, t27_0, t27_4, hp27, h027, h127⟩ := op8 I t_o0
          refine cGoV (cRunV (As := []) (rest := []) C9 hml hN hNs V I hS t_o0.1 hf27 rfl (c_X10_skipBlanks l D ks τ L A N hN  ψ f23 o0 t_o0 (hqf23.2)) gC_X10_29 okC_X10_skipBlanks ⟨rfl, rfl, Nat.le_of_ble_eq_true rfl, Nat.le_of_ble_eq_true rfl⟩ hl.1 rfl (Nat.le_of_ble_eq_true rfl) dX10_read_35 ⟨Nat.zero_le _, Nat.zero_le _⟩) hS (fun p29 f28 H locs hqf28 V I hS => ?_)
          obtain ⟨hqf28, ghqf28⟩ := hqf28
          replace hG := gLt_e hG (ghqf28)
          have I : cI ks τ L ψ f28 := by rw [show p29 = ψ from hqf28.1] at I; exact I
          refine lv_aload_n hx hb dX10_read_38 rfl (lv_at hl 0 rfl) ?_
          obtain ⟨v31_0, v31_1, v31_3, v31_4, v31_5, hf31, t31_0, t31_4, hp31, h031, h131⟩ := op8 I t_o0
          refine cG C9 V t_o0.1 hf31 rfl tC_lay8 5 (by decide) tCf_X10_26 (Or.inl rfl) rfl dX10_read_39 ?_
          replace hG := gLt_e hG (view_gI hf31 rfl)
          refine lv_aload_n hx hb dX10_read_42 rfl (lv_at hl 0 rfl) ?_
          refine cG C9 V t_o0.1 hf31 rfl tC_lay8 2 (by decide) tCf_X10_23 (Or.inl rfl) rfl dX10_read_43 ?_
          replace hG := gLt_e hG (view_gI hf31 rfl)
          refine lv_icmp_lt (tgt := 58) hx hb dX10_read_46 (by decide) (fun c32 => ?_) (fun c32 => ?_)
          · replace hG := gIf_p hG c32
            refine lv_aload_n hx hb dX10_read_58 rfl (lv_at hl 0 rfl) ?_
            refine cGoI (cRunV (As := []) (rest := []) C9 hml hN hNs V I hS t_o0.1 hf31 rfl (c_X10_here l D ks τ L A N hN  ψ f28 o0 t_o0 ) gC_X10_39 okC_X10_here ⟨rfl, rfl, Nat.le_of_ble_eq_true rfl, Nat.le_of_ble_eq_true rfl⟩ hl.1 rfl (Nat.le_of_ble_eq_true rfl) dX10_read_59 ⟨Nat.zero_le _, Nat.zero_le _⟩) hS (fun r35 p34 f33 H locs hqf33 V I hS => ?_)
            obtain ⟨hqf33, ghqf33⟩ := hqf33
            replace hG := gLt_e hG ghqf33
            have V : cV D L f28 A H := by rw [show f33 = f28 from congrArg Prod.snd hqf33.1] at V; exact V
            have I : cI ks τ L ψ f28 := by rw [show f33 = f28 from congrArg Prod.snd hqf33.1, show p34 = ψ from congrArg Prod.fst hqf33.1] at I; exact I
            refine lv_bipush (v := 59) hx hb dX10_read_62 (by decide) ?_
            refine lv_icmp_eq (tgt := 76) hx hb dX10_read_64 (by decide) (fun c36 => ?_) (fun c36 => ?_)
            · replace hG := gIf_p hG c36
              refine lv_aload_n hx hb dX10_read_76 rfl (lv_at hl 0 rfl) ?_
              refine lv_dup hx hb dX10_read_77 rfl ?_
              refine cG C9 V t_o0.1 hf31 rfl tC_lay8 5 (by decide) tCf_X10_26 (Or.inl rfl) rfl dX10_read_78 ?_
              refine lv_iconst (v := 1) hx hb dX10_read_81 (by decide) ?_
              refine lv_iadd hx hb dX10_read_82 ?_
              refine lv_topi (fun x37 ex37 => ?_)
              replace hG := gLt_e hG ex37
              refine cP (v := .int x37) (ty := .int) C9 V hS t_o0.1 hf31 rfl tC_lay8 tyX10 tyX10_ok nmX10 5 (by decide) tCf_X10_26 rfl rfl (by decide +kernel) rfl rfl (Nat.le_of_ble_eq_true rfl) dX10_read_83 (fun f38 H locs ef38 V hS => ?_)
              replace hG := gLt_e hG (view_I hf31 rfl ef38)
              have hf39 : f38 o0 = .inr (8, [.ref v31_0, .int v31_1, .int ψ, .int v31_3, .ref v31_4, .int x37]) := up_s ef38
              have hh40 := sb_a ex37 h031 c32 hp31.2
              have h040 := hh40.1
              have h140 := hh40.2
              have hp40 := hp31
              have I := cI_up I t_o0.2 ef38 (mk8 t31_0 t31_4 hp40 h040 h140)
              obtain ⟨x41, ex41⟩ : ∃ y : Int32, y = w12_1 + (1) := ⟨_, rfl⟩
              replace hG := gLt_e hG ex41
              refine lv_iinc (v := x41) (lv' := [(1, .int x41), (0, .ref o0)]) hx hb dX10_read_86 hl (k := 1) rfl (by rw [ex41]; rfl) (by decide) rfl (fun ls hl => ?_)
              refine lv_goto (tgt := 12) hx hb dX10_read_89 (by decide) ?_
              exact ih12 x41  f38 _ _ _ I (⟨rn_t (tAt_e hf39) (rn_le ex37 c32), ca_up ex41 hi12.2.1 (ci_lt c9)⟩) (cmsd hm12 (ca_dec ex41 hi12.2.1 (ci_lt c9)).1 (ca_dec ex41 hi12.2.1 (ci_lt c9)).2) hG V hS (lv_sub hl [1, 0] rfl)
            · replace hG := gIf_n hG c36
              refine lv_aload_n hx hb dX10_read_67 rfl (lv_at hl 0 rfl) ?_
              refine lv_aload_n hx hb dX10_read_68 rfl (lv_at hl 0 rfl) ?_
              refine cG C9 V t_o0.1 hf31 rfl tC_lay8 5 (by decide) tCf_X10_26 (Or.inl rfl) rfl dX10_read_69 ?_
              refine cGoI (cRunV (As := [.int v31_5]) (rest := []) C9 hml hN hNs V I hS t_o0.1 hf31 rfl (c_X10_broken l D ks τ L A N hN  ψ f28 o0 v31_5 t_o0 ) gC_X10_43 okC_X10_broken ⟨rfl, rfl, Nat.le_of_ble_eq_true rfl, Nat.le_of_ble_eq_true rfl⟩ hl.1 rfl (Nat.le_of_ble_eq_true rfl) dX10_read_72 ⟨Nat.zero_le _, Nat.zero_le _⟩) hS (fun r44 p43 f42 H locs hqf42 V I hS => ?_)
              obtain ⟨hqf42, ghqf42⟩ := hqf42
              replace hG := gC_e hG ghqf42
              have I : cI ks τ L ψ f42 := by rw [show p43 = ψ from hqf42.1] at I; exact I
              exact cRetZ C9 hr hlk hN hNs V I hS (by clear hG V hS hl C9 hts hown hx hb hml hr hlk h0 hN0; first | rfl | decide | (subst_vars; rfl) | (rw [hqf42.2.2]; rfl) | (rw [nope9.2.2]; rfl)) (⟨rfl, hG.symm⟩) dX10_read_75
          · replace hG := gIf_n hG c32
            refine lv_aload_n hx hb dX10_read_49 rfl (lv_at hl 0 rfl) ?_
            refine lv_iload_n hx hb dX10_read_50 rfl (lv_at hl 1 rfl) ?_
            refine lv_iconst (v := 1) hx hb dX10_read_51 (by decide) ?_
            refine lv_iadd hx hb dX10_read_52 ?_
            refine lv_topi (fun x45 ex45 => ?_)
            replace hG := gLt_e hG ex45
            refine cP (v := .int x45) (ty := .int) C9 V hS t_o0.1 hf31 rfl tC_lay8 tyX10 tyX10_ok nmX10 1 (by decide) tCf_X10_36 rfl rfl (by decide +kernel) rfl rfl (Nat.le_of_ble_eq_true rfl) dX10_read_53 (fun f46 H locs ef46 V hS => ?_)
            replace hG := gLt_e hG (view_I hf31 rfl ef46)
            have hf47 : f46 o0 = .inr (8, [.ref v31_0, .int x45, .int ψ, .int v31_3, .ref v31_4, .int v31_5]) := up_s ef46
            have I := cI_up I t_o0.2 ef46 (mk8 t31_0 t31_4 hp31 h031 h131)
            refine lv_iconst (v := 1) hx hb dX10_read_56 (by decide) ?_
            exact cRetZ C9 hr hlk hN hNs V I hS (by clear hG V hS hl C9 hts hown hx hb hml hr hlk h0 hN0; first | rfl | decide | (subst_vars; rfl) | (rw [nope9.2.2]; rfl) | (rw [nope9.2.2]; rfl)) (⟨rfl, hG.symm⟩) dX10_read_57
        · replace hG := gIf_p hG c26
          refine lv_iconst (v := 0) hx hb dX10_read_32 (by decide) ?_
          exact cRetZ C9 hr hlk hN hNs V I hS (by clear hG V hS hl C9 hts hown hx hb hml hr hlk h0 hN0; first | rfl | decide | (subst_vars; rfl) | (rw [nope9.2.2]; rfl) | (rw [nope9.2.2]; rfl)) (⟨rfl, hG.symm⟩) dX10_read_33
  exact loop12 ((60 - x8).toInt.toNat + 1) x8  f6 _ _ _ I (⟨rn_t (tAt_e hf7) hp4.1, rd_i ex8⟩) (Nat.lt_succ_self _) hG V hS (lv_sub hl [1, 0] rfl)

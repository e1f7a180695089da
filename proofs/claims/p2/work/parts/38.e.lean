theorem hr_q {f : Nat → va_E} {a cd by9 : Nat} {sz ln pl at9 ψ r : Int32} (h : f a = .inr (8, [.ref cd, .int sz, .int ln, .int pl, .ref by9, .int at9])) (q : tAt f a < ψ ∨ r = -1) (hr : ¬ r = -1) : at9 < ψ := by
  rw [tAt_e h] at q; exact q.resolve_right hr
theorem hrE {r k : Int32} (e : r = k) (hk : ¬ k = -1) : ¬ r = -1 := e ▸ hk
theorem hrG {r : Int32} (e : ¬ r < 48) : ¬ r = -1 := by grind
theorem rn_le {x y n : Int32} (e : y = x + 1) (h : x < n) : y ≤ n := by grind
theorem rn_t {a b n : Int32} (e : a = b) (h : b ≤ n) : a ≤ n := e ▸ h
theorem cs_n {n : Nat} (h : n ≤ 16) : 0 ≤ nI n ∧ nI n ≤ 16 := ⟨nI_pos' (by omega), nI_le (b := 16) h (by decide)⟩
theorem it_i {a i r n : Int32} (e : a - i = r) (er : r = n) (hn : 0 ≤ n ∧ n ≤ 16) (h1 : ¬ i < 0) (h0 : 0 ≤ a) (ha : a ≤ 1600) : 0 ≤ i ∧ i ≤ 1600 - n := by subst er; constructor <;> grind
theorem it_lt {x r n : Int32} (h : ¬ r ≤ x) (er : r = n) : x < n := by subst er; exact ci_lt h
theorem it_in {i n x : Int32} (hn : 0 ≤ n ∧ n ≤ 16) (hi : 0 ≤ i ∧ i ≤ 1600 - n) (h0 : 0 ≤ x) (hl : x < n) : 0 ≤ i + x ∧ i + x < 1600 := by constructor <;> grind
theorem ri_0 {x : Int32} {n : Nat} (e : x = 0) (h : n ≤ 16) : 0 ≤ x ∧ x ≤ nI n := by subst e; exact ⟨by decide, (cs_n h).1⟩
theorem rd_i {x : Int32} (e : x = 0) : 0 ≤ x ∧ x ≤ 60 := by subst e; decide

set_option maxHeartbeats 200000 in
set_option maxRecDepth 100000 in
theorem c_X10_inRange (l : Launch) (D : va_G) (ks : kS) (τ : Nat → Nat) (L : List Nat) (A : Nat → Prop) (N : State → Prop) (hN : cNk A N)  (ψ : Int32) (f : Nat → va_E) (i1 : Int32) (i2 : Int32)  : Met l yX10_inRange (Cond.code yX10_inRange cX10_inRange 2 (some .boolean) :: tC) ({ frames := 0, cells := 0, slots := 0, locals := 0 }) (va_Pc [.int i1, .int i2] (cB D ks τ L A N (ψ, f))) (va_Qi (fun r9 x9 => x9 = (ψ, f)) (cB D ks τ L A N) A) 0 0 A := by
  refine cMet (own := RX10) (by decide) rfl (Nat.le_of_ble_eq_true rfl) ?_
  intro p e s m below meth c ls C9 hml hr hlk V I hNs hl
  have hx := C9.1
  have hb := C9.2.1
  have hown := C9.2.2.1
  have hts := C9.2.2.2.1
  have hS : va_S A s.heap s.heap [] := va_S.rf
  have hl : lv_has ls 2 [(0, .int i1), (1, .int i2)] := hl
  refine lv_iload_n hx hb dX10_inRange_0 rfl (lv_at hl 0 rfl) ?_
  refine lv_bipush (v := 111) hx hb dX10_inRange_1 (by decide) ?_
  refine lv_icmp_ne (tgt := 22) hx hb dX10_inRange_3 (by decide) (fun c1 => ?_) (fun c1 => ?_)
  · refine lv_iload_n hx hb dX10_inRange_22 rfl (lv_at hl 0 rfl) ?_
    refine lv_bipush (v := 107) hx hb dX10_inRange_23 (by decide) ?_
    refine lv_icmp_ne (tgt := 44) hx hb dX10_inRange_25 (by decide) (fun c2 => ?_) (fun c2 => ?_)
    · refine lv_iload_n hx hb dX10_inRange_44 rfl (lv_at hl 0 rfl) ?_
      refine lv_bipush (v := 112) hx hb dX10_inRange_45 (by decide) ?_
      refine lv_icmp_ne (tgt := 55) hx hb dX10_inRange_47 (by decide) (fun c3 => ?_) (fun c3 => ?_)
      · refine lv_iconst (v := 1) hx hb dX10_inRange_55 (by decide) ?_
        refine lv_goto (tgt := 60) hx hb dX10_inRange_56 (by decide) ?_
        exact cRetZ C9 hr hlk hN hNs V I hS (by clear V hS hl C9 hts hown hx hb hml hr hlk; first | rfl | decide | (subst_vars; rfl)) (rfl) dX10_inRange_60
      · refine lv_iload_n hx hb dX10_inRange_50 rfl (lv_at hl 1 rfl) ?_
        refine lv_iconst (v := 1) hx hb dX10_inRange_51 (by decide) ?_
        refine lv_icmp_lt (tgt := 59) hx hb dX10_inRange_52 (by decide) (fun c4 => ?_) (fun c4 => ?_)
        · refine lv_iconst (v := 0) hx hb dX10_inRange_59 (by decide) ?_
          exact cRetZ C9 hr hlk hN hNs V I hS (by clear V hS hl C9 hts hown hx hb hml hr hlk; first | rfl | decide | (subst_vars; rfl)) (rfl) dX10_inRange_60
        · refine lv_iconst (v := 1) hx hb dX10_inRange_55 (by decide) ?_
          refine lv_goto (tgt := 60) hx hb dX10_inRange_56 (by decide) ?_
          exact cRetZ C9 hr hlk hN hNs V I hS (by clear V hS hl C9 hts hown hx hb hml hr hlk; first | rfl | decide | (subst_vars; rfl)) (rfl) dX10_inRange_60
    · refine lv_iload_n hx hb dX10_inRange_28 rfl (lv_at hl 1 rfl) ?_
      refine lv_if_lt (tgt := 42) hx hb dX10_inRange_29 (by decide) (fun c5 => ?_) (fun c5 => ?_)
      · refine lv_iconst (v := 0) hx hb dX10_inRange_42 (by decide) ?_
        exact cRetZ C9 hr hlk hN hNs V I hS (by clear V hS hl C9 hts hown hx hb hml hr hlk; first | rfl | decide | (subst_vars; rfl)) (rfl) dX10_inRange_43
      · refine lv_iload_n hx hb dX10_inRange_32 rfl (lv_at hl 1 rfl) ?_
        refine lv_bipush (v := 60) hx hb dX10_inRange_33 (by decide) ?_
        refine lv_icmp_ge (tgt := 42) hx hb dX10_inRange_35 (by decide) (fun c6 => ?_) (fun c6 => ?_)
        · refine lv_iconst (v := 0) hx hb dX10_inRange_42 (by decide) ?_
          exact cRetZ C9 hr hlk hN hNs V I hS (by clear V hS hl C9 hts hown hx hb hml hr hlk; first | rfl | decide | (subst_vars; rfl)) (rfl) dX10_inRange_43
        · refine lv_iconst (v := 1) hx hb dX10_inRange_38 (by decide) ?_
          refine lv_goto (tgt := 43) hx hb dX10_inRange_39 (by decide) ?_
          exact cRetZ C9 hr hlk hN hNs V I hS (by clear V hS hl C9 hts hown hx hb hml hr hlk; first | rfl | decide | (subst_vars; rfl)) (rfl) dX10_inRange_43
  · refine lv_iload_n hx hb dX10_inRange_6 rfl (lv_at hl 1 rfl) ?_
    refine lv_if_lt (tgt := 20) hx hb dX10_inRange_7 (by decide) (fun c7 => ?_) (fun c7 => ?_)
    · refine lv_iconst (v := 0) hx hb dX10_inRange_20 (by decide) ?_
      exact cRetZ C9 hr hlk hN hNs V I hS (by clear V hS hl C9 hts hown hx hb hml hr hlk; first | rfl | decide | (subst_vars; rfl)) (rfl) dX10_inRange_21
    · refine lv_iload_n hx hb dX10_inRange_10 rfl (lv_at hl 1 rfl) ?_
      refine lv_bipush (v := 24) hx hb dX10_inRange_11 (by decide) ?_
      refine lv_icmp_ge (tgt := 20) hx hb dX10_inRange_13 (by decide) (fun c8 => ?_) (fun c8 => ?_)
      · refine lv_iconst (v := 0) hx hb dX10_inRange_20 (by decide) ?_
        exact cRetZ C9 hr hlk hN hNs V I hS (by clear V hS hl C9 hts hown hx hb hml hr hlk; first | rfl | decide | (subst_vars; rfl)) (rfl) dX10_inRange_21
      · refine lv_iconst (v := 1) hx hb dX10_inRange_16 (by decide) ?_
        refine lv_goto (tgt := 21) hx hb dX10_inRange_17 (by decide) ?_
        exact cRetZ C9 hr hlk hN hNs V I hS (by clear V hS hl C9 hts hown hx hb hml hr hlk; first | rfl | decide | (subst_vars; rfl)) (rfl) dX10_inRange_21
set_option maxHeartbeats 200000 in
set_option maxRecDepth 100000 in
theorem c_X10_isText (l : Launch) (D : va_G) (ks : kS) (τ : Nat → Nat) (L : List Nat) (A : Nat → Prop) (N : State → Prop) (hN : cNk A N) (κ : kC) (hN0 : ∀ U, N U → N0 κ A U) (ψ : Int32) (f : Nat → va_E) (o0 : Nat) (i1 : Int32) (q2 : Nat) (q2n : Nat) (t_o0 : ty τ L o0 8) (t_q2 : isT κ q2 q2n) : Met l yX10_isText (Cond.code yX10_isText cX10_isText 4 (some .boolean) :: tC) ({ frames := 4, cells := 0, slots := 0, locals := 85 }) (va_Pc [.ref o0, .int i1, .ref q2] (cB D ks τ L A N (ψ, f))) (va_Qi (fun r9 x9 => x9 = (ψ, f)) (cB D ks τ L A N) A) 0 0 A := by
  refine cMet (own := RX10) (by decide) rfl (Nat.le_of_ble_eq_true rfl) ?_
  intro p e s m below meth c ls C9 hml hr hlk V I hNs hl
  have hx := C9.1
  have hb := C9.2.1
  have hown := C9.2.2.1
  have hts := C9.2.2.2.1
  have h0 := hN0 s hNs
  have hS : va_S A s.heap s.heap [] := va_S.rf
  have hl : lv_has ls 4 [(0, .ref o0), (1, .int i1), (2, .ref q2)] := hl
  refine lv_aload_n hx hb dX10_isText_0 rfl (lv_at hl 0 rfl) ?_
  obtain ⟨v1_0, v1_1, v1_3, v1_4, v1_5, hf1, t1_0, t1_4, hp1, h01, h11⟩ := op8 I t_o0
  refine cG C9 V t_o0.1 hf1 rfl tC_lay8 5 (by decide) tCf_X10_26 (Or.inl rfl) rfl dX10_isText_1 ?_
  refine lv_iload_n hx hb dX10_isText_4 rfl (lv_at hl 1 rfl) ?_
  refine lv_isub hx hb dX10_isText_5 ?_
  refine lv_aload_n hx hb dX10_isText_6 rfl (lv_at hl 2 rfl) ?_
  refine cGoI (cRunR (As := []) (rest := [.int (v1_5 - i1)]) C9 hml hN hNs V I hS (isT_r h0 hS t_q2) (c_J0_length_8abf5 l D ks τ L A N hN κ hN0 ψ f q2 q2n t_q2 ) gC_X10_64 okC_J0_length_8abf5 ⟨rfl, rfl, Nat.le_of_ble_eq_true rfl, Nat.le_of_ble_eq_true rfl⟩ hl.1 rfl (Nat.le_of_ble_eq_true rfl) dX10_isText_7 ⟨Nat.zero_le _, Nat.zero_le _⟩) hS (fun r4 p3 f2 H locs hqf2 V I hS => ?_)
  have V : cV D L f A H := by rw [show f2 = f from congrArg Prod.snd hqf2.1] at V; exact V
  have I : cI ks τ L ψ f := by rw [show f2 = f from congrArg Prod.snd hqf2.1, show p3 = ψ from congrArg Prod.fst hqf2.1] at I; exact I
  refine lv_icmp_ne (tgt := 29) hx hb dX10_isText_10 (by decide) (fun c5 => ?_) (fun c5 => ?_)
  · refine lv_iconst (v := 0) hx hb dX10_isText_29 (by decide) ?_
    exact cRetZ C9 hr hlk hN hNs V I hS (by clear V hS hl C9 hts hown hx hb hml hr hlk h0 hN0; first | rfl | decide | (subst_vars; rfl)) (rfl) dX10_isText_30
  · refine lv_iload_n hx hb dX10_isText_13 rfl (lv_at hl 1 rfl) ?_
    refine lv_if_lt (tgt := 29) hx hb dX10_isText_14 (by decide) (fun c6 => ?_) (fun c6 => ?_)
    · refine lv_iconst (v := 0) hx hb dX10_isText_29 (by decide) ?_
      exact cRetZ C9 hr hlk hN hNs V I hS (by clear V hS hl C9 hts hown hx hb hml hr hlk h0 hN0; first | rfl | decide | (subst_vars; rfl)) (rfl) dX10_isText_30
    · refine lv_aload_n hx hb dX10_isText_17 rfl (lv_at hl 0 rfl) ?_
      refine cG C9 V t_o0.1 hf1 rfl tC_lay8 5 (by decide) tCf_X10_26 (Or.inl rfl) rfl dX10_isText_18 ?_
      refine lv_aload_n hx hb dX10_isText_21 rfl (lv_at hl 0 rfl) ?_
      refine cG C9 V t_o0.1 hf1 rfl tC_lay8 4 (by decide) tCf_X10_19 (Or.inl rfl) rfl dX10_isText_22 ?_
      obtain ⟨g7, hf7⟩ := op11 I t1_4
      refine cAl (t0 := 0) (v := 1600) C9 V t1_4.1 hf7 rfl (by first | rfl | decide) dX10_isText_25 ?_
      refine lv_icmp_le (tgt := 31) hx hb dX10_isText_26 (by decide) (fun c8 => ?_) (fun c8 => ?_)
      · refine lv_iconst (v := 0) hx hb dX10_isText_31 (by decide) ?_
        refine lv_topi (fun x9 ex9 => ?_)
        refine lv_istore_n (lv' := [(3, .int x9), (0, .ref o0), (1, .int i1), (2, .ref q2)]) hx hb dX10_isText_32 rfl hl (by decide) rfl (fun ls hl => ?_)
        have loop33 : ∀ (N9 : Nat) (w33_3 : Int32)  (Gf33 : Nat → va_E) (H : Heap) (locs : List Loc) (ls : Array Slot), cI ks τ L ψ Gf33 → (Gf33 = f ∧ (0 ≤ w33_3 ∧ w33_3 ≤ nI q2n) ∧ 0 ≤ i1 ∧ i1 ≤ 1600 - nI q2n) → ((nI q2n - w33_3).toInt.toNat) < N9 → cV D L Gf33 A H → va_S A s.heap H locs → lv_has ls 4 [(0, .ref o0), (1, .int i1), (2, .ref q2), (3, .int w33_3)] → W p l e ({ frames := 4, cells := 0, slots := 0, locals := 85 } : Room) s m ([.ref o0, .int i1, .ref q2] : List Value).toArray below meth c H locs 0 0 (MQ below (va_Qi (fun r9 x9 => x9 = (ψ, f)) (cB D ks τ L A N) A) ([.ref o0, .int i1, .ref q2] : List Value).toArray s 0 0 A) (F0 m 33 ls []) := by
          intro N9
          induction N9 with
          | zero => intro w33_3  Gf33 H locs ls I hi33 hm33; exact absurd hm33 (Nat.not_lt_zero _)
          | succ N9 ih33 =>
            intro w33_3  Gf33 H locs ls I hi33 hm33 V hS hl
            refine lv_iload_n hx hb dX10_isText_33 rfl (lv_at hl 3 rfl) ?_
            refine lv_aload_n hx hb dX10_isText_34 rfl (lv_at hl 2 rfl) ?_
            refine cGoI (cRunR (As := []) (rest := [.int w33_3]) C9 hml hN hNs V I hS (isT_r h0 hS t_q2) (c_J0_length_8abf5 l D ks τ L A N hN κ hN0 ψ Gf33 q2 q2n t_q2 ) gC_X10_64 okC_J0_length_8abf5 ⟨rfl, rfl, Nat.le_of_ble_eq_true rfl, Nat.le_of_ble_eq_true rfl⟩ hl.1 rfl (Nat.le_of_ble_eq_true rfl) dX10_isText_35 ⟨Nat.zero_le _, Nat.zero_le _⟩) hS (fun r12 p11 f10 H locs hqf10 V I hS => ?_)
            have V : cV D L Gf33 A H := by rw [show f10 = Gf33 from congrArg Prod.snd hqf10.1] at V; exact V
            have I : cI ks τ L ψ Gf33 := by rw [show f10 = Gf33 from congrArg Prod.snd hqf10.1, show p11 = ψ from congrArg Prod.fst hqf10.1] at I; exact I
            refine lv_icmp_ge (tgt := 65) hx hb dX10_isText_38 (by decide) (fun c13 => ?_) (fun c13 => ?_)
            · refine lv_iconst (v := 1) hx hb dX10_isText_65 (by decide) ?_
              exact cRetZ C9 hr hlk hN hNs V I hS (by clear V hS hl C9 hts hown hx hb hml hr hlk h0 hN0; first | rfl | decide | (subst_vars; rfl)) (congrArg (Prod.mk ψ) hi33.1) dX10_isText_66
            · refine lv_aload_n hx hb dX10_isText_41 rfl (lv_at hl 0 rfl) ?_
              obtain ⟨v14_0, v14_1, v14_3, v14_4, v14_5, hf14, t14_0, t14_4, hp14, h014, h114⟩ := op8 I t_o0
              refine cG C9 V t_o0.1 hf14 rfl tC_lay8 4 (by decide) tCf_X10_19 (Or.inl rfl) rfl dX10_isText_42 ?_
              refine lv_iload_n hx hb dX10_isText_45 rfl (lv_at hl 1 rfl) ?_
              refine lv_iload_n hx hb dX10_isText_46 rfl (lv_at hl 3 rfl) ?_
              refine lv_iadd hx hb dX10_isText_47 ?_
              obtain ⟨g15, hf15⟩ := op11 I t14_4
              refine cLb C9 V t14_4.1 hf15 (cvin (N := 1600) rfl ((it_in (cs_n (isT_le h0 t_q2)) hi33.2.2 hi33.2.1.1 (it_lt c13 hqf10.2)).1) ((it_in (cs_n (isT_le h0 t_q2)) hi33.2.2 hi33.2.1.1 (it_lt c13 hqf10.2)).2)) dX10_isText_48 ?_
              refine lv_topi (fun x16 ex16 => ?_)
              refine lv_aload_n hx hb dX10_isText_49 rfl (lv_at hl 2 rfl) ?_
              refine lv_iload_n hx hb dX10_isText_50 rfl (lv_at hl 3 rfl) ?_
              refine cGoI (cRunR (As := [.int w33_3]) (rest := [.int x16]) C9 hml hN hNs V I hS (isT_r h0 hS t_q2) (c_J0_charAt_5068e l D ks τ L A N hN κ hN0 ψ Gf33 q2 q2n w33_3 t_q2 (hi33.2.1.1) (it_lt c13 hqf10.2)) gC_X10_68 okC_J0_charAt_5068e ⟨rfl, rfl, Nat.le_of_ble_eq_true rfl, Nat.le_of_ble_eq_true rfl⟩ hl.1 rfl (Nat.le_of_ble_eq_true rfl) dX10_isText_51 ⟨Nat.zero_le _, Nat.zero_le _⟩) hS (fun r19 p18 f17 H locs hqf17 V I hS => ?_)
              have V : cV D L Gf33 A H := by rw [show f17 = Gf33 from congrArg Prod.snd hqf17] at V; exact V
              have I : cI ks τ L ψ Gf33 := by rw [show f17 = Gf33 from congrArg Prod.snd hqf17, show p18 = ψ from congrArg Prod.fst hqf17] at I; exact I
              refine lv_icmp_eq (tgt := 59) hx hb dX10_isText_54 (by decide) (fun c20 => ?_) (fun c20 => ?_)
              · obtain ⟨x21, ex21⟩ : ∃ y : Int32, y = w33_3 + (1) := ⟨_, rfl⟩
                refine lv_iinc (v := x21) (lv' := [(3, .int x21), (0, .ref o0), (1, .int i1), (2, .ref q2)]) hx hb dX10_isText_59 hl (k := 3) rfl (by rw [ex21]; rfl) (by decide) rfl (fun ls hl => ?_)
                refine lv_goto (tgt := 33) hx hb dX10_isText_62 (by decide) ?_
                exact ih33 x21  Gf33 _ _ _ I (⟨hi33.1, ca_up ex21 hi33.2.1.1 (it_lt c13 hqf10.2), hi33.2.2⟩) (cmsd hm33 (ca_dec ex21 hi33.2.1.1 (it_lt c13 hqf10.2)).1 (ca_dec ex21 hi33.2.1.1 (it_lt c13 hqf10.2)).2) V hS (lv_sub hl [1, 2, 3, 0] rfl)
              · refine lv_iconst (v := 0) hx hb dX10_isText_57 (by decide) ?_
                exact cRetZ C9 hr hlk hN hNs V I hS (by clear V hS hl C9 hts hown hx hb hml hr hlk h0 hN0; first | rfl | decide | (subst_vars; rfl)) (congrArg (Prod.mk ψ) hi33.1) dX10_isText_58
        exact loop33 _ x9  f _ _ _ I (⟨rfl, ri_0 ex9 (isT_le h0 t_q2), it_i c5 hqf2.2 (cs_n (isT_le h0 t_q2)) c6 h01 c8⟩) (Nat.lt_succ_self _) V hS (lv_sub hl [1, 2, 3, 0] rfl)
      · refine lv_iconst (v := 0) hx hb dX10_isText_29 (by decide) ?_
        exact cRetZ C9 hr hlk hN hNs V I hS (by clear V hS hl C9 hts hown hx hb hml hr hlk h0 hN0; first | rfl | decide | (subst_vars; rfl)) (rfl) dX10_isText_30
set_option maxHeartbeats 200000 in
set_option maxRecDepth 100000 in
theorem c_X10_wordAt (l : Launch) (D : va_G) (ks : kS) (τ : Nat → Nat) (L : List Nat) (A : Nat → Prop) (N : State → Prop) (hN : cNk A N) (κ : kC) (hN0 : ∀ U, N U → N0 κ A U) (ψ : Int32) (f : Nat → va_E) (o0 : Nat) (i1 : Int32) (t_o0 : ty τ L o0 8) : Met l yX10_wordAt (Cond.code yX10_wordAt cX10_wordAt 3 (some .int) :: tC) ({ frames := 5, cells := 0, slots := 0, locals := 108 }) (va_Pc [.ref o0, .int i1] (cB D ks τ L A N (ψ, f))) (va_Qi (fun r9 x9 => x9 = (ψ, f)) (cB D ks τ L A N) A) 0 0 A := by
  refine cMet (own := RX10) (by decide) rfl (Nat.le_of_ble_eq_true rfl) ?_
  intro p e s m below meth c ls C9 hml hr hlk V I hNs hl
  have hx := C9.1
  have hb := C9.2.1
  have hown := C9.2.2.1
  have hts := C9.2.2.2.1
  have h0 := hN0 s hNs
  have hS : va_S A s.heap s.heap [] := va_S.rf
  have hl : lv_has ls 3 [(0, .ref o0), (1, .int i1)] := hl
  refine lv_iconst (v := 0) hx hb dX10_wordAt_0 (by decide) ?_
  refine lv_topi (fun x1 ex1 => ?_)
  refine lv_istore_n (lv' := [(2, .int x1), (0, .ref o0), (1, .int i1)]) hx hb dX10_wordAt_1 rfl hl (by decide) rfl (fun ls hl => ?_)
  have loop2 : ∀ (N9 : Nat) (w2_2 : Int32)  (Gf2 : Nat → va_E) (H : Heap) (locs : List Loc) (ls : Array Slot), cI ks τ L ψ Gf2 → (Gf2 = f ∧ 0 ≤ w2_2 ∧ w2_2 ≤ 34) → ((34 - w2_2).toInt.toNat) < N9 → cV D L Gf2 A H → va_S A s.heap H locs → lv_has ls 3 [(0, .ref o0), (1, .int i1), (2, .int w2_2)] → W p l e ({ frames := 5, cells := 0, slots := 0, locals := 108 } : Room) s m ([.ref o0, .int i1] : List Value).toArray below meth c H locs 0 0 (MQ below (va_Qi (fun r9 x9 => x9 = (ψ, f)) (cB D ks τ L A N) A) ([.ref o0, .int i1] : List Value).toArray s 0 0 A) (F0 m 2 ls []) := by
    intro N9
    induction N9 with
    | zero => intro w2_2  Gf2 H locs ls I hi2 hm2; exact absurd hm2 (Nat.not_lt_zero _)
    | succ N9 ih2 =>
      intro w2_2  Gf2 H locs ls I hi2 hm2 V hS hl
      refine lv_iload_n hx hb dX10_wordAt_2 rfl (lv_at hl 2 rfl) ?_
      refine cZw C9 h0 hS (by simp [nwL, RX10]) dX10_wordAt_3 (fun y2 hy2 => ?_)
      refine cAw C9 hy2 hS dX10_wordAt_6 ?_
      refine lv_icmp_ge (tgt := 34) hx hb dX10_wordAt_7 (by decide) (fun c3 => ?_) (fun c3 => ?_)
      · refine lv_iconst (v := (-1)) hx hb dX10_wordAt_34 (by decide) ?_
        exact cRetI C9 hr hlk hN hNs V I hS (congrArg (Prod.mk ψ) hi2.1) dX10_wordAt_35
      · refine lv_aload_n hx hb dX10_wordAt_10 rfl (lv_at hl 0 rfl) ?_
        refine lv_iload_n hx hb dX10_wordAt_11 rfl (lv_at hl 1 rfl) ?_
        refine cZw C9 h0 hS (by simp [nwL, RX10]) dX10_wordAt_12 (fun y4 hy4 => ?_)
        refine lv_iload_n hx hb dX10_wordAt_15 rfl (lv_at hl 2 rfl) ?_
        refine cLw C9 hy4 hS (cvin (N := 34) rfl (hi2.2.1) (ci_lt c3)) dX10_wordAt_16 (fun y5 hy5 => ?_)
        refine cGt C9 h0 hS hy5 tCf_X10_80 dX10_wordAt_17 (fun y6 y6n hy6 hny6 => ?_)
        obtain ⟨v7_0, v7_1, v7_3, v7_4, v7_5, hf7, t7_0, t7_4, hp7, h07, h17⟩ := op8 I t_o0
        refine cGoI (cRunV (As := [.int i1, .ref y6]) (rest := []) C9 hml hN hNs V I hS t_o0.1 hf7 rfl (c_X10_isText l D ks τ L A N hN κ hN0 ψ Gf2 o0 i1 y6 y6n t_o0 hy6 ) gC_X10_83 okC_X10_isText ⟨rfl, rfl, Nat.le_of_ble_eq_true rfl, Nat.le_of_ble_eq_true rfl⟩ hl.1 rfl (Nat.le_of_ble_eq_true rfl) dX10_wordAt_20 ⟨Nat.zero_le _, Nat.zero_le _⟩) hS (fun r10 p9 f8 H locs hqf8 V I hS => ?_)
        have V : cV D L Gf2 A H := by rw [show f8 = Gf2 from congrArg Prod.snd hqf8] at V; exact V
        have I : cI ks τ L ψ Gf2 := by rw [show f8 = Gf2 from congrArg Prod.snd hqf8, show p9 = ψ from congrArg Prod.fst hqf8] at I; exact I
        refine lv_if_eq (tgt := 28) hx hb dX10_wordAt_23 (by decide) (fun c11 => ?_) (fun c11 => ?_)
        · obtain ⟨x12, ex12⟩ : ∃ y : Int32, y = w2_2 + (1) := ⟨_, rfl⟩
          refine lv_iinc (v := x12) (lv' := [(2, .int x12), (0, .ref o0), (1, .int i1)]) hx hb dX10_wordAt_28 hl (k := 2) rfl (by rw [ex12]; rfl) (by decide) rfl (fun ls hl => ?_)
          refine lv_goto (tgt := 2) hx hb dX10_wordAt_31 (by decide) ?_
          exact ih2 x12  Gf2 _ _ _ I (⟨hi2.1, ca_up ex12 hi2.2.1 (ci_lt c3)⟩) (cmsd hm2 (ca_dec ex12 hi2.2.1 (ci_lt c3)).1 (ca_dec ex12 hi2.2.1 (ci_lt c3)).2) V hS (lv_sub hl [1, 2, 0] rfl)
        · refine lv_iload_n hx hb dX10_wordAt_26 rfl (lv_at hl 2 rfl) ?_
          exact cRetI C9 hr hlk hN hNs V I hS (congrArg (Prod.mk ψ) hi2.1) dX10_wordAt_27
  exact loop2 _ x1  f _ _ _ I (⟨rfl, by subst_vars; decide⟩) (Nat.lt_succ_self _) V hS (lv_sub hl [1, 2, 0] rfl)
set_option maxHeartbeats 200000 in
set_option maxRecDepth 100000 in
theorem c_X10_readNumber (l : Launch) (D : va_G) (ks : kS) (τ : Nat → Nat) (L : List Nat) (A : Nat → Prop) (N : State → Prop) (hN : cNk A N)  (ψ : Int32) (f : Nat → va_E) (o0 : Nat) (i1 : Int32) (i2 : Int32) (t_o0 : ty τ L o0 8) (h1 : tAt f o0 ≤ ψ) : Met l yX10_readNumber (Cond.code yX10_readNumber cX10_readNumber 7 (some .boolean) :: tC) ({ frames := 1, cells := 0, slots := 0, locals := 22 }) (va_Pc [.ref o0, .int i1, .int i2] (cB D ks τ L A N (ψ, f))) (va_Qi (fun r9 x9 => x9.1 = ψ ∧ tAt x9.2 o0 ≤ ψ) (cB D ks τ L A N) A) 0 0 A := by
  refine cMet (own := RX10) (by decide) rfl (Nat.le_of_ble_eq_true rfl) ?_
  intro p e s m below meth c ls C9 hml hr hlk V I hNs hl
  have hx := C9.1
  have hb := C9.2.1
  have hown := C9.2.2.1
  have hts := C9.2.2.2.1
  have hS : va_S A s.heap s.heap [] := va_S.rf
  have hl : lv_has ls 7 [(0, .ref o0), (1, .int i1), (2, .int i2)] := hl
  refine lv_aload_n hx hb dX10_readNumber_0 rfl (lv_at hl 0 rfl) ?_
  obtain ⟨v1_0, v1_1, v1_3, v1_4, v1_5, hf1, t1_0, t1_4, hp1, h01, h11⟩ := op8 I t_o0
  refine cG C9 V t_o0.1 hf1 rfl tC_lay8 5 (by decide) tCf_X10_26 (Or.inl rfl) rfl dX10_readNumber_1 ?_
  refine lv_istore_n (lv' := [(3, .int v1_5), (0, .ref o0), (1, .int i1), (2, .int i2)]) hx hb dX10_readNumber_4 rfl hl (by decide) rfl (fun ls hl => ?_)
  refine lv_aload_n hx hb dX10_readNumber_5 rfl (lv_at hl 1 rfl) ?_
  refine cGoI (cRunV (As := []) (rest := []) C9 hml hN hNs V I hS t_o0.1 hf1 rfl (c_X10_here l D ks τ L A N hN  ψ f o0 t_o0 ) gC_X10_39 okC_X10_here ⟨rfl, rfl, Nat.le_of_ble_eq_true rfl, Nat.le_of_ble_eq_true rfl⟩ hl.1 rfl (Nat.le_of_ble_eq_true rfl) dX10_readNumber_6 ⟨Nat.zero_le _, Nat.zero_le _⟩) hS (fun r4 p3 f2 H locs hqf2 V I hS => ?_)
  have V : cV D L f A H := by rw [show f2 = f from congrArg Prod.snd hqf2.1] at V; exact V
  have I : cI ks τ L ψ f := by rw [show f2 = f from congrArg Prod.snd hqf2.1, show p3 = ψ from congrArg Prod.fst hqf2.1] at I; exact I
  refine lv_bipush (v := 45) hx hb dX10_readNumber_9 (by decide) ?_
  refine lv_icmp_ne (tgt := 18) hx hb dX10_readNumber_11 (by decide) (fun c5 => ?_) (fun c5 => ?_)
  · refine lv_iconst (v := 0) hx hb dX10_readNumber_18 (by decide) ?_
    refine lv_istore (lv' := [(4, .int 0), (3, .int v1_5), (0, .ref o0), (1, .int i1), (2, .int i2)]) hx hb dX10_readNumber_19 hl (by decide) rfl (fun ls hl => ?_)
    refine lv_iload hx hb dX10_readNumber_21 (lv_at hl 0 rfl) ?_
    refine lv_if_eq (tgt := 36) hx hb dX10_readNumber_23 (by decide) (fun c6 => ?_) (fun c6 => ?_)
    · refine lv_aload_n hx hb dX10_readNumber_36 rfl (lv_at hl 2 rfl) ?_
      refine cG C9 V t_o0.1 hf1 rfl tC_lay8 5 (by decide) tCf_X10_26 (Or.inl rfl) rfl dX10_readNumber_37 ?_
      refine lv_istore (lv' := [(5, .int v1_5), (4, .int 0), (3, .int v1_5), (0, .ref o0), (1, .int i1), (2, .int i2)]) hx hb dX10_readNumber_40 hl (by decide) rfl (fun ls hl => ?_)
      refine lv_iconst (v := 0) hx hb dX10_readNumber_42 (by decide) ?_
      refine lv_topi (fun x7 ex7 => ?_)
      refine lv_istore (lv' := [(6, .int x7), (5, .int v1_5), (4, .int 0), (3, .int v1_5), (0, .ref o0), (1, .int i1), (2, .int i2)]) hx hb dX10_readNumber_43 hl (by decide) rfl (fun ls hl => ?_)
      have loop45 : ∀ (N9 : Nat) (w45_6 : Int32)  (Gf45 : Nat → va_E) (H : Heap) (locs : List Loc) (ls : Array Slot), cI ks τ L ψ Gf45 → (tAt Gf45 o0 ≤ ψ) → ((ψ - tAt Gf45 o0).toInt.toNat) < N9 → cV D L Gf45 A H → va_S A s.heap H locs → lv_has ls 7 [(0, .ref o0), (1, .int i1), (2, .int i2), (3, .int v1_5), (4, .int 0), (5, .int v1_5), (6, .int w45_6)] → W p l e ({ frames := 1, cells := 0, slots := 0, locals := 22 } : Room) s m ([.ref o0, .int i1, .int i2] : List Value).toArray below meth c H locs 0 0 (MQ below (va_Qi (fun r9 x9 => x9.1 = ψ ∧ tAt x9.2 o0 ≤ ψ) (cB D ks τ L A N) A) ([.ref o0, .int i1, .int i2] : List Value).toArray s 0 0 A) (F0 m 45 ls []) := by
        intro N9
        induction N9 with
        | zero => intro w45_6  Gf45 H locs ls I hi45 hm45; exact absurd hm45 (Nat.not_lt_zero _)
        | succ N9 ih45 =>
          intro w45_6  Gf45 H locs ls I hi45 hm45 V hS hl
          refine lv_aload_n hx hb dX10_readNumber_45 rfl (lv_at hl 0 rfl) ?_
          obtain ⟨v8_0, v8_1, v8_3, v8_4, v8_5, hf8, t8_0, t8_4, hp8, h08, h18⟩ := op8 I t_o0
          refine cG C9 V t_o0.1 hf8 rfl tC_lay8 5 (by decide) tCf_X10_26 (Or.inl rfl) rfl dX10_readNumber_46 ?_
          refine lv_iload hx hb dX10_readNumber_49 (lv_at hl 5 rfl) ?_
          refine lv_isub hx hb dX10_readNumber_51 ?_
          refine lv_bipush (v := 9) hx hb dX10_readNumber_52 (by decide) ?_
          refine lv_icmp_ge (tgt := 103) hx hb dX10_readNumber_54 (by decide) (fun c9 => ?_) (fun c9 => ?_)
          · refine lv_aload_n hx hb dX10_readNumber_103 rfl (lv_at hl 0 rfl) ?_
            refine cG C9 V t_o0.1 hf8 rfl tC_lay8 5 (by decide) tCf_X10_26 (Or.inl rfl) rfl dX10_readNumber_104 ?_
            refine lv_iload hx hb dX10_readNumber_107 (lv_at hl 5 rfl) ?_
            refine lv_icmp_ne (tgt := 121) hx hb dX10_readNumber_109 (by decide) (fun c10 => ?_) (fun c10 => ?_)
            · refine lv_iload hx hb dX10_readNumber_121 (lv_at hl 4 rfl) ?_
              refine lv_if_eq (tgt := 132) hx hb dX10_readNumber_123 (by decide) (fun c11 => ?_) (fun c11 => ?_)
              · refine lv_iload hx hb dX10_readNumber_132 (lv_at hl 6 rfl) ?_
                refine lv_istore (lv' := [(6, .int w45_6), (0, .ref o0), (1, .int i1), (2, .int i2), (3, .int v1_5), (4, .int 0), (5, .int v1_5)]) hx hb dX10_readNumber_134 hl (by decide) rfl (fun ls hl => ?_)
                refine lv_iload_n hx hb dX10_readNumber_136 rfl (lv_at hl 3 rfl) ?_
                refine lv_iload hx hb dX10_readNumber_137 (lv_at hl 0 rfl) ?_
                refine cGoI (cRunS (As := [.int i2, .int w45_6]) (rest := []) C9 hml hN hNs V I hS (c_X10_inRange l D ks τ L A N hN  ψ Gf45 i2 w45_6  ) gS_X10_76 okC_X10_inRange ⟨rfl, rfl, Nat.le_of_ble_eq_true rfl, Nat.le_of_ble_eq_true rfl⟩ hl.1 rfl (Nat.le_of_ble_eq_true rfl) dX10_readNumber_139 ⟨Nat.zero_le _, Nat.zero_le _⟩) hS (fun r14 p13 f12 H locs hqf12 V I hS => ?_)
                have V : cV D L Gf45 A H := by rw [show f12 = Gf45 from congrArg Prod.snd hqf12] at V; exact V
                have I : cI ks τ L ψ Gf45 := by rw [show f12 = Gf45 from congrArg Prod.snd hqf12, show p13 = ψ from congrArg Prod.fst hqf12] at I; exact I
                refine lv_if_ne (tgt := 151) hx hb dX10_readNumber_142 (by decide) (fun c15 => ?_) (fun c15 => ?_)
                · refine lv_aload_n hx hb dX10_readNumber_151 rfl (lv_at hl 1 rfl) ?_
                  refine lv_iload_n hx hb dX10_readNumber_152 rfl (lv_at hl 2 rfl) ?_
                  refine lv_iload hx hb dX10_readNumber_153 (lv_at hl 0 rfl) ?_
                  refine cGoV (cRunV (As := [.int i1, .int w45_6]) (rest := []) C9 hml hN hNs V I hS t_o0.1 hf8 rfl (c_X10_store l D ks τ L A N hN  ψ Gf45 o0 i1 w45_6 t_o0 ) gC_X10_54 okC_X10_store ⟨rfl, rfl, Nat.le_of_ble_eq_true rfl, Nat.le_of_ble_eq_true rfl⟩ hl.1 rfl (Nat.le_of_ble_eq_true rfl) dX10_readNumber_155 ⟨Nat.zero_le _, Nat.zero_le _⟩) hS (fun p17 f16 H locs hqf16 V I hS => ?_)
                  have I : cI ks τ L ψ f16 := by rw [show p17 = ψ from hqf16.1] at I; exact I
                  refine lv_iconst (v := 1) hx hb dX10_readNumber_158 (by decide) ?_
                  exact cRetZ C9 hr hlk hN hNs V I hS (by clear V hS hl C9 hts hown hx hb hml hr hlk; first | rfl | decide | (subst_vars; rfl) | (rw [nope9.2.2]; rfl) | (rw [nope9.2.2]; rfl)) (⟨rfl, rn_t hqf16.2 hi45⟩) dX10_readNumber_159
                · refine lv_aload_n hx hb dX10_readNumber_145 rfl (lv_at hl 1 rfl) ?_
                  refine lv_iload_n hx hb dX10_readNumber_146 rfl (lv_at hl 4 rfl) ?_
                  refine cGoI (cRunV (As := [.int v1_5]) (rest := []) C9 hml hN hNs V I hS t_o0.1 hf8 rfl (c_X10_broken l D ks τ L A N hN  ψ Gf45 o0 v1_5 t_o0 ) gC_X10_43 okC_X10_broken ⟨rfl, rfl, Nat.le_of_ble_eq_true rfl, Nat.le_of_ble_eq_true rfl⟩ hl.1 rfl (Nat.le_of_ble_eq_true rfl) dX10_readNumber_147 ⟨Nat.zero_le _, Nat.zero_le _⟩) hS (fun r21 p20 f19 H locs hqf19 V I hS => ?_)
                  have I : cI ks τ L ψ f19 := by rw [show p20 = ψ from hqf19.1] at I; exact I
                  exact cRetZ C9 hr hlk hN hNs V I hS (by clear V hS hl C9 hts hown hx hb hml hr hlk; first | rfl | decide | (subst_vars; rfl) | (rw [nope9.2.2]; rfl) | (rw [hqf19.2.2]; rfl)) (⟨rfl, rn_t hqf19.2.1 hi45⟩) dX10_readNumber_150
              · exact absurd c11 (by decide)
            · refine lv_aload_n hx hb dX10_readNumber_112 rfl (lv_at hl 0 rfl) ?_
              refine lv_aload_n hx hb dX10_readNumber_113 rfl (lv_at hl 0 rfl) ?_
              refine cG C9 V t_o0.1 hf8 rfl tC_lay8 5 (by decide) tCf_X10_26 (Or.inl rfl) rfl dX10_readNumber_114 ?_
              refine cGoI (cRunV (As := [.int v8_5]) (rest := []) C9 hml hN hNs V I hS t_o0.1 hf8 rfl (c_X10_broken l D ks τ L A N hN  ψ Gf45 o0 v8_5 t_o0 ) gC_X10_43 okC_X10_broken ⟨rfl, rfl, Nat.le_of_ble_eq_true rfl, Nat.le_of_ble_eq_true rfl⟩ hl.1 rfl (Nat.le_of_ble_eq_true rfl) dX10_readNumber_117 ⟨Nat.zero_le _, Nat.zero_le _⟩) hS (fun r24 p23 f22 H locs hqf22 V I hS => ?_)
              have I : cI ks τ L ψ f22 := by rw [show p23 = ψ from hqf22.1] at I; exact I
              exact cRetZ C9 hr hlk hN hNs V I hS (by clear V hS hl C9 hts hown hx hb hml hr hlk; first | rfl | decide | (subst_vars; rfl) | (rw [hqf22.2.2]; rfl) | (rw [nope9.2.2]; rfl)) (⟨rfl, rn_t hqf22.2.1 hi45⟩) dX10_readNumber_120
          · refine lv_aload_n hx hb dX10_readNumber_57 rfl (lv_at hl 0 rfl) ?_
            refine cGoI (cRunV (As := []) (rest := []) C9 hml hN hNs V I hS t_o0.1 hf8 rfl (c_X10_here l D ks τ L A N hN  ψ Gf45 o0 t_o0 ) gC_X10_39 okC_X10_here ⟨rfl, rfl, Nat.le_of_ble_eq_true rfl, Nat.le_of_ble_eq_true rfl⟩ hl.1 rfl (Nat.le_of_ble_eq_true rfl) dX10_readNumber_58 ⟨Nat.zero_le _, Nat.zero_le _⟩) hS (fun r27 p26 f25 H locs hqf25 V I hS => ?_)
            have V : cV D L Gf45 A H := by rw [show f25 = Gf45 from congrArg Prod.snd hqf25.1] at V; exact V
            have I : cI ks τ L ψ Gf45 := by rw [show f25 = Gf45 from congrArg Prod.snd hqf25.1, show p26 = ψ from congrArg Prod.fst hqf25.1] at I; exact I
            refine lv_bipush (v := 48) hx hb dX10_readNumber_61 (by decide) ?_
            refine lv_icmp_lt (tgt := 103) hx hb dX10_readNumber_63 (by decide) (fun c28 => ?_) (fun c28 => ?_)
            · refine lv_aload_n hx hb dX10_readNumber_103 rfl (lv_at hl 0 rfl) ?_
              refine cG C9 V t_o0.1 hf8 rfl tC_lay8 5 (by decide) tCf_X10_26 (Or.inl rfl) rfl dX10_readNumber_104 ?_
              refine lv_iload hx hb dX10_readNumber_107 (lv_at hl 5 rfl) ?_
              refine lv_icmp_ne (tgt := 121) hx hb dX10_readNumber_109 (by decide) (fun c29 => ?_) (fun c29 => ?_)
              · refine lv_iload hx hb dX10_readNumber_121 (lv_at hl 4 rfl) ?_
                refine lv_if_eq (tgt := 132) hx hb dX10_readNumber_123 (by decide) (fun c30 => ?_) (fun c30 => ?_)
                · refine lv_iload hx hb dX10_readNumber_132 (lv_at hl 6 rfl) ?_
                  refine lv_istore (lv' := [(6, .int w45_6), (0, .ref o0), (1, .int i1), (2, .int i2), (3, .int v1_5), (4, .int 0), (5, .int v1_5)]) hx hb dX10_readNumber_134 hl (by decide) rfl (fun ls hl => ?_)
                  refine lv_iload_n hx hb dX10_readNumber_136 rfl (lv_at hl 3 rfl) ?_
                  refine lv_iload hx hb dX10_readNumber_137 (lv_at hl 0 rfl) ?_
                  refine cGoI (cRunS (As := [.int i2, .int w45_6]) (rest := []) C9 hml hN hNs V I hS (c_X10_inRange l D ks τ L A N hN  ψ Gf45 i2 w45_6  ) gS_X10_76 okC_X10_inRange ⟨rfl, rfl, Nat.le_of_ble_eq_true rfl, Nat.le_of_ble_eq_true rfl⟩ hl.1 rfl (Nat.le_of_ble_eq_true rfl) dX10_readNumber_139 ⟨Nat.zero_le _, Nat.zero_le _⟩) hS (fun r33 p32 f31 H locs hqf31 V I hS => ?_)
                  have V : cV D L Gf45 A H := by rw [show f31 = Gf45 from congrArg Prod.snd hqf31] at V; exact V
                  have I : cI ks τ L ψ Gf45 := by rw [show f31 = Gf45 from congrArg Prod.snd hqf31, show p32 = ψ from congrArg Prod.fst hqf31] at I; exact I
                  refine lv_if_ne (tgt := 151) hx hb dX10_readNumber_142 (by decide) (fun c34 => ?_) (fun c34 => ?_)
                  · refine lv_aload_n hx hb dX10_readNumber_151 rfl (lv_at hl 1 rfl) ?_
                    refine lv_iload_n hx hb dX10_readNumber_152 rfl (lv_at hl 2 rfl) ?_
                    refine lv_iload hx hb dX10_readNumber_153 (lv_at hl 0 rfl) ?_
                    refine cGoV (cRunV (As := [.int i1, .int w45_6]) (rest := []) C9 hml hN hNs V I hS t_o0.1 hf8 rfl (c_X10_store l D ks τ L A N hN  ψ Gf45 o0 i1 w45_6 t_o0 ) gC_X10_54 okC_X10_store ⟨rfl, rfl, Nat.le_of_ble_eq_true rfl, Nat.le_of_ble_eq_true rfl⟩ hl.1 rfl (Nat.le_of_ble_eq_true rfl) dX10_readNumber_155 ⟨Nat.zero_le _, Nat.zero_le _⟩) hS (fun p36 f35 H locs hqf35 V I hS => ?_)
                    have I : cI ks τ L ψ f35 := by rw [show p36 = ψ from hqf35.1] at I; exact I
                    refine lv_iconst (v := 1) hx hb dX10_readNumber_158 (by decide) ?_
                    exact cRetZ C9 hr hlk hN hNs V I hS (by clear V hS hl C9 hts hown hx hb hml hr hlk; first | rfl | decide | (subst_vars; rfl) | (rw [nope9.2.2]; rfl) | (rw [nope9.2.2]; rfl)) (⟨rfl, rn_t hqf35.2 hi45⟩) dX10_readNumber_159
                  · refine lv_aload_n hx hb dX10_readNumber_145 rfl (lv_at hl 1 rfl) ?_
                    refine lv_iload_n hx hb dX10_readNumber_146 rfl (lv_at hl 4 rfl) ?_
                    refine cGoI (cRunV (As := [.int v1_5]) (rest := []) C9 hml hN hNs V I hS t_o0.1 hf8 rfl (c_X10_broken l D ks τ L A N hN  ψ Gf45 o0 v1_5 t_o0 ) gC_X10_43 okC_X10_broken ⟨rfl, rfl, Nat.le_of_ble_eq_true rfl, Nat.le_of_ble_eq_true rfl⟩ hl.1 rfl (Nat.le_of_ble_eq_true rfl) dX10_readNumber_147 ⟨Nat.zero_le _, Nat.zero_le _⟩) hS (fun r40 p39 f38 H locs hqf38 V I hS => ?_)
                    have I : cI ks τ L ψ f38 := by rw [show p39 = ψ from hqf38.1] at I; exact I
                    exact cRetZ C9 hr hlk hN hNs V I hS (by clear V hS hl C9 hts hown hx hb hml hr hlk; first | rfl | decide | (subst_vars; rfl) | (rw [nope9.2.2]; rfl) | (rw [hqf38.2.2]; rfl)) (⟨rfl, rn_t hqf38.2.1 hi45⟩) dX10_readNumber_150
                · exact absurd c30 (by decide)
              · refine lv_aload_n hx hb dX10_readNumber_112 rfl (lv_at hl 0 rfl) ?_
                refine lv_aload_n hx hb dX10_readNumber_113 rfl (lv_at hl 0 rfl) ?_
                refine cG C9 V t_o0.1 hf8 rfl tC_lay8 5 (by decide) tCf_X10_26 (Or.inl rfl) rfl dX10_readNumber_114 ?_
                refine cGoI (cRunV (As := [.int v8_5]) (rest := []) C9 hml hN hNs V I hS t_o0.1 hf8 rfl (c_X10_broken l D ks τ L A N hN  ψ Gf45 o0 v8_5 t_o0 ) gC_X10_43 okC_X10_broken ⟨rfl, rfl, Nat.le_of_ble_eq_true rfl, Nat.le_of_ble_eq_true rfl⟩ hl.1 rfl (Nat.le_of_ble_eq_true rfl) dX10_readNumber_117 ⟨Nat.zero_le _, Nat.zero_le _⟩) hS (fun r43 p42 f41 H locs hqf41 V I hS => ?_)
                have I : cI ks τ L ψ f41 := by rw [show p42 = ψ from hqf41.1] at I; exact I
                exact cRetZ C9 hr hlk hN hNs V I hS (by clear V hS hl C9 hts hown hx hb hml hr hlk; first | rfl | decide | (subst_vars; rfl) | (rw [hqf41.2.2]; rfl) | (rw [nope9.2.2]; rfl)) (⟨rfl, rn_t hqf41.2.1 hi45⟩) dX10_readNumber_120
            · refine lv_aload_n hx hb dX10_readNumber_66 rfl (lv_at hl 0 rfl) ?_
              refine cGoI (cRunV (As := []) (rest := []) C9 hml hN hNs V I hS t_o0.1 hf8 rfl (c_X10_here l D ks τ L A N hN  ψ Gf45 o0 t_o0 ) gC_X10_39 okC_X10_here ⟨rfl, rfl, Nat.le_of_ble_eq_true rfl, Nat.le_of_ble_eq_true rfl⟩ hl.1 rfl (Nat.le_of_ble_eq_true rfl) dX10_readNumber_67 ⟨Nat.zero_le _, Nat.zero_le _⟩) hS (fun r46 p45 f44 H locs hqf44 V I hS => ?_)
              have V : cV D L Gf45 A H := by rw [show f44 = Gf45 from congrArg Prod.snd hqf44.1] at V; exact V
              have I : cI ks τ L ψ Gf45 := by rw [show f44 = Gf45 from congrArg Prod.snd hqf44.1, show p45 = ψ from congrArg Prod.fst hqf44.1] at I; exact I
              refine lv_bipush (v := 57) hx hb dX10_readNumber_70 (by decide) ?_
              refine lv_icmp_gt (tgt := 103) hx hb dX10_readNumber_72 (by decide) (fun c47 => ?_) (fun c47 => ?_)
              · refine lv_aload_n hx hb dX10_readNumber_103 rfl (lv_at hl 0 rfl) ?_
                refine cG C9 V t_o0.1 hf8 rfl tC_lay8 5 (by decide) tCf_X10_26 (Or.inl rfl) rfl dX10_readNumber_104 ?_
                refine lv_iload hx hb dX10_readNumber_107 (lv_at hl 5 rfl) ?_
                refine lv_icmp_ne (tgt := 121) hx hb dX10_readNumber_109 (by decide) (fun c48 => ?_) (fun c48 => ?_)
                · refine lv_iload hx hb dX10_readNumber_121 (lv_at hl 4 rfl) ?_
                  refine lv_if_eq (tgt := 132) hx hb dX10_readNumber_123 (by decide) (fun c49 => ?_) (fun c49 => ?_)
                  · refine lv_iload hx hb dX10_readNumber_132 (lv_at hl 6 rfl) ?_
                    refine lv_istore (lv' := [(6, .int w45_6), (0, .ref o0), (1, .int i1), (2, .int i2), (3, .int v1_5), (4, .int 0), (5, .int v1_5)]) hx hb dX10_readNumber_134 hl (by decide) rfl (fun ls hl => ?_)
                    refine lv_iload_n hx hb dX10_readNumber_136 rfl (lv_at hl 3 rfl) ?_
                    refine lv_iload hx hb dX10_readNumber_137 (lv_at hl 0 rfl) ?_
                    refine cGoI (cRunS (As := [.int i2, .int w45_6]) (rest := []) C9 hml hN hNs V I hS (c_X10_inRange l D ks τ L A N hN  ψ Gf45 i2 w45_6  ) gS_X10_76 okC_X10_inRange ⟨rfl, rfl, Nat.le_of_ble_eq_true rfl, Nat.le_of_ble_eq_true rfl⟩ hl.1 rfl (Nat.le_of_ble_eq_true rfl) dX10_readNumber_139 ⟨Nat.zero_le _, Nat.zero_le _⟩) hS (fun r52 p51 f50 H locs hqf50 V I hS => ?_)
                    have V : cV D L Gf45 A H := by rw [show f50 = Gf45 from congrArg Prod.snd hqf50] at V; exact V
                    have I : cI ks τ L ψ Gf45 := by rw [show f50 = Gf45 from congrArg Prod.snd hqf50, show p51 = ψ from congrArg Prod.fst hqf50] at I; exact I
                    refine lv_if_ne (tgt := 151) hx hb dX10_readNumber_142 (by decide) (fun c53 => ?_) (fun c53 => ?_)
                    · refine lv_aload_n hx hb dX10_readNumber_151 rfl (lv_at hl 1 rfl) ?_
                      refine lv_iload_n hx hb dX10_readNumber_152 rfl (lv_at hl 2 rfl) ?_
                      refine lv_iload hx hb dX10_readNumber_153 (lv_at hl 0 rfl) ?_
                      refine cGoV (cRunV (As := [.int i1, .int w45_6]) (rest := []) C9 hml hN hNs V I hS t_o0.1 hf8 rfl (c_X10_store l D ks τ L A N hN  ψ Gf45 o0 i1 w45_6 t_o0 ) gC_X10_54 okC_X10_store ⟨rfl, rfl, Nat.le_of_ble_eq_true rfl, Nat.le_of_ble_eq_true rfl⟩ hl.1 rfl (Nat.le_of_ble_eq_true rfl) dX10_readNumber_155 ⟨Nat.zero_le _, Nat.zero_le _⟩) hS (fun p55 f54 H locs hqf54 V I hS => ?_)
                      have I : cI ks τ L ψ f54 := by rw [show p55 = ψ from hqf54.1] at I; exact I
                      refine lv_iconst (v := 1) hx hb dX10_readNumber_158 (by decide) ?_
                      exact cRetZ C9 hr hlk hN hNs V I hS (by clear V hS hl C9 hts hown hx hb hml hr hlk; first | rfl | decide | (subst_vars; rfl) | (rw [nope9.2.2]; rfl) | (rw [nope9.2.2]; rfl)) (⟨rfl, rn_t hqf54.2 hi45⟩) dX10_readNumber_159
                    · refine lv_aload_n hx hb dX10_readNumber_145 rfl (lv_at hl 1 rfl) ?_
                      refine lv_iload_n hx hb dX10_readNumber_146 rfl (lv_at hl 4 rfl) ?_
                      refine cGoI (cRunV (As := [.int v1_5]) (rest := []) C9 hml hN hNs V I hS t_o0.1 hf8 rfl (c_X10_broken l D ks τ L A N hN  ψ Gf45 o0 v1_5 t_o0 ) gC_X10_43 okC_X10_broken ⟨rfl, rfl, Nat.le_of_ble_eq_true rfl, Nat.le_of_ble_eq_true rfl⟩ hl.1 rfl (Nat.le_of_ble_eq_true rfl) dX10_readNumber_147 ⟨Nat.zero_le _, Nat.zero_le _⟩) hS (fun r59 p58 f57 H locs hqf57 V I hS => ?_)
                      have I : cI ks τ L ψ f57 := by rw [show p58 = ψ from hqf57.1] at I; exact I
                      exact cRetZ C9 hr hlk hN hNs V I hS (by clear V hS hl C9 hts hown hx hb hml hr hlk; first | rfl | decide | (subst_vars; rfl) | (rw [nope9.2.2]; rfl) | (rw [hqf57.2.2]; rfl)) (⟨rfl, rn_t hqf57.2.1 hi45⟩) dX10_readNumber_150
                  · exact absurd c49 (by decide)
                · refine lv_aload_n hx hb dX10_readNumber_112 rfl (lv_at hl 0 rfl) ?_
                  refine lv_aload_n hx hb dX10_readNumber_113 rfl (lv_at hl 0 rfl) ?_
                  refine cG C9 V t_o0.1 hf8 rfl tC_lay8 5 (by decide) tCf_X10_26 (Or.inl rfl) rfl dX10_readNumber_114 ?_
                  refine cGoI (cRunV (As := [.int v8_5]) (rest := []) C9 hml hN hNs V I hS t_o0.1 hf8 rfl (c_X10_broken l D ks τ L A N hN  ψ Gf45 o0 v8_5 t_o0 ) gC_X10_43 okC_X10_broken ⟨rfl, rfl, Nat.le_of_ble_eq_true rfl, Nat.le_of_ble_eq_true rfl⟩ hl.1 rfl (Nat.le_of_ble_eq_true rfl) dX10_readNumber_117 ⟨Nat.zero_le _, Nat.zero_le _⟩) hS (fun r62 p61 f60 H locs hqf60 V I hS => ?_)
                  have I : cI ks τ L ψ f60 := by rw [show p61 = ψ from hqf60.1] at I; exact I
                  exact cRetZ C9 hr hlk hN hNs V I hS (by clear V hS hl C9 hts hown hx hb hml hr hlk; first | rfl | decide | (subst_vars; rfl) | (rw [hqf60.2.2]; rfl) | (rw [nope9.2.2]; rfl)) (⟨rfl, rn_t hqf60.2.1 hi45⟩) dX10_readNumber_120
              · refine lv_iload hx hb dX10_readNumber_75 (lv_at hl 6 rfl) ?_
                refine lv_bipush (v := 10) hx hb dX10_readNumber_77 (by decide) ?_
                refine lv_imul hx hb dX10_readNumber_79 ?_
                refine lv_aload_n hx hb dX10_readNumber_80 rfl (lv_at hl 0 rfl) ?_
                refine cGoI (cRunV (As := []) (rest := [.int (w45_6 * 10)]) C9 hml hN hNs V I hS t_o0.1 hf8 rfl (c_X10_here l D ks τ L A N hN  ψ Gf45 o0 t_o0 ) gC_X10_39 okC_X10_here ⟨rfl, rfl, Nat.le_of_ble_eq_true rfl, Nat.le_of_ble_eq_true rfl⟩ hl.1 rfl (Nat.le_of_ble_eq_true rfl) dX10_readNumber_81 ⟨Nat.zero_le _, Nat.zero_le _⟩) hS (fun r65 p64 f63 H locs hqf63 V I hS => ?_)
                have V : cV D L Gf45 A H := by rw [show f63 = Gf45 from congrArg Prod.snd hqf63.1] at V; exact V
                have I : cI ks τ L ψ Gf45 := by rw [show f63 = Gf45 from congrArg Prod.snd hqf63.1, show p64 = ψ from congrArg Prod.fst hqf63.1] at I; exact I
                refine lv_bipush (v := 48) hx hb dX10_readNumber_84 (by decide) ?_
                refine lv_isub hx hb dX10_readNumber_86 ?_
                refine lv_iadd hx hb dX10_readNumber_87 ?_
                refine lv_topi (fun x66 ex66 => ?_)
                refine lv_istore (lv' := [(6, .int x66), (0, .ref o0), (1, .int i1), (2, .int i2), (3, .int v1_5), (4, .int 0), (5, .int v1_5)]) hx hb dX10_readNumber_88 hl (by decide) rfl (fun ls hl => ?_)
                refine lv_aload_n hx hb dX10_readNumber_90 rfl (lv_at hl 1 rfl) ?_
                refine lv_dup hx hb dX10_readNumber_91 rfl ?_
                refine cG C9 V t_o0.1 hf8 rfl tC_lay8 5 (by decide) tCf_X10_26 (Or.inl rfl) rfl dX10_readNumber_92 ?_
                refine lv_iconst (v := 1) hx hb dX10_readNumber_95 (by decide) ?_
                refine lv_iadd hx hb dX10_readNumber_96 ?_
                refine lv_topi (fun x67 ex67 => ?_)
                refine cP (v := .int x67) (ty := .int) C9 V hS t_o0.1 hf8 rfl tC_lay8 tyX10 tyX10_ok nmX10 5 (by decide) tCf_X10_26 rfl rfl (by decide +kernel) rfl rfl (Nat.le_of_ble_eq_true rfl) dX10_readNumber_97 (fun f68 H locs ef68 V hS => ?_)
                have hf69 : f68 o0 = .inr (8, [.ref v8_0, .int v8_1, .int ψ, .int v8_3, .ref v8_4, .int x67]) := up_s ef68
                have hh70 := sb_a ex67 h08 (hr_q hf8 hqf25.2 (hrG c28)) hp8.2
                have h070 := hh70.1
                have h170 := hh70.2
                have hp70 := hp8
                have I := cI_up I t_o0.2 ef68 (mk8 t8_0 t8_4 hp70 h070 h170)
                refine lv_goto (tgt := 45) hx hb dX10_readNumber_100 (by decide) ?_
                exact ih45 x66  f68 _ _ _ I (by clear V hS hl C9 hts hown hx hb hml hr hlk; rw [tAt_e hf69]; exact rn_le ex67 (hr_q hf8 hqf25.2 (hrG c28))) (show _ < _ from by have z9 := hm45; rw [tAt_e hf8] at z9; rw [tAt_e hf69]; exact cmsd z9 (sb_m ex67 (hr_q hf8 hqf25.2 (hrG c28)) h070 hp70).1 (sb_m ex67 (hr_q hf8 hqf25.2 (hrG c28)) h070 hp70).2) V hS (lv_sub hl [1, 2, 3, 4, 5, 6, 0] rfl)
      exact loop45 _ x7  f _ _ _ I (by clear V hS hl C9 hts hown hx hb hml hr hlk; first | exact h1 | (rw [tAt_e hf1]; exact rn_le nope9 (hr_q hf1 hqf2.2 (hrE c5 (by decide))))) (Nat.lt_succ_self _) V hS (lv_sub hl [4, 5, 6, 3, 2, 1, 0] rfl)
    · exact absurd c6 (by decide)
  · refine lv_iconst (v := 1) hx hb dX10_readNumber_14 (by decide) ?_
    refine lv_goto (tgt := 19) hx hb dX10_readNumber_15 (by decide) ?_
    refine lv_istore (lv' := [(4, .int 1), (3, .int v1_5), (0, .ref o0), (1, .int i1), (2, .int i2)]) hx hb dX10_readNumber_19 hl (by decide) rfl (fun ls hl => ?_)
    refine lv_iload hx hb dX10_readNumber_21 (lv_at hl 0 rfl) ?_
    refine lv_if_eq (tgt := 36) hx hb dX10_readNumber_23 (by decide) (fun c71 => ?_) (fun c71 => ?_)
    · exact absurd c71 (by decide)
    · refine lv_aload_n hx hb dX10_readNumber_26 rfl (lv_at hl 2 rfl) ?_
      refine lv_dup hx hb dX10_readNumber_27 rfl ?_
      refine cG C9 V t_o0.1 hf1 rfl tC_lay8 5 (by decide) tCf_X10_26 (Or.inl rfl) rfl dX10_readNumber_28 ?_
      refine lv_iconst (v := 1) hx hb dX10_readNumber_31 (by decide) ?_
      refine lv_iadd hx hb dX10_readNumber_32 ?_
      refine lv_topi (fun x72 ex72 => ?_)
      refine cP (v := .int x72) (ty := .int) C9 V hS t_o0.1 hf1 rfl tC_lay8 tyX10 tyX10_ok nmX10 5 (by decide) tCf_X10_26 rfl rfl (by decide +kernel) rfl rfl (Nat.le_of_ble_eq_true rfl) dX10_readNumber_33 (fun f73 H locs ef73 V hS => ?_)
      have hf74 : f73 o0 = .inr (8, [.ref v1_0, .int v1_1, .int ψ, .int v1_3, .ref v1_4, .int x72]) := up_s ef73
      have hh75 := sb_a ex72 h01 (hr_q hf1 hqf2.2 (hrE c5 (by decide))) hp1.2
      have h075 := hh75.1
      have h175 := hh75.2
      have hp75 := hp1
      have I := cI_up I t_o0.2 ef73 (mk8 t1_0 t1_4 hp75 h075 h175)
      refine lv_aload_n hx hb dX10_readNumber_36 rfl (lv_at hl 2 rfl) ?_
      refine cG C9 V t_o0.1 hf74 rfl tC_lay8 5 (by decide) tCf_X10_26 (Or.inl rfl) rfl dX10_readNumber_37 ?_
      refine lv_istore (lv' := [(5, .int x72), (4, .int 1), (3, .int v1_5), (0, .ref o0), (1, .int i1), (2, .int i2)]) hx hb dX10_readNumber_40 hl (by decide) rfl (fun ls hl => ?_)
      refine lv_iconst (v := 0) hx hb dX10_readNumber_42 (by decide) ?_
      refine lv_topi (fun x76 ex76 => ?_)
      refine lv_istore (lv' := [(6, .int x76), (5, .int x72), (4, .int 1), (3, .int v1_5), (0, .ref o0), (1, .int i1), (2, .int i2)]) hx hb dX10_readNumber_43 hl (by decide) rfl (fun ls hl => ?_)
      have loop45 : ∀ (N9 : Nat) (w45_6 : Int32)  (Gf45 : Nat → va_E) (H : Heap) (locs : List Loc) (ls : Array Slot), cI ks τ L ψ Gf45 → (tAt Gf45 o0 ≤ ψ) → ((ψ - tAt Gf45 o0).toInt.toNat) < N9 → cV D L Gf45 A H → va_S A s.heap H locs → lv_has ls 7 [(0, .ref o0), (1, .int i1), (2, .int i2), (3, .int v1_5), (4, .int 1), (5, .int x72), (6, .int w45_6)] → W p l e ({ frames := 1, cells := 0, slots := 0, locals := 22 } : Room) s m ([.ref o0, .int i1, .int i2] : List Value).toArray below meth c H locs 0 0 (MQ below (va_Qi (fun r9 x9 => x9.1 = ψ ∧ tAt x9.2 o0 ≤ ψ) (cB D ks τ L A N) A) ([.ref o0, .int i1, .int i2] : List Value).toArray s 0 0 A) (F0 m 45 ls []) := by
        intro N9
        induction N9 with
        | zero => intro w45_6  Gf45 H locs ls I hi45 hm45; exact absurd hm45 (Nat.not_lt_zero _)
        | succ N9 ih45 =>
          intro w45_6  Gf45 H locs ls I hi45 hm45 V hS hl
          refine lv_aload_n hx hb dX10_readNumber_45 rfl (lv_at hl 0 rfl) ?_
          obtain ⟨v77_0, v77_1, v77_3, v77_4, v77_5, hf77, t77_0, t77_4, hp77, h077, h177⟩ := op8 I t_o0
          refine cG C9 V t_o0.1 hf77 rfl tC_lay8 5 (by decide) tCf_X10_26 (Or.inl rfl) rfl dX10_readNumber_46 ?_
          refine lv_iload hx hb dX10_readNumber_49 (lv_at hl 5 rfl) ?_
          refine lv_isub hx hb dX10_readNumber_51 ?_
          refine lv_bipush (v := 9) hx hb dX10_readNumber_52 (by decide) ?_
          refine lv_icmp_ge (tgt := 103) hx hb dX10_readNumber_54 (by decide) (fun c78 => ?_) (fun c78 => ?_)
          · refine lv_aload_n hx hb dX10_readNumber_103 rfl (lv_at hl 0 rfl) ?_
            refine cG C9 V t_o0.1 hf77 rfl tC_lay8 5 (by decide) tCf_X10_26 (Or.inl rfl) rfl dX10_readNumber_104 ?_
            refine lv_iload hx hb dX10_readNumber_107 (lv_at hl 5 rfl) ?_
            refine lv_icmp_ne (tgt := 121) hx hb dX10_readNumber_109 (by decide) (fun c79 => ?_) (fun c79 => ?_)
            · refine lv_iload hx hb dX10_readNumber_121 (lv_at hl 4 rfl) ?_
              refine lv_if_eq (tgt := 132) hx hb dX10_readNumber_123 (by decide) (fun c80 => ?_) (fun c80 => ?_)
              · exact absurd c80 (by decide)
              · refine lv_iload hx hb dX10_readNumber_126 (lv_at hl 6 rfl) ?_
                refine lv_ineg hx hb dX10_readNumber_128 ?_
                refine lv_goto (tgt := 134) hx hb dX10_readNumber_129 (by decide) ?_
                refine lv_topi (fun x81 ex81 => ?_)
                refine lv_istore (lv' := [(6, .int x81), (0, .ref o0), (1, .int i1), (2, .int i2), (3, .int v1_5), (4, .int 1), (5, .int x72)]) hx hb dX10_readNumber_134 hl (by decide) rfl (fun ls hl => ?_)
                refine lv_iload_n hx hb dX10_readNumber_136 rfl (lv_at hl 3 rfl) ?_
                refine lv_iload hx hb dX10_readNumber_137 (lv_at hl 0 rfl) ?_
                refine cGoI (cRunS (As := [.int i2, .int x81]) (rest := []) C9 hml hN hNs V I hS (c_X10_inRange l D ks τ L A N hN  ψ Gf45 i2 x81  ) gS_X10_76 okC_X10_inRange ⟨rfl, rfl, Nat.le_of_ble_eq_true rfl, Nat.le_of_ble_eq_true rfl⟩ hl.1 rfl (Nat.le_of_ble_eq_true rfl) dX10_readNumber_139 ⟨Nat.zero_le _, Nat.zero_le _⟩) hS (fun r84 p83 f82 H locs hqf82 V I hS => ?_)
                have V : cV D L Gf45 A H := by rw [show f82 = Gf45 from congrArg Prod.snd hqf82] at V; exact V
                have I : cI ks τ L ψ Gf45 := by rw [show f82 = Gf45 from congrArg Prod.snd hqf82, show p83 = ψ from congrArg Prod.fst hqf82] at I; exact I
                refine lv_if_ne (tgt := 151) hx hb dX10_readNumber_142 (by decide) (fun c85 => ?_) (fun c85 => ?_)
                · refine lv_aload_n hx hb dX10_readNumber_151 rfl (lv_at hl 1 rfl) ?_
                  refine lv_iload_n hx hb dX10_readNumber_152 rfl (lv_at hl 2 rfl) ?_
                  refine lv_iload hx hb dX10_readNumber_153 (lv_at hl 0 rfl) ?_
                  refine cGoV (cRunV (As := [.int i1, .int x81]) (rest := []) C9 hml hN hNs V I hS t_o0.1 hf77 rfl (c_X10_store l D ks τ L A N hN  ψ Gf45 o0 i1 x81 t_o0 ) gC_X10_54 okC_X10_store ⟨rfl, rfl, Nat.le_of_ble_eq_true rfl, Nat.le_of_ble_eq_true rfl⟩ hl.1 rfl (Nat.le_of_ble_eq_true rfl) dX10_readNumber_155 ⟨Nat.zero_le _, Nat.zero_le _⟩) hS (fun p87 f86 H locs hqf86 V I hS => ?_)
                  have I : cI ks τ L ψ f86 := by rw [show p87 = ψ from hqf86.1] at I; exact I
                  refine lv_iconst (v := 1) hx hb dX10_readNumber_158 (by decide) ?_
                  exact cRetZ C9 hr hlk hN hNs V I hS (by clear V hS hl C9 hts hown hx hb hml hr hlk; first | rfl | decide | (subst_vars; rfl) | (rw [nope9.2.2]; rfl) | (rw [nope9.2.2]; rfl)) (⟨rfl, rn_t hqf86.2 hi45⟩) dX10_readNumber_159
                · refine lv_aload_n hx hb dX10_readNumber_145 rfl (lv_at hl 1 rfl) ?_
                  refine lv_iload_n hx hb dX10_readNumber_146 rfl (lv_at hl 4 rfl) ?_
                  refine cGoI (cRunV (As := [.int v1_5]) (rest := []) C9 hml hN hNs V I hS t_o0.1 hf77 rfl (c_X10_broken l D ks τ L A N hN  ψ Gf45 o0 v1_5 t_o0 ) gC_X10_43 okC_X10_broken ⟨rfl, rfl, Nat.le_of_ble_eq_true rfl, Nat.le_of_ble_eq_true rfl⟩ hl.1 rfl (Nat.le_of_ble_eq_true rfl) dX10_readNumber_147 ⟨Nat.zero_le _, Nat.zero_le _⟩) hS (fun r91 p90 f89 H locs hqf89 V I hS => ?_)
                  have I : cI ks τ L ψ f89 := by rw [show p90 = ψ from hqf89.1] at I; exact I
                  exact cRetZ C9 hr hlk hN hNs V I hS (by clear V hS hl C9 hts hown hx hb hml hr hlk; first | rfl | decide | (subst_vars; rfl) | (rw [nope9.2.2]; rfl) | (rw [hqf89.2.2]; rfl)) (⟨rfl, rn_t hqf89.2.1 hi45⟩) dX10_readNumber_150
            · refine lv_aload_n hx hb dX10_readNumber_112 rfl (lv_at hl 0 rfl) ?_
              refine lv_aload_n hx hb dX10_readNumber_113 rfl (lv_at hl 0 rfl) ?_
              refine cG C9 V t_o0.1 hf77 rfl tC_lay8 5 (by decide) tCf_X10_26 (Or.inl rfl) rfl dX10_readNumber_114 ?_
              refine cGoI (cRunV (As := [.int v77_5]) (rest := []) C9 hml hN hNs V I hS t_o0.1 hf77 rfl (c_X10_broken l D ks τ L A N hN  ψ Gf45 o0 v77_5 t_o0 ) gC_X10_43 okC_X10_broken ⟨rfl, rfl, Nat.le_of_ble_eq_true rfl, Nat.le_of_ble_eq_true rfl⟩ hl.1 rfl (Nat.le_of_ble_eq_true rfl) dX10_readNumber_117 ⟨Nat.zero_le _, Nat.zero_le _⟩) hS (fun r94 p93 f92 H locs hqf92 V I hS => ?_)
              have I : cI ks τ L ψ f92 := by rw [show p93 = ψ from hqf92.1] at I; exact I
              exact cRetZ C9 hr hlk hN hNs V I hS (by clear V hS hl C9 hts hown hx hb hml hr hlk; first | rfl | decide | (subst_vars; rfl) | (rw [hqf92.2.2]; rfl) | (rw [nope9.2.2]; rfl)) (⟨rfl, rn_t hqf92.2.1 hi45⟩) dX10_readNumber_120
          · refine lv_aload_n hx hb dX10_readNumber_57 rfl (lv_at hl 0 rfl) ?_
            refine cGoI (cRunV (As := []) (rest := []) C9 hml hN hNs V I hS t_o0.1 hf77 rfl (c_X10_here l D ks τ L A N hN  ψ Gf45 o0 t_o0 ) gC_X10_39 okC_X10_here ⟨rfl, rfl, Nat.le_of_ble_eq_true rfl, Nat.le_of_ble_eq_true rfl⟩ hl.1 rfl (Nat.le_of_ble_eq_true rfl) dX10_readNumber_58 ⟨Nat.zero_le _, Nat.zero_le _⟩) hS (fun r97 p96 f95 H locs hqf95 V I hS => ?_)
            have V : cV D L Gf45 A H := by rw [show f95 = Gf45 from congrArg Prod.snd hqf95.1] at V; exact V
            have I : cI ks τ L ψ Gf45 := by rw [show f95 = Gf45 from congrArg Prod.snd hqf95.1, show p96 = ψ from congrArg Prod.fst hqf95.1] at I; exact I
            refine lv_bipush (v := 48) hx hb dX10_readNumber_61 (by decide) ?_
            refine lv_icmp_lt (tgt := 103) hx hb dX10_readNumber_63 (by decide) (fun c98 => ?_) (fun c98 => ?_)
            · refine lv_aload_n hx hb dX10_readNumber_103 rfl (lv_at hl 0 rfl) ?_
              refine cG C9 V t_o0.1 hf77 rfl tC_lay8 5 (by decide) tCf_X10_26 (Or.inl rfl) rfl dX10_readNumber_104 ?_
              refine lv_iload hx hb dX10_readNumber_107 (lv_at hl 5 rfl) ?_
              refine lv_icmp_ne (tgt := 121) hx hb dX10_readNumber_109 (by decide) (fun c99 => ?_) (fun c99 => ?_)
              · refine lv_iload hx hb dX10_readNumber_121 (lv_at hl 4 rfl) ?_
                refine lv_if_eq (tgt := 132) hx hb dX10_readNumber_123 (by decide) (fun c100 => ?_) (fun c100 => ?_)
                · exact absurd c100 (by decide)
                · refine lv_iload hx hb dX10_readNumber_126 (lv_at hl 6 rfl) ?_
                  refine lv_ineg hx hb dX10_readNumber_128 ?_
                  refine lv_goto (tgt := 134) hx hb dX10_readNumber_129 (by decide) ?_
                  refine lv_topi (fun x101 ex101 => ?_)
                  refine lv_istore (lv' := [(6, .int x101), (0, .ref o0), (1, .int i1), (2, .int i2), (3, .int v1_5), (4, .int 1), (5, .int x72)]) hx hb dX10_readNumber_134 hl (by decide) rfl (fun ls hl => ?_)
                  refine lv_iload_n hx hb dX10_readNumber_136 rfl (lv_at hl 3 rfl) ?_
                  refine lv_iload hx hb dX10_readNumber_137 (lv_at hl 0 rfl) ?_
                  refine cGoI (cRunS (As := [.int i2, .int x101]) (rest := []) C9 hml hN hNs V I hS (c_X10_inRange l D ks τ L A N hN  ψ Gf45 i2 x101  ) gS_X10_76 okC_X10_inRange ⟨rfl, rfl, Nat.le_of_ble_eq_true rfl, Nat.le_of_ble_eq_true rfl⟩ hl.1 rfl (Nat.le_of_ble_eq_true rfl) dX10_readNumber_139 ⟨Nat.zero_le _, Nat.zero_le _⟩) hS (fun r104 p103 f102 H locs hqf102 V I hS => ?_)
                  have V : cV D L Gf45 A H := by rw [show f102 = Gf45 from congrArg Prod.snd hqf102] at V; exact V
                  have I : cI ks τ L ψ Gf45 := by rw [show f102 = Gf45 from congrArg Prod.snd hqf102, show p103 = ψ from congrArg Prod.fst hqf102] at I; exact I
                  refine lv_if_ne (tgt := 151) hx hb dX10_readNumber_142 (by decide) (fun c105 => ?_) (fun c105 => ?_)
                  · refine lv_aload_n hx hb dX10_readNumber_151 rfl (lv_at hl 1 rfl) ?_
                    refine lv_iload_n hx hb dX10_readNumber_152 rfl (lv_at hl 2 rfl) ?_
                    refine lv_iload hx hb dX10_readNumber_153 (lv_at hl 0 rfl) ?_
                    refine cGoV (cRunV (As := [.int i1, .int x101]) (rest := []) C9 hml hN hNs V I hS t_o0.1 hf77 rfl (c_X10_store l D ks τ L A N hN  ψ Gf45 o0 i1 x101 t_o0 ) gC_X10_54 okC_X10_store ⟨rfl, rfl, Nat.le_of_ble_eq_true rfl, Nat.le_of_ble_eq_true rfl⟩ hl.1 rfl (Nat.le_of_ble_eq_true rfl) dX10_readNumber_155 ⟨Nat.zero_le _, Nat.zero_le _⟩) hS (fun p107 f106 H locs hqf106 V I hS => ?_)
                    have I : cI ks τ L ψ f106 := by rw [show p107 = ψ from hqf106.1] at I; exact I
                    refine lv_iconst (v := 1) hx hb dX10_readNumber_158 (by decide) ?_
                    exact cRetZ C9 hr hlk hN hNs V I hS (by clear V hS hl C9 hts hown hx hb hml hr hlk; first | rfl | decide | (subst_vars; rfl) | (rw [nope9.2.2]; rfl) | (rw [nope9.2.2]; rfl)) (⟨rfl, rn_t hqf106.2 hi45⟩) dX10_readNumber_159
                  · refine lv_aload_n hx hb dX10_readNumber_145 rfl (lv_at hl 1 rfl) ?_
                    refine lv_iload_n hx hb dX10_readNumber_146 rfl (lv_at hl 4 rfl) ?_
                    refine cGoI (cRunV (As := [.int v1_5]) (rest := []) C9 hml hN hNs V I hS t_o0.1 hf77 rfl (c_X10_broken l D ks τ L A N hN  ψ Gf45 o0 v1_5 t_o0 ) gC_X10_43 okC_X10_broken ⟨rfl, rfl, Nat.le_of_ble_eq_true rfl, Nat.le_of_ble_eq_true rfl⟩ hl.1 rfl (Nat.le_of_ble_eq_true rfl) dX10_readNumber_147 ⟨Nat.zero_le _, Nat.zero_le _⟩) hS (fun r111 p110 f109 H locs hqf109 V I hS => ?_)
                    have I : cI ks τ L ψ f109 := by rw [show p110 = ψ from hqf109.1] at I; exact I
                    exact cRetZ C9 hr hlk hN hNs V I hS (by clear V hS hl C9 hts hown hx hb hml hr hlk; first | rfl | decide | (subst_vars; rfl) | (rw [nope9.2.2]; rfl) | (rw [hqf109.2.2]; rfl)) (⟨rfl, rn_t hqf109.2.1 hi45⟩) dX10_readNumber_150
              · refine lv_aload_n hx hb dX10_readNumber_112 rfl (lv_at hl 0 rfl) ?_
                refine lv_aload_n hx hb dX10_readNumber_113 rfl (lv_at hl 0 rfl) ?_
                refine cG C9 V t_o0.1 hf77 rfl tC_lay8 5 (by decide) tCf_X10_26 (Or.inl rfl) rfl dX10_readNumber_114 ?_
                refine cGoI (cRunV (As := [.int v77_5]) (rest := []) C9 hml hN hNs V I hS t_o0.1 hf77 rfl (c_X10_broken l D ks τ L A N hN  ψ Gf45 o0 v77_5 t_o0 ) gC_X10_43 okC_X10_broken ⟨rfl, rfl, Nat.le_of_ble_eq_true rfl, Nat.le_of_ble_eq_true rfl⟩ hl.1 rfl (Nat.le_of_ble_eq_true rfl) dX10_readNumber_117 ⟨Nat.zero_le _, Nat.zero_le _⟩) hS (fun r114 p113 f112 H locs hqf112 V I hS => ?_)
                have I : cI ks τ L ψ f112 := by rw [show p113 = ψ from hqf112.1] at I; exact I
                exact cRetZ C9 hr hlk hN hNs V I hS (by clear V hS hl C9 hts hown hx hb hml hr hlk; first | rfl | decide | (subst_vars; rfl) | (rw [hqf112.2.2]; rfl) | (rw [nope9.2.2]; rfl)) (⟨rfl, rn_t hqf112.2.1 hi45⟩) dX10_readNumber_120
            · refine lv_aload_n hx hb dX10_readNumber_66 rfl (lv_at hl 0 rfl) ?_
              refine cGoI (cRunV (As := []) (rest := []) C9 hml hN hNs V I hS t_o0.1 hf77 rfl (c_X10_here l D ks τ L A N hN  ψ Gf45 o0 t_o0 ) gC_X10_39 okC_X10_here ⟨rfl, rfl, Nat.le_of_ble_eq_true rfl, Nat.le_of_ble_eq_true rfl⟩ hl.1 rfl (Nat.le_of_ble_eq_true rfl) dX10_readNumber_67 ⟨Nat.zero_le _, Nat.zero_le _⟩) hS (fun r117 p116 f115 H locs hqf115 V I hS => ?_)
              have V : cV D L Gf45 A H := by rw [show f115 = Gf45 from congrArg Prod.snd hqf115.1] at V; exact V
              have I : cI ks τ L ψ Gf45 := by rw [show f115 = Gf45 from congrArg Prod.snd hqf115.1, show p116 = ψ from congrArg Prod.fst hqf115.1] at I; exact I
              refine lv_bipush (v := 57) hx hb dX10_readNumber_70 (by decide) ?_
              refine lv_icmp_gt (tgt := 103) hx hb dX10_readNumber_72 (by decide) (fun c118 => ?_) (fun c118 => ?_)
              · refine lv_aload_n hx hb dX10_readNumber_103 rfl (lv_at hl 0 rfl) ?_
                refine cG C9 V t_o0.1 hf77 rfl tC_lay8 5 (by decide) tCf_X10_26 (Or.inl rfl) rfl dX10_readNumber_104 ?_
                refine lv_iload hx hb dX10_readNumber_107 (lv_at hl 5 rfl) ?_
                refine lv_icmp_ne (tgt := 121) hx hb dX10_readNumber_109 (by decide) (fun c119 => ?_) (fun c119 => ?_)
                · refine lv_iload hx hb dX10_readNumber_121 (lv_at hl 4 rfl) ?_
                  refine lv_if_eq (tgt := 132) hx hb dX10_readNumber_123 (by decide) (fun c120 => ?_) (fun c120 => ?_)
                  · exact absurd c120 (by decide)
                  · refine lv_iload hx hb dX10_readNumber_126 (lv_at hl 6 rfl) ?_
                    refine lv_ineg hx hb dX10_readNumber_128 ?_
                    refine lv_goto (tgt := 134) hx hb dX10_readNumber_129 (by decide) ?_
                    refine lv_topi (fun x121 ex121 => ?_)
                    refine lv_istore (lv' := [(6, .int x121), (0, .ref o0), (1, .int i1), (2, .int i2), (3, .int v1_5), (4, .int 1), (5, .int x72)]) hx hb dX10_readNumber_134 hl (by decide) rfl (fun ls hl => ?_)
                    refine lv_iload_n hx hb dX10_readNumber_136 rfl (lv_at hl 3 rfl) ?_
                    refine lv_iload hx hb dX10_readNumber_137 (lv_at hl 0 rfl) ?_
                    refine cGoI (cRunS (As := [.int i2, .int x121]) (rest := []) C9 hml hN hNs V I hS (c_X10_inRange l D ks τ L A N hN  ψ Gf45 i2 x121  ) gS_X10_76 okC_X10_inRange ⟨rfl, rfl, Nat.le_of_ble_eq_true rfl, Nat.le_of_ble_eq_true rfl⟩ hl.1 rfl (Nat.le_of_ble_eq_true rfl) dX10_readNumber_139 ⟨Nat.zero_le _, Nat.zero_le _⟩) hS (fun r124 p123 f122 H locs hqf122 V I hS => ?_)
                    have V : cV D L Gf45 A H := by rw [show f122 = Gf45 from congrArg Prod.snd hqf122] at V; exact V
                    have I : cI ks τ L ψ Gf45 := by rw [show f122 = Gf45 from congrArg Prod.snd hqf122, show p123 = ψ from congrArg Prod.fst hqf122] at I; exact I
                    refine lv_if_ne (tgt := 151) hx hb dX10_readNumber_142 (by decide) (fun c125 => ?_) (fun c125 => ?_)
                    · refine lv_aload_n hx hb dX10_readNumber_151 rfl (lv_at hl 1 rfl) ?_
                      refine lv_iload_n hx hb dX10_readNumber_152 rfl (lv_at hl 2 rfl) ?_
                      refine lv_iload hx hb dX10_readNumber_153 (lv_at hl 0 rfl) ?_
                      refine cGoV (cRunV (As := [.int i1, .int x121]) (rest := []) C9 hml hN hNs V I hS t_o0.1 hf77 rfl (c_X10_store l D ks τ L A N hN  ψ Gf45 o0 i1 x121 t_o0 ) gC_X10_54 okC_X10_store ⟨rfl, rfl, Nat.le_of_ble_eq_true rfl, Nat.le_of_ble_eq_true rfl⟩ hl.1 rfl (Nat.le_of_ble_eq_true rfl) dX10_readNumber_155 ⟨Nat.zero_le _, Nat.zero_le _⟩) hS (fun p127 f126 H locs hqf126 V I hS => ?_)
                      have I : cI ks τ L ψ f126 := by rw [show p127 = ψ from hqf126.1] at I; exact I
                      refine lv_iconst (v := 1) hx hb dX10_readNumber_158 (by decide) ?_
                      exact cRetZ C9 hr hlk hN hNs V I hS (by clear V hS hl C9 hts hown hx hb hml hr hlk; first | rfl | decide | (subst_vars; rfl) | (rw [nope9.2.2]; rfl) | (rw [nope9.2.2]; rfl)) (⟨rfl, rn_t hqf126.2 hi45⟩) dX10_readNumber_159
                    · refine lv_aload_n hx hb dX10_readNumber_145 rfl (lv_at hl 1 rfl) ?_
                      refine lv_iload_n hx hb dX10_readNumber_146 rfl (lv_at hl 4 rfl) ?_
                      refine cGoI (cRunV (As := [.int v1_5]) (rest := []) C9 hml hN hNs V I hS t_o0.1 hf77 rfl (c_X10_broken l D ks τ L A N hN  ψ Gf45 o0 v1_5 t_o0 ) gC_X10_43 okC_X10_broken ⟨rfl, rfl, Nat.le_of_ble_eq_true rfl, Nat.le_of_ble_eq_true rfl⟩ hl.1 rfl (Nat.le_of_ble_eq_true rfl) dX10_readNumber_147 ⟨Nat.zero_le _, Nat.zero_le _⟩) hS (fun r131 p130 f129 H locs hqf129 V I hS => ?_)
                      have I : cI ks τ L ψ f129 := by rw [show p130 = ψ from hqf129.1] at I; exact I
                      exact cRetZ C9 hr hlk hN hNs V I hS (by clear V hS hl C9 hts hown hx hb hml hr hlk; first | rfl | decide | (subst_vars; rfl) | (rw [nope9.2.2]; rfl) | (rw [hqf129.2.2]; rfl)) (⟨rfl, rn_t hqf129.2.1 hi45⟩) dX10_readNumber_150
                · refine lv_aload_n hx hb dX10_readNumber_112 rfl (lv_at hl 0 rfl) ?_
                  refine lv_aload_n hx hb dX10_readNumber_113 rfl (lv_at hl 0 rfl) ?_
                  refine cG C9 V t_o0.1 hf77 rfl tC_lay8 5 (by decide) tCf_X10_26 (Or.inl rfl) rfl dX10_readNumber_114 ?_
                  refine cGoI (cRunV (As := [.int v77_5]) (rest := []) C9 hml hN hNs V I hS t_o0.1 hf77 rfl (c_X10_broken l D ks τ L A N hN  ψ Gf45 o0 v77_5 t_o0 ) gC_X10_43 okC_X10_broken ⟨rfl, rfl, Nat.le_of_ble_eq_true rfl, Nat.le_of_ble_eq_true rfl⟩ hl.1 rfl (Nat.le_of_ble_eq_true rfl) dX10_readNumber_117 ⟨Nat.zero_le _, Nat.zero_le _⟩) hS (fun r134 p133 f132 H locs hqf132 V I hS => ?_)
                  have I : cI ks τ L ψ f132 := by rw [show p133 = ψ from hqf132.1] at I; exact I
                  exact cRetZ C9 hr hlk hN hNs V I hS (by clear V hS hl C9 hts hown hx hb hml hr hlk; first | rfl | decide | (subst_vars; rfl) | (rw [hqf132.2.2]; rfl) | (rw [nope9.2.2]; rfl)) (⟨rfl, rn_t hqf132.2.1 hi45⟩) dX10_readNumber_120
              · refine lv_iload hx hb dX10_readNumber_75 (lv_at hl 6 rfl) ?_
                refine lv_bipush (v := 10) hx hb dX10_readNumber_77 (by decide) ?_
                refine lv_imul hx hb dX10_readNumber_79 ?_
                refine lv_aload_n hx hb dX10_readNumber_80 rfl (lv_at hl 0 rfl) ?_
                refine cGoI (cRunV (As := []) (rest := [.int (w45_6 * 10)]) C9 hml hN hNs V I hS t_o0.1 hf77 rfl (c_X10_here l D ks τ L A N hN  ψ Gf45 o0 t_o0 ) gC_X10_39 okC_X10_here ⟨rfl, rfl, Nat.le_of_ble_eq_true rfl, Nat.le_of_ble_eq_true rfl⟩ hl.1 rfl (Nat.le_of_ble_eq_true rfl) dX10_readNumber_81 ⟨Nat.zero_le _, Nat.zero_le _⟩) hS (fun r137 p136 f135 H locs hqf135 V I hS => ?_)
                have V : cV D L Gf45 A H := by rw [show f135 = Gf45 from congrArg Prod.snd hqf135.1] at V; exact V
                have I : cI ks τ L ψ Gf45 := by rw [show f135 = Gf45 from congrArg Prod.snd hqf135.1, show p136 = ψ from congrArg Prod.fst hqf135.1] at I; exact I
                refine lv_bipush (v := 48) hx hb dX10_readNumber_84 (by decide) ?_
                refine lv_isub hx hb dX10_readNumber_86 ?_
                refine lv_iadd hx hb dX10_readNumber_87 ?_
                refine lv_topi (fun x138 ex138 => ?_)
                refine lv_istore (lv' := [(6, .int x138), (0, .ref o0), (1, .int i1), (2, .int i2), (3, .int v1_5), (4, .int 1), (5, .int x72)]) hx hb dX10_readNumber_88 hl (by decide) rfl (fun ls hl => ?_)
                refine lv_aload_n hx hb dX10_readNumber_90 rfl (lv_at hl 1 rfl) ?_
                refine lv_dup hx hb dX10_readNumber_91 rfl ?_
                refine cG C9 V t_o0.1 hf77 rfl tC_lay8 5 (by decide) tCf_X10_26 (Or.inl rfl) rfl dX10_readNumber_92 ?_
                refine lv_iconst (v := 1) hx hb dX10_readNumber_95 (by decide) ?_
                refine lv_iadd hx hb dX10_readNumber_96 ?_
                refine lv_topi (fun x139 ex139 => ?_)
                refine cP (v := .int x139) (ty := .int) C9 V hS t_o0.1 hf77 rfl tC_lay8 tyX10 tyX10_ok nmX10 5 (by decide) tCf_X10_26 rfl rfl (by decide +kernel) rfl rfl (Nat.le_of_ble_eq_true rfl) dX10_readNumber_97 (fun f140 H locs ef140 V hS => ?_)
                have hf141 : f140 o0 = .inr (8, [.ref v77_0, .int v77_1, .int ψ, .int v77_3, .ref v77_4, .int x139]) := up_s ef140
                have hh142 := sb_a ex139 h077 (hr_q hf77 hqf95.2 (hrG c98)) hp77.2
                have h0142 := hh142.1
                have h1142 := hh142.2
                have hp142 := hp77
                have I := cI_up I t_o0.2 ef140 (mk8 t77_0 t77_4 hp142 h0142 h1142)
                refine lv_goto (tgt := 45) hx hb dX10_readNumber_100 (by decide) ?_
                exact ih45 x138  f140 _ _ _ I (by clear V hS hl C9 hts hown hx hb hml hr hlk; rw [tAt_e hf141]; exact rn_le ex139 (hr_q hf77 hqf95.2 (hrG c98))) (show _ < _ from by have z9 := hm45; rw [tAt_e hf77] at z9; rw [tAt_e hf141]; exact cmsd z9 (sb_m ex139 (hr_q hf77 hqf95.2 (hrG c98)) h0142 hp142).1 (sb_m ex139 (hr_q hf77 hqf95.2 (hrG c98)) h0142 hp142).2) V hS (lv_sub hl [1, 2, 3, 4, 5, 6, 0] rfl)
      exact loop45 _ x76  f73 _ _ _ I (by clear V hS hl C9 hts hown hx hb hml hr hlk; first | exact h1 | (rw [tAt_e hf74]; exact rn_le ex72 (hr_q hf1 hqf2.2 (hrE c5 (by decide))))) (Nat.lt_succ_self _) V hS (lv_sub hl [4, 5, 6, 3, 2, 1, 0] rfl)
set_option maxHeartbeats 200000 in
set_option maxRecDepth 100000 in
theorem c_X10_readInstruction (l : Launch) (D : va_G) (ks : kS) (τ : Nat → Nat) (L : List Nat) (A : Nat → Prop) (N : State → Prop) (hN : cNk A N) (κ : kC) (hN0 : ∀ U, N U → N0 κ A U) (ψ : Int32) (f : Nat → va_E) (o0 : Nat) (i1 : Int32) (t_o0 : ty τ L o0 8) (h1 : tAt f o0 ≤ ψ) : Met l yX10_readInstruction (Cond.code yX10_readInstruction cX10_readInstruction 6 (some .boolean) :: tC) ({ frames := 6, cells := 0, slots := 0, locals := 130 }) (va_Pc [.ref o0, .int i1] (cB D ks τ L A N (ψ, f))) (va_Qi (fun r9 x9 => x9.1 = ψ ∧ tAt x9.2 o0 ≤ ψ) (cB D ks τ L A N) A) 0 0 A := by
  refine cMet (own := RX10) (by decide) rfl (Nat.le_of_ble_eq_true rfl) ?_
  intro p e s m below meth c ls C9 hml hr hlk V I hNs hl
  have hx := C9.1
  have hb := C9.2.1
  have hown := C9.2.2.1
  have hts := C9.2.2.2.1
  have h0 := hN0 s hNs
  have hS : va_S A s.heap s.heap [] := va_S.rf
  have hl : lv_has ls 6 [(0, .ref o0), (1, .int i1)] := hl
  refine lv_aload_n hx hb dX10_readInstruction_0 rfl (lv_at hl 0 rfl) ?_
  obtain ⟨v1_0, v1_1, v1_3, v1_4, v1_5, hf1, t1_0, t1_4, hp1, h01, h11⟩ := op8 I t_o0
  refine cG C9 V t_o0.1 hf1 rfl tC_lay8 5 (by decide) tCf_X10_26 (Or.inl rfl) rfl dX10_readInstruction_1 ?_
  refine lv_istore_n (lv' := [(2, .int v1_5), (0, .ref o0), (1, .int i1)]) hx hb dX10_readInstruction_4 rfl hl (by decide) rfl (fun ls hl => ?_)
  have loop5 : ∀ (N9 : Nat)   (Gf5 : Nat → va_E) (H : Heap) (locs : List Loc) (ls : Array Slot), cI ks τ L ψ Gf5 → (tAt Gf5 o0 ≤ ψ) → ((ψ - tAt Gf5 o0).toInt.toNat) < N9 → cV D L Gf5 A H → va_S A s.heap H locs → lv_has ls 6 [(0, .ref o0), (1, .int i1), (2, .int v1_5)] → W p l e ({ frames := 6, cells := 0, slots := 0, locals := 130 } : Room) s m ([.ref o0, .int i1] : List Value).toArray below meth c H locs 0 0 (MQ below (va_Qi (fun r9 x9 => x9.1 = ψ ∧ tAt x9.2 o0 ≤ ψ) (cB D ks τ L A N) A) ([.ref o0, .int i1] : List Value).toArray s 0 0 A) (F0 m 5 ls []) := by
    intro N9
    induction N9 with
    | zero => intro   Gf5 H locs ls I hi5 hm5; exact absurd hm5 (Nat.not_lt_zero _)
    | succ N9 ih5 =>
      intro   Gf5 H locs ls I hi5 hm5 V hS hl
      refine lv_aload_n hx hb dX10_readInstruction_5 rfl (lv_at hl 0 rfl) ?_
      obtain ⟨v2_0, v2_1, v2_3, v2_4, v2_5, hf2, t2_0, t2_4, hp2, h02, h12⟩ := op8 I t_o0
      refine cG C9 V t_o0.1 hf2 rfl tC_lay8 5 (by decide) tCf_X10_26 (Or.inl rfl) rfl dX10_readInstruction_6 ?_
      refine lv_aload_n hx hb dX10_readInstruction_9 rfl (lv_at hl 0 rfl) ?_
      refine cG C9 V t_o0.1 hf2 rfl tC_lay8 2 (by decide) tCf_X10_23 (Or.inl rfl) rfl dX10_readInstruction_10 ?_
      refine lv_icmp_ge (tgt := 47) hx hb dX10_readInstruction_13 (by decide) (fun c3 => ?_) (fun c3 => ?_)
      · refine lv_aload_n hx hb dX10_readInstruction_47 rfl (lv_at hl 0 rfl) ?_
        refine lv_iload_n hx hb dX10_readInstruction_48 rfl (lv_at hl 2 rfl) ?_
        refine cGoI (cRunV (As := [.int v1_5]) (rest := []) C9 hml hN hNs V I hS t_o0.1 hf2 rfl (c_X10_wordAt l D ks τ L A N hN κ hN0 ψ Gf5 o0 v1_5 t_o0 ) gC_X10_46 okC_X10_wordAt ⟨rfl, rfl, Nat.le_of_ble_eq_true rfl, Nat.le_of_ble_eq_true rfl⟩ hl.1 rfl (Nat.le_of_ble_eq_true rfl) dX10_readInstruction_49 ⟨Nat.zero_le _, Nat.zero_le _⟩) hS (fun r6 p5 f4 H locs hqf4 V I hS => ?_)
        have V : cV D L Gf5 A H := by rw [show f4 = Gf5 from congrArg Prod.snd hqf4] at V; exact V
        have I : cI ks τ L ψ Gf5 := by rw [show f4 = Gf5 from congrArg Prod.snd hqf4, show p5 = ψ from congrArg Prod.fst hqf4] at I; exact I
        refine lv_istore_n (lv' := [(3, .int r6), (0, .ref o0), (1, .int i1), (2, .int v1_5)]) hx hb dX10_readInstruction_52 rfl hl (by decide) rfl (fun ls hl => ?_)
        refine lv_iload_n hx hb dX10_readInstruction_53 rfl (lv_at hl 0 rfl) ?_
        refine lv_if_lt (tgt := 65) hx hb dX10_readInstruction_54 (by decide) (fun c7 => ?_) (fun c7 => ?_)
        · refine lv_aload_n hx hb dX10_readInstruction_65 rfl (lv_at hl 1 rfl) ?_
          refine lv_iload_n hx hb dX10_readInstruction_66 rfl (lv_at hl 3 rfl) ?_
          refine cGoI (cRunV (As := [.int v1_5]) (rest := []) C9 hml hN hNs V I hS t_o0.1 hf2 rfl (c_X10_broken l D ks τ L A N hN  ψ Gf5 o0 v1_5 t_o0 ) gC_X10_43 okC_X10_broken ⟨rfl, rfl, Nat.le_of_ble_eq_true rfl, Nat.le_of_ble_eq_true rfl⟩ hl.1 rfl (Nat.le_of_ble_eq_true rfl) dX10_readInstruction_67 ⟨Nat.zero_le _, Nat.zero_le _⟩) hS (fun r10 p9 f8 H locs hqf8 V I hS => ?_)
          have I : cI ks τ L ψ f8 := by rw [show p9 = ψ from hqf8.1] at I; exact I
          exact cRetZ C9 hr hlk hN hNs V I hS (by clear V hS hl C9 hts hown hx hb hml hr hlk h0 hN0; first | rfl | decide | (subst_vars; rfl) | (rw [hqf8.2.2]; rfl) | (rw [nope9.2.2]; rfl)) (⟨rfl, rn_t hqf8.2.1 hi5⟩) dX10_readInstruction_70
        · refine lv_iload_n hx hb dX10_readInstruction_57 rfl (lv_at hl 0 rfl) ?_
          refine cZw C9 h0 hS (by simp [nwL, RX10]) dX10_readInstruction_58 (fun y11 hy11 => ?_)
          refine cAw C9 hy11 hS dX10_readInstruction_61 ?_
          refine lv_icmp_lt (tgt := 71) hx hb dX10_readInstruction_62 (by decide) (fun c12 => ?_) (fun c12 => ?_)
          · refine lv_aload_n hx hb dX10_readInstruction_71 rfl (lv_at hl 1 rfl) ?_
            refine lv_iload_n hx hb dX10_readInstruction_72 rfl (lv_at hl 2 rfl) ?_
            refine lv_iload_n hx hb dX10_readInstruction_73 rfl (lv_at hl 0 rfl) ?_
            refine cGoV (cRunV (As := [.int i1, .int r6]) (rest := []) C9 hml hN hNs V I hS t_o0.1 hf2 rfl (c_X10_store l D ks τ L A N hN  ψ Gf5 o0 i1 r6 t_o0 ) gC_X10_54 okC_X10_store ⟨rfl, rfl, Nat.le_of_ble_eq_true rfl, Nat.le_of_ble_eq_true rfl⟩ hl.1 rfl (Nat.le_of_ble_eq_true rfl) dX10_readInstruction_74 ⟨Nat.zero_le _, Nat.zero_le _⟩) hS (fun p14 f13 H locs hqf13 V I hS => ?_)
            have I : cI ks τ L ψ f13 := by rw [show p14 = ψ from hqf13.1] at I; exact I
            refine cZw C9 h0 hS (by simp [nwL, RX10]) dX10_readInstruction_77 (fun y16 hy16 => ?_)
            refine lv_iload_n hx hb dX10_readInstruction_80 rfl (lv_at hl 0 rfl) ?_
            refine cLw C9 hy16 hS (cvin (N := 34) rfl (ci_le c7) (c12)) dX10_readInstruction_81 (fun y17 hy17 => ?_)
            refine cGn C9 h0 hS hy17 tCf_X10_58 dX10_readInstruction_82 (fun y18 y18n hy18 hny18 => ?_)
            refine lv_astore (lv' := [(4, .ref y18), (3, .int r6), (0, .ref o0), (1, .int i1), (2, .int v1_5)]) hx hb dX10_readInstruction_85 hl (by decide) rfl (fun ls hl => ?_)
            refine lv_iconst (v := 0) hx hb dX10_readInstruction_87 (by decide) ?_
            refine lv_topi (fun x19 ex19 => ?_)
            refine lv_istore (lv' := [(5, .int x19), (4, .ref y18), (3, .int r6), (0, .ref o0), (1, .int i1), (2, .int v1_5)]) hx hb dX10_readInstruction_88 hl (by decide) rfl (fun ls hl => ?_)
            have loop90 : ∀ (N9 : Nat) (w90_5 : Int32)  (Gf90 : Nat → va_E) (H : Heap) (locs : List Loc) (ls : Array Slot), cI ks τ L ψ Gf90 → (tAt Gf90 o0 ≤ ψ ∧ 0 ≤ w90_5 ∧ w90_5 ≤ nI y18n) → ((nI y18n - w90_5).toInt.toNat) < N9 → cV D L Gf90 A H → va_S A s.heap H locs → lv_has ls 6 [(0, .ref o0), (1, .int i1), (4, .ref y18), (5, .int w90_5)] → W p l e ({ frames := 6, cells := 0, slots := 0, locals := 130 } : Room) s m ([.ref o0, .int i1] : List Value).toArray below meth c H locs 0 0 (MQ below (va_Qi (fun r9 x9 => x9.1 = ψ ∧ tAt x9.2 o0 ≤ ψ) (cB D ks τ L A N) A) ([.ref o0, .int i1] : List Value).toArray s 0 0 A) (F0 m 90 ls []) := by
              intro N9
              induction N9 with
              | zero => intro w90_5  Gf90 H locs ls I hi90 hm90; exact absurd hm90 (Nat.not_lt_zero _)
              | succ N9 ih90 =>
                intro w90_5  Gf90 H locs ls I hi90 hm90 V hS hl
                refine lv_iload hx hb dX10_readInstruction_90 (lv_at hl 3 rfl) ?_
                refine lv_aload hx hb dX10_readInstruction_92 (lv_at hl 2 rfl) ?_
                refine cGoI (cRunR (As := []) (rest := [.int w90_5]) C9 hml hN hNs V I hS (isT_r h0 hS hy18) (c_J0_length_8abf5 l D ks τ L A N hN κ hN0 ψ Gf90 y18 y18n hy18 ) gC_X10_64 okC_J0_length_8abf5 ⟨rfl, rfl, Nat.le_of_ble_eq_true rfl, Nat.le_of_ble_eq_true rfl⟩ hl.1 rfl (Nat.le_of_ble_eq_true rfl) dX10_readInstruction_94 ⟨Nat.zero_le _, Nat.zero_le _⟩) hS (fun r22 p21 f20 H locs hqf20 V I hS => ?_)
                have V : cV D L Gf90 A H := by rw [show f20 = Gf90 from congrArg Prod.snd hqf20.1] at V; exact V
                have I : cI ks τ L ψ Gf90 := by rw [show f20 = Gf90 from congrArg Prod.snd hqf20.1, show p21 = ψ from congrArg Prod.fst hqf20.1] at I; exact I
                refine lv_icmp_ge (tgt := 150) hx hb dX10_readInstruction_97 (by decide) (fun c23 => ?_) (fun c23 => ?_)
                · refine lv_iconst (v := 1) hx hb dX10_readInstruction_150 (by decide) ?_
                  exact cRetZ C9 hr hlk hN hNs V I hS (by clear V hS hl C9 hts hown hx hb hml hr hlk h0 hN0; first | rfl | decide | (subst_vars; rfl) | (rw [nope9.2.2]; rfl) | (rw [nope9.2.2]; rfl)) (⟨rfl, hi90.1⟩) dX10_readInstruction_151
                · refine lv_aload_n hx hb dX10_readInstruction_100 rfl (lv_at hl 0 rfl) ?_
                  obtain ⟨v24_0, v24_1, v24_3, v24_4, v24_5, hf24, t24_0, t24_4, hp24, h024, h124⟩ := op8 I t_o0
                  refine cGoI (cRunV (As := []) (rest := []) C9 hml hN hNs V I hS t_o0.1 hf24 rfl (c_X10_here l D ks τ L A N hN  ψ Gf90 o0 t_o0 ) gC_X10_39 okC_X10_here ⟨rfl, rfl, Nat.le_of_ble_eq_true rfl, Nat.le_of_ble_eq_true rfl⟩ hl.1 rfl (Nat.le_of_ble_eq_true rfl) dX10_readInstruction_101 ⟨Nat.zero_le _, Nat.zero_le _⟩) hS (fun r27 p26 f25 H locs hqf25 V I hS => ?_)
                  have V : cV D L Gf90 A H := by rw [show f25 = Gf90 from congrArg Prod.snd hqf25.1] at V; exact V
                  have I : cI ks τ L ψ Gf90 := by rw [show f25 = Gf90 from congrArg Prod.snd hqf25.1, show p26 = ψ from congrArg Prod.fst hqf25.1] at I; exact I
                  refine lv_bipush (v := 32) hx hb dX10_readInstruction_104 (by decide) ?_
                  refine lv_icmp_eq (tgt := 118) hx hb dX10_readInstruction_106 (by decide) (fun c28 => ?_) (fun c28 => ?_)
                  · refine lv_aload_n hx hb dX10_readInstruction_118 rfl (lv_at hl 0 rfl) ?_
                    refine cGoV (cRunV (As := []) (rest := []) C9 hml hN hNs V I hS t_o0.1 hf24 rfl (c_X10_skipBlanks l D ks τ L A N hN  ψ Gf90 o0 t_o0 (hi90.1)) gC_X10_29 okC_X10_skipBlanks ⟨rfl, rfl, Nat.le_of_ble_eq_true rfl, Nat.le_of_ble_eq_true rfl⟩ hl.1 rfl (Nat.le_of_ble_eq_true rfl) dX10_readInstruction_119 ⟨Nat.zero_le _, Nat.zero_le _⟩) hS (fun p30 f29 H locs hqf29 V I hS => ?_)
                    have I : cI ks τ L ψ f29 := by rw [show p30 = ψ from hqf29.1] at I; exact I
                    refine lv_aload_n hx hb dX10_readInstruction_122 rfl (lv_at hl 0 rfl) ?_
                    refine lv_iload_n hx hb dX10_readInstruction_123 rfl (lv_at hl 1 rfl) ?_
                    refine lv_iconst (v := 1) hx hb dX10_readInstruction_124 (by decide) ?_
                    refine lv_iadd hx hb dX10_readInstruction_125 ?_
                    refine lv_iload hx hb dX10_readInstruction_126 (lv_at hl 3 rfl) ?_
                    refine lv_iadd hx hb dX10_readInstruction_128 ?_
                    refine lv_aload hx hb dX10_readInstruction_129 (lv_at hl 2 rfl) ?_
                    refine lv_iload hx hb dX10_readInstruction_131 (lv_at hl 3 rfl) ?_
                    refine cGoI (cRunR (As := [.int w90_5]) (rest := [.int ((i1 + 1) + w90_5), .ref o0]) C9 hml hN hNs V I hS (isT_r h0 hS hy18) (c_J0_charAt_5068e l D ks τ L A N hN κ hN0 ψ f29 y18 y18n w90_5 hy18 (hi90.2.1) ((it_lt c23 hqf20.2))) gC_X10_68 okC_J0_charAt_5068e ⟨rfl, rfl, Nat.le_of_ble_eq_true rfl, Nat.le_of_ble_eq_true rfl⟩ hl.1 rfl (Nat.le_of_ble_eq_true rfl) dX10_readInstruction_133 ⟨Nat.zero_le _, Nat.zero_le _⟩) hS (fun r34 p33 f32 H locs hqf32 V I hS => ?_)
                    have V : cV D L f29 A H := by rw [show f32 = f29 from congrArg Prod.snd hqf32] at V; exact V
                    have I : cI ks τ L ψ f29 := by rw [show f32 = f29 from congrArg Prod.snd hqf32, show p33 = ψ from congrArg Prod.fst hqf32] at I; exact I
                    obtain ⟨v35_0, v35_1, v35_3, v35_4, v35_5, hf35, t35_0, t35_4, hp35, h035, h135⟩ := op8 I t_o0
                    refine cGoI (cRunV (As := [.int ((i1 + 1) + w90_5), .int r34]) (rest := []) C9 hml hN hNs V I hS t_o0.1 hf35 rfl (c_X10_readNumber l D ks τ L A N hN  ψ f29 o0 ((i1 + 1) + w90_5) r34 t_o0 (hqf29.2.2)) gC_X10_72 okC_X10_readNumber ⟨rfl, rfl, Nat.le_of_ble_eq_true rfl, Nat.le_of_ble_eq_true rfl⟩ hl.1 rfl (Nat.le_of_ble_eq_true rfl) dX10_readInstruction_136 ⟨Nat.zero_le _, Nat.zero_le _⟩) hS (fun r38 p37 f36 H locs hqf36 V I hS => ?_)
                    have I : cI ks τ L ψ f36 := by rw [show p37 = ψ from hqf36.1] at I; exact I
                    refine lv_if_ne (tgt := 144) hx hb dX10_readInstruction_139 (by decide) (fun c39 => ?_) (fun c39 => ?_)
                    · obtain ⟨x40, ex40⟩ : ∃ y : Int32, y = w90_5 + (1) := ⟨_, rfl⟩
                      refine lv_iinc (v := x40) (lv' := [(5, .int x40), (0, .ref o0), (1, .int i1), (4, .ref y18)]) hx hb dX10_readInstruction_144 hl (k := 3) rfl (by rw [ex40]; rfl) (by decide) rfl (fun ls hl => ?_)
                      refine lv_goto (tgt := 90) hx hb dX10_readInstruction_147 (by decide) ?_
                      exact ih90 x40  f36 _ _ _ I (⟨hqf36.2, ca_up ex40 hi90.2.1 (it_lt c23 hqf20.2)⟩) (cmsd hm90 (ca_dec ex40 hi90.2.1 (it_lt c23 hqf20.2)).1 (ca_dec ex40 hi90.2.1 (it_lt c23 hqf20.2)).2) V hS (lv_sub hl [1, 2, 3, 0] rfl)
                    · refine lv_iconst (v := 0) hx hb dX10_readInstruction_142 (by decide) ?_
                      exact cRetZ C9 hr hlk hN hNs V I hS (by clear V hS hl C9 hts hown hx hb hml hr hlk h0 hN0; first | rfl | decide | (subst_vars; rfl) | (rw [nope9.2.2]; rfl) | (rw [nope9.2.2]; rfl)) (⟨rfl, hqf36.2⟩) dX10_readInstruction_143
                  · refine lv_aload_n hx hb dX10_readInstruction_109 rfl (lv_at hl 0 rfl) ?_
                    refine lv_aload_n hx hb dX10_readInstruction_110 rfl (lv_at hl 0 rfl) ?_
                    refine cG C9 V t_o0.1 hf24 rfl tC_lay8 5 (by decide) tCf_X10_26 (Or.inl rfl) rfl dX10_readInstruction_111 ?_
                    refine cGoI (cRunV (As := [.int v24_5]) (rest := []) C9 hml hN hNs V I hS t_o0.1 hf24 rfl (c_X10_broken l D ks τ L A N hN  ψ Gf90 o0 v24_5 t_o0 ) gC_X10_43 okC_X10_broken ⟨rfl, rfl, Nat.le_of_ble_eq_true rfl, Nat.le_of_ble_eq_true rfl⟩ hl.1 rfl (Nat.le_of_ble_eq_true rfl) dX10_readInstruction_114 ⟨Nat.zero_le _, Nat.zero_le _⟩) hS (fun r43 p42 f41 H locs hqf41 V I hS => ?_)
                    have I : cI ks τ L ψ f41 := by rw [show p42 = ψ from hqf41.1] at I; exact I
                    exact cRetZ C9 hr hlk hN hNs V I hS (by clear V hS hl C9 hts hown hx hb hml hr hlk h0 hN0; first | rfl | decide | (subst_vars; rfl) | (rw [nope9.2.2]; rfl) | (rw [hqf41.2.2]; rfl)) (⟨rfl, rn_t hqf41.2.1 hi90.1⟩) dX10_readInstruction_117
            exact loop90 _ x19  f13 _ _ _ I (⟨rn_t hqf13.2 hi5, ri_0 ex19 (Nat.le_trans hny18 (by clear V hS hl C9 hts hown hx hb hml hr hlk h0 hN0; decide))⟩) (Nat.lt_succ_self _) V hS (lv_sub hl [3, 4, 1, 0] rfl)
          · refine lv_aload_n hx hb dX10_readInstruction_65 rfl (lv_at hl 1 rfl) ?_
            refine lv_iload_n hx hb dX10_readInstruction_66 rfl (lv_at hl 3 rfl) ?_
            refine cGoI (cRunV (As := [.int v1_5]) (rest := []) C9 hml hN hNs V I hS t_o0.1 hf2 rfl (c_X10_broken l D ks τ L A N hN  ψ Gf5 o0 v1_5 t_o0 ) gC_X10_43 okC_X10_broken ⟨rfl, rfl, Nat.le_of_ble_eq_true rfl, Nat.le_of_ble_eq_true rfl⟩ hl.1 rfl (Nat.le_of_ble_eq_true rfl) dX10_readInstruction_67 ⟨Nat.zero_le _, Nat.zero_le _⟩) hS (fun r46 p45 f44 H locs hqf44 V I hS => ?_)
            have I : cI ks τ L ψ f44 := by rw [show p45 = ψ from hqf44.1] at I; exact I
            exact cRetZ C9 hr hlk hN hNs V I hS (by clear V hS hl C9 hts hown hx hb hml hr hlk h0 hN0; first | rfl | decide | (subst_vars; rfl) | (rw [hqf44.2.2]; rfl) | (rw [nope9.2.2]; rfl)) (⟨rfl, rn_t hqf44.2.1 hi5⟩) dX10_readInstruction_70
      · refine lv_aload_n hx hb dX10_readInstruction_16 rfl (lv_at hl 0 rfl) ?_
        refine cGoI (cRunV (As := []) (rest := []) C9 hml hN hNs V I hS t_o0.1 hf2 rfl (c_X10_here l D ks τ L A N hN  ψ Gf5 o0 t_o0 ) gC_X10_39 okC_X10_here ⟨rfl, rfl, Nat.le_of_ble_eq_true rfl, Nat.le_of_ble_eq_true rfl⟩ hl.1 rfl (Nat.le_of_ble_eq_true rfl) dX10_readInstruction_17 ⟨Nat.zero_le _, Nat.zero_le _⟩) hS (fun r49 p48 f47 H locs hqf47 V I hS => ?_)
        have V : cV D L Gf5 A H := by rw [show f47 = Gf5 from congrArg Prod.snd hqf47.1] at V; exact V
        have I : cI ks τ L ψ Gf5 := by rw [show f47 = Gf5 from congrArg Prod.snd hqf47.1, show p48 = ψ from congrArg Prod.fst hqf47.1] at I; exact I
        refine lv_bipush (v := 97) hx hb dX10_readInstruction_20 (by decide) ?_
        refine lv_icmp_lt (tgt := 47) hx hb dX10_readInstruction_22 (by decide) (fun c50 => ?_) (fun c50 => ?_)
        · refine lv_aload_n hx hb dX10_readInstruction_47 rfl (lv_at hl 0 rfl) ?_
          refine lv_iload_n hx hb dX10_readInstruction_48 rfl (lv_at hl 2 rfl) ?_
          refine cGoI (cRunV (As := [.int v1_5]) (rest := []) C9 hml hN hNs V I hS t_o0.1 hf2 rfl (c_X10_wordAt l D ks τ L A N hN κ hN0 ψ Gf5 o0 v1_5 t_o0 ) gC_X10_46 okC_X10_wordAt ⟨rfl, rfl, Nat.le_of_ble_eq_true rfl, Nat.le_of_ble_eq_true rfl⟩ hl.1 rfl (Nat.le_of_ble_eq_true rfl) dX10_readInstruction_49 ⟨Nat.zero_le _, Nat.zero_le _⟩) hS (fun r53 p52 f51 H locs hqf51 V I hS => ?_)
          have V : cV D L Gf5 A H := by rw [show f51 = Gf5 from congrArg Prod.snd hqf51] at V; exact V
          have I : cI ks τ L ψ Gf5 := by rw [show f51 = Gf5 from congrArg Prod.snd hqf51, show p52 = ψ from congrArg Prod.fst hqf51] at I; exact I
          refine lv_istore_n (lv' := [(3, .int r53), (0, .ref o0), (1, .int i1), (2, .int v1_5)]) hx hb dX10_readInstruction_52 rfl hl (by decide) rfl (fun ls hl => ?_)
          refine lv_iload_n hx hb dX10_readInstruction_53 rfl (lv_at hl 0 rfl) ?_
          refine lv_if_lt (tgt := 65) hx hb dX10_readInstruction_54 (by decide) (fun c54 => ?_) (fun c54 => ?_)
          · refine lv_aload_n hx hb dX10_readInstruction_65 rfl (lv_at hl 1 rfl) ?_
            refine lv_iload_n hx hb dX10_readInstruction_66 rfl (lv_at hl 3 rfl) ?_
            refine cGoI (cRunV (As := [.int v1_5]) (rest := []) C9 hml hN hNs V I hS t_o0.1 hf2 rfl (c_X10_broken l D ks τ L A N hN  ψ Gf5 o0 v1_5 t_o0 ) gC_X10_43 okC_X10_broken ⟨rfl, rfl, Nat.le_of_ble_eq_true rfl, Nat.le_of_ble_eq_true rfl⟩ hl.1 rfl (Nat.le_of_ble_eq_true rfl) dX10_readInstruction_67 ⟨Nat.zero_le _, Nat.zero_le _⟩) hS (fun r57 p56 f55 H locs hqf55 V I hS => ?_)
            have I : cI ks τ L ψ f55 := by rw [show p56 = ψ from hqf55.1] at I; exact I
            exact cRetZ C9 hr hlk hN hNs V I hS (by clear V hS hl C9 hts hown hx hb hml hr hlk h0 hN0; first | rfl | decide | (subst_vars; rfl) | (rw [hqf55.2.2]; rfl) | (rw [nope9.2.2]; rfl)) (⟨rfl, rn_t hqf55.2.1 hi5⟩) dX10_readInstruction_70
          · refine lv_iload_n hx hb dX10_readInstruction_57 rfl (lv_at hl 0 rfl) ?_
            refine cZw C9 h0 hS (by simp [nwL, RX10]) dX10_readInstruction_58 (fun y58 hy58 => ?_)
            refine cAw C9 hy58 hS dX10_readInstruction_61 ?_
            refine lv_icmp_lt (tgt := 71) hx hb dX10_readInstruction_62 (by decide) (fun c59 => ?_) (fun c59 => ?_)
            · refine lv_aload_n hx hb dX10_readInstruction_71 rfl (lv_at hl 1 rfl) ?_
              refine lv_iload_n hx hb dX10_readInstruction_72 rfl (lv_at hl 2 rfl) ?_
              refine lv_iload_n hx hb dX10_readInstruction_73 rfl (lv_at hl 0 rfl) ?_
              refine cGoV (cRunV (As := [.int i1, .int r53]) (rest := []) C9 hml hN hNs V I hS t_o0.1 hf2 rfl (c_X10_store l D ks τ L A N hN  ψ Gf5 o0 i1 r53 t_o0 ) gC_X10_54 okC_X10_store ⟨rfl, rfl, Nat.le_of_ble_eq_true rfl, Nat.le_of_ble_eq_true rfl⟩ hl.1 rfl (Nat.le_of_ble_eq_true rfl) dX10_readInstruction_74 ⟨Nat.zero_le _, Nat.zero_le _⟩) hS (fun p61 f60 H locs hqf60 V I hS => ?_)
              have I : cI ks τ L ψ f60 := by rw [show p61 = ψ from hqf60.1] at I; exact I
              refine cZw C9 h0 hS (by simp [nwL, RX10]) dX10_readInstruction_77 (fun y63 hy63 => ?_)
              refine lv_iload_n hx hb dX10_readInstruction_80 rfl (lv_at hl 0 rfl) ?_
              refine cLw C9 hy63 hS (cvin (N := 34) rfl (ci_le c54) (c59)) dX10_readInstruction_81 (fun y64 hy64 => ?_)
              refine cGn C9 h0 hS hy64 tCf_X10_58 dX10_readInstruction_82 (fun y65 y65n hy65 hny65 => ?_)
              refine lv_astore (lv' := [(4, .ref y65), (3, .int r53), (0, .ref o0), (1, .int i1), (2, .int v1_5)]) hx hb dX10_readInstruction_85 hl (by decide) rfl (fun ls hl => ?_)
              refine lv_iconst (v := 0) hx hb dX10_readInstruction_87 (by decide) ?_
              refine lv_topi (fun x66 ex66 => ?_)
              refine lv_istore (lv' := [(5, .int x66), (4, .ref y65), (3, .int r53), (0, .ref o0), (1, .int i1), (2, .int v1_5)]) hx hb dX10_readInstruction_88 hl (by decide) rfl (fun ls hl => ?_)
              have loop90 : ∀ (N9 : Nat) (w90_5 : Int32)  (Gf90 : Nat → va_E) (H : Heap) (locs : List Loc) (ls : Array Slot), cI ks τ L ψ Gf90 → (tAt Gf90 o0 ≤ ψ ∧ 0 ≤ w90_5 ∧ w90_5 ≤ nI y65n) → ((nI y65n - w90_5).toInt.toNat) < N9 → cV D L Gf90 A H → va_S A s.heap H locs → lv_has ls 6 [(0, .ref o0), (1, .int i1), (4, .ref y65), (5, .int w90_5)] → W p l e ({ frames := 6, cells := 0, slots := 0, locals := 130 } : Room) s m ([.ref o0, .int i1] : List Value).toArray below meth c H locs 0 0 (MQ below (va_Qi (fun r9 x9 => x9.1 = ψ ∧ tAt x9.2 o0 ≤ ψ) (cB D ks τ L A N) A) ([.ref o0, .int i1] : List Value).toArray s 0 0 A) (F0 m 90 ls []) := by
                intro N9
                induction N9 with
                | zero => intro w90_5  Gf90 H locs ls I hi90 hm90; exact absurd hm90 (Nat.not_lt_zero _)
                | succ N9 ih90 =>
                  intro w90_5  Gf90 H locs ls I hi90 hm90 V hS hl
                  refine lv_iload hx hb dX10_readInstruction_90 (lv_at hl 3 rfl) ?_
                  refine lv_aload hx hb dX10_readInstruction_92 (lv_at hl 2 rfl) ?_
                  refine cGoI (cRunR (As := []) (rest := [.int w90_5]) C9 hml hN hNs V I hS (isT_r h0 hS hy65) (c_J0_length_8abf5 l D ks τ L A N hN κ hN0 ψ Gf90 y65 y65n hy65 ) gC_X10_64 okC_J0_length_8abf5 ⟨rfl, rfl, Nat.le_of_ble_eq_true rfl, Nat.le_of_ble_eq_true rfl⟩ hl.1 rfl (Nat.le_of_ble_eq_true rfl) dX10_readInstruction_94 ⟨Nat.zero_le _, Nat.zero_le _⟩) hS (fun r69 p68 f67 H locs hqf67 V I hS => ?_)
                  have V : cV D L Gf90 A H := by rw [show f67 = Gf90 from congrArg Prod.snd hqf67.1] at V; exact V
                  have I : cI ks τ L ψ Gf90 := by rw [show f67 = Gf90 from congrArg Prod.snd hqf67.1, show p68 = ψ from congrArg Prod.fst hqf67.1] at I; exact I
                  refine lv_icmp_ge (tgt := 150) hx hb dX10_readInstruction_97 (by decide) (fun c70 => ?_) (fun c70 => ?_)
                  · refine lv_iconst (v := 1) hx hb dX10_readInstruction_150 (by decide) ?_
                    exact cRetZ C9 hr hlk hN hNs V I hS (by clear V hS hl C9 hts hown hx hb hml hr hlk h0 hN0; first | rfl | decide | (subst_vars; rfl) | (rw [nope9.2.2]; rfl) | (rw [nope9.2.2]; rfl)) (⟨rfl, hi90.1⟩) dX10_readInstruction_151
                  · refine lv_aload_n hx hb dX10_readInstruction_100 rfl (lv_at hl 0 rfl) ?_
                    obtain ⟨v71_0, v71_1, v71_3, v71_4, v71_5, hf71, t71_0, t71_4, hp71, h071, h171⟩ := op8 I t_o0
                    refine cGoI (cRunV (As := []) (rest := []) C9 hml hN hNs V I hS t_o0.1 hf71 rfl (c_X10_here l D ks τ L A N hN  ψ Gf90 o0 t_o0 ) gC_X10_39 okC_X10_here ⟨rfl, rfl, Nat.le_of_ble_eq_true rfl, Nat.le_of_ble_eq_true rfl⟩ hl.1 rfl (Nat.le_of_ble_eq_true rfl) dX10_readInstruction_101 ⟨Nat.zero_le _, Nat.zero_le _⟩) hS (fun r74 p73 f72 H locs hqf72 V I hS => ?_)
                    have V : cV D L Gf90 A H := by rw [show f72 = Gf90 from congrArg Prod.snd hqf72.1] at V; exact V
                    have I : cI ks τ L ψ Gf90 := by rw [show f72 = Gf90 from congrArg Prod.snd hqf72.1, show p73 = ψ from congrArg Prod.fst hqf72.1] at I; exact I
                    refine lv_bipush (v := 32) hx hb dX10_readInstruction_104 (by decide) ?_
                    refine lv_icmp_eq (tgt := 118) hx hb dX10_readInstruction_106 (by decide) (fun c75 => ?_) (fun c75 => ?_)
                    · refine lv_aload_n hx hb dX10_readInstruction_118 rfl (lv_at hl 0 rfl) ?_
                      refine cGoV (cRunV (As := []) (rest := []) C9 hml hN hNs V I hS t_o0.1 hf71 rfl (c_X10_skipBlanks l D ks τ L A N hN  ψ Gf90 o0 t_o0 (hi90.1)) gC_X10_29 okC_X10_skipBlanks ⟨rfl, rfl, Nat.le_of_ble_eq_true rfl, Nat.le_of_ble_eq_true rfl⟩ hl.1 rfl (Nat.le_of_ble_eq_true rfl) dX10_readInstruction_119 ⟨Nat.zero_le _, Nat.zero_le _⟩) hS (fun p77 f76 H locs hqf76 V I hS => ?_)
                      have I : cI ks τ L ψ f76 := by rw [show p77 = ψ from hqf76.1] at I; exact I
                      refine lv_aload_n hx hb dX10_readInstruction_122 rfl (lv_at hl 0 rfl) ?_
                      refine lv_iload_n hx hb dX10_readInstruction_123 rfl (lv_at hl 1 rfl) ?_
                      refine lv_iconst (v := 1) hx hb dX10_readInstruction_124 (by decide) ?_
                      refine lv_iadd hx hb dX10_readInstruction_125 ?_
                      refine lv_iload hx hb dX10_readInstruction_126 (lv_at hl 3 rfl) ?_
                      refine lv_iadd hx hb dX10_readInstruction_128 ?_
                      refine lv_aload hx hb dX10_readInstruction_129 (lv_at hl 2 rfl) ?_
                      refine lv_iload hx hb dX10_readInstruction_131 (lv_at hl 3 rfl) ?_
                      refine cGoI (cRunR (As := [.int w90_5]) (rest := [.int ((i1 + 1) + w90_5), .ref o0]) C9 hml hN hNs V I hS (isT_r h0 hS hy65) (c_J0_charAt_5068e l D ks τ L A N hN κ hN0 ψ f76 y65 y65n w90_5 hy65 (hi90.2.1) ((it_lt c70 hqf67.2))) gC_X10_68 okC_J0_charAt_5068e ⟨rfl, rfl, Nat.le_of_ble_eq_true rfl, Nat.le_of_ble_eq_true rfl⟩ hl.1 rfl (Nat.le_of_ble_eq_true rfl) dX10_readInstruction_133 ⟨Nat.zero_le _, Nat.zero_le _⟩) hS (fun r81 p80 f79 H locs hqf79 V I hS => ?_)
                      have V : cV D L f76 A H := by rw [show f79 = f76 from congrArg Prod.snd hqf79] at V; exact V
                      have I : cI ks τ L ψ f76 := by rw [show f79 = f76 from congrArg Prod.snd hqf79, show p80 = ψ from congrArg Prod.fst hqf79] at I; exact I
                      obtain ⟨v82_0, v82_1, v82_3, v82_4, v82_5, hf82, t82_0, t82_4, hp82, h082, h182⟩ := op8 I t_o0
                      refine cGoI (cRunV (As := [.int ((i1 + 1) + w90_5), .int r81]) (rest := []) C9 hml hN hNs V I hS t_o0.1 hf82 rfl (c_X10_readNumber l D ks τ L A N hN  ψ f76 o0 ((i1 + 1) + w90_5) r81 t_o0 (hqf76.2.2)) gC_X10_72 okC_X10_readNumber ⟨rfl, rfl, Nat.le_of_ble_eq_true rfl, Nat.le_of_ble_eq_true rfl⟩ hl.1 rfl (Nat.le_of_ble_eq_true rfl) dX10_readInstruction_136 ⟨Nat.zero_le _, Nat.zero_le _⟩) hS (fun r85 p84 f83 H locs hqf83 V I hS => ?_)
                      have I : cI ks τ L ψ f83 := by rw [show p84 = ψ from hqf83.1] at I; exact I
                      refine lv_if_ne (tgt := 144) hx hb dX10_readInstruction_139 (by decide) (fun c86 => ?_) (fun c86 => ?_)
                      · obtain ⟨x87, ex87⟩ : ∃ y : Int32, y = w90_5 + (1) := ⟨_, rfl⟩
                        refine lv_iinc (v := x87) (lv' := [(5, .int x87), (0, .ref o0), (1, .int i1), (4, .ref y65)]) hx hb dX10_readInstruction_144 hl (k := 3) rfl (by rw [ex87]; rfl) (by decide) rfl (fun ls hl => ?_)
                        refine lv_goto (tgt := 90) hx hb dX10_readInstruction_147 (by decide) ?_
                        exact ih90 x87  f83 _ _ _ I (⟨hqf83.2, ca_up ex87 hi90.2.1 (it_lt c70 hqf67.2)⟩) (cmsd hm90 (ca_dec ex87 hi90.2.1 (it_lt c70 hqf67.2)).1 (ca_dec ex87 hi90.2.1 (it_lt c70 hqf67.2)).2) V hS (lv_sub hl [1, 2, 3, 0] rfl)
                      · refine lv_iconst (v := 0) hx hb dX10_readInstruction_142 (by decide) ?_
                        exact cRetZ C9 hr hlk hN hNs V I hS (by clear V hS hl C9 hts hown hx hb hml hr hlk h0 hN0; first | rfl | decide | (subst_vars; rfl) | (rw [nope9.2.2]; rfl) | (rw [nope9.2.2]; rfl)) (⟨rfl, hqf83.2⟩) dX10_readInstruction_143
                    · refine lv_aload_n hx hb dX10_readInstruction_109 rfl (lv_at hl 0 rfl) ?_
                      refine lv_aload_n hx hb dX10_readInstruction_110 rfl (lv_at hl 0 rfl) ?_
                      refine cG C9 V t_o0.1 hf71 rfl tC_lay8 5 (by decide) tCf_X10_26 (Or.inl rfl) rfl dX10_readInstruction_111 ?_
                      refine cGoI (cRunV (As := [.int v71_5]) (rest := []) C9 hml hN hNs V I hS t_o0.1 hf71 rfl (c_X10_broken l D ks τ L A N hN  ψ Gf90 o0 v71_5 t_o0 ) gC_X10_43 okC_X10_broken ⟨rfl, rfl, Nat.le_of_ble_eq_true rfl, Nat.le_of_ble_eq_true rfl⟩ hl.1 rfl (Nat.le_of_ble_eq_true rfl) dX10_readInstruction_114 ⟨Nat.zero_le _, Nat.zero_le _⟩) hS (fun r90 p89 f88 H locs hqf88 V I hS => ?_)
                      have I : cI ks τ L ψ f88 := by rw [show p89 = ψ from hqf88.1] at I; exact I
                      exact cRetZ C9 hr hlk hN hNs V I hS (by clear V hS hl C9 hts hown hx hb hml hr hlk h0 hN0; first | rfl | decide | (subst_vars; rfl) | (rw [nope9.2.2]; rfl) | (rw [hqf88.2.2]; rfl)) (⟨rfl, rn_t hqf88.2.1 hi90.1⟩) dX10_readInstruction_117
              exact loop90 _ x66  f60 _ _ _ I (⟨rn_t hqf60.2 hi5, ri_0 ex66 (Nat.le_trans hny65 (by clear V hS hl C9 hts hown hx hb hml hr hlk h0 hN0; decide))⟩) (Nat.lt_succ_self _) V hS (lv_sub hl [3, 4, 1, 0] rfl)
            · refine lv_aload_n hx hb dX10_readInstruction_65 rfl (lv_at hl 1 rfl) ?_
              refine lv_iload_n hx hb dX10_readInstruction_66 rfl (lv_at hl 3 rfl) ?_
              refine cGoI (cRunV (As := [.int v1_5]) (rest := []) C9 hml hN hNs V I hS t_o0.1 hf2 rfl (c_X10_broken l D ks τ L A N hN  ψ Gf5 o0 v1_5 t_o0 ) gC_X10_43 okC_X10_broken ⟨rfl, rfl, Nat.le_of_ble_eq_true rfl, Nat.le_of_ble_eq_true rfl⟩ hl.1 rfl (Nat.le_of_ble_eq_true rfl) dX10_readInstruction_67 ⟨Nat.zero_le _, Nat.zero_le _⟩) hS (fun r93 p92 f91 H locs hqf91 V I hS => ?_)
              have I : cI ks τ L ψ f91 := by rw [show p92 = ψ from hqf91.1] at I; exact I
              exact cRetZ C9 hr hlk hN hNs V I hS (by clear V hS hl C9 hts hown hx hb hml hr hlk h0 hN0; first | rfl | decide | (subst_vars; rfl) | (rw [hqf91.2.2]; rfl) | (rw [nope9.2.2]; rfl)) (⟨rfl, rn_t hqf91.2.1 hi5⟩) dX10_readInstruction_70
        · refine lv_aload_n hx hb dX10_readInstruction_25 rfl (lv_at hl 0 rfl) ?_
          refine cGoI (cRunV (As := []) (rest := []) C9 hml hN hNs V I hS t_o0.1 hf2 rfl (c_X10_here l D ks τ L A N hN  ψ Gf5 o0 t_o0 ) gC_X10_39 okC_X10_here ⟨rfl, rfl, Nat.le_of_ble_eq_true rfl, Nat.le_of_ble_eq_true rfl⟩ hl.1 rfl (Nat.le_of_ble_eq_true rfl) dX10_readInstruction_26 ⟨Nat.zero_le _, Nat.zero_le _⟩) hS (fun r96 p95 f94 H locs hqf94 V I hS => ?_)
          have V : cV D L Gf5 A H := by rw [show f94 = Gf5 from congrArg Prod.snd hqf94.1] at V; exact V
          have I : cI ks τ L ψ Gf5 := by rw [show f94 = Gf5 from congrArg Prod.snd hqf94.1, show p95 = ψ from congrArg Prod.fst hqf94.1] at I; exact I
          refine lv_bipush (v := 122) hx hb dX10_readInstruction_29 (by decide) ?_
          refine lv_icmp_gt (tgt := 47) hx hb dX10_readInstruction_31 (by decide) (fun c97 => ?_) (fun c97 => ?_)
          · refine lv_aload_n hx hb dX10_readInstruction_47 rfl (lv_at hl 0 rfl) ?_
            refine lv_iload_n hx hb dX10_readInstruction_48 rfl (lv_at hl 2 rfl) ?_
            refine cGoI (cRunV (As := [.int v1_5]) (rest := []) C9 hml hN hNs V I hS t_o0.1 hf2 rfl (c_X10_wordAt l D ks τ L A N hN κ hN0 ψ Gf5 o0 v1_5 t_o0 ) gC_X10_46 okC_X10_wordAt ⟨rfl, rfl, Nat.le_of_ble_eq_true rfl, Nat.le_of_ble_eq_true rfl⟩ hl.1 rfl (Nat.le_of_ble_eq_true rfl) dX10_readInstruction_49 ⟨Nat.zero_le _, Nat.zero_le _⟩) hS (fun r100 p99 f98 H locs hqf98 V I hS => ?_)
            have V : cV D L Gf5 A H := by rw [show f98 = Gf5 from congrArg Prod.snd hqf98] at V; exact V
            have I : cI ks τ L ψ Gf5 := by rw [show f98 = Gf5 from congrArg Prod.snd hqf98, show p99 = ψ from congrArg Prod.fst hqf98] at I; exact I
            refine lv_istore_n (lv' := [(3, .int r100), (0, .ref o0), (1, .int i1), (2, .int v1_5)]) hx hb dX10_readInstruction_52 rfl hl (by decide) rfl (fun ls hl => ?_)
            refine lv_iload_n hx hb dX10_readInstruction_53 rfl (lv_at hl 0 rfl) ?_
            refine lv_if_lt (tgt := 65) hx hb dX10_readInstruction_54 (by decide) (fun c101 => ?_) (fun c101 => ?_)
            · refine lv_aload_n hx hb dX10_readInstruction_65 rfl (lv_at hl 1 rfl) ?_
              refine lv_iload_n hx hb dX10_readInstruction_66 rfl (lv_at hl 3 rfl) ?_
              refine cGoI (cRunV (As := [.int v1_5]) (rest := []) C9 hml hN hNs V I hS t_o0.1 hf2 rfl (c_X10_broken l D ks τ L A N hN  ψ Gf5 o0 v1_5 t_o0 ) gC_X10_43 okC_X10_broken ⟨rfl, rfl, Nat.le_of_ble_eq_true rfl, Nat.le_of_ble_eq_true rfl⟩ hl.1 rfl (Nat.le_of_ble_eq_true rfl) dX10_readInstruction_67 ⟨Nat.zero_le _, Nat.zero_le _⟩) hS (fun r104 p103 f102 H locs hqf102 V I hS => ?_)
              have I : cI ks τ L ψ f102 := by rw [show p103 = ψ from hqf102.1] at I; exact I
              exact cRetZ C9 hr hlk hN hNs V I hS (by clear V hS hl C9 hts hown hx hb hml hr hlk h0 hN0; first | rfl | decide | (subst_vars; rfl) | (rw [hqf102.2.2]; rfl) | (rw [nope9.2.2]; rfl)) (⟨rfl, rn_t hqf102.2.1 hi5⟩) dX10_readInstruction_70
            · refine lv_iload_n hx hb dX10_readInstruction_57 rfl (lv_at hl 0 rfl) ?_
              refine cZw C9 h0 hS (by simp [nwL, RX10]) dX10_readInstruction_58 (fun y105 hy105 => ?_)
              refine cAw C9 hy105 hS dX10_readInstruction_61 ?_
              refine lv_icmp_lt (tgt := 71) hx hb dX10_readInstruction_62 (by decide) (fun c106 => ?_) (fun c106 => ?_)
              · refine lv_aload_n hx hb dX10_readInstruction_71 rfl (lv_at hl 1 rfl) ?_
                refine lv_iload_n hx hb dX10_readInstruction_72 rfl (lv_at hl 2 rfl) ?_
                refine lv_iload_n hx hb dX10_readInstruction_73 rfl (lv_at hl 0 rfl) ?_
                refine cGoV (cRunV (As := [.int i1, .int r100]) (rest := []) C9 hml hN hNs V I hS t_o0.1 hf2 rfl (c_X10_store l D ks τ L A N hN  ψ Gf5 o0 i1 r100 t_o0 ) gC_X10_54 okC_X10_store ⟨rfl, rfl, Nat.le_of_ble_eq_true rfl, Nat.le_of_ble_eq_true rfl⟩ hl.1 rfl (Nat.le_of_ble_eq_true rfl) dX10_readInstruction_74 ⟨Nat.zero_le _, Nat.zero_le _⟩) hS (fun p108 f107 H locs hqf107 V I hS => ?_)
                have I : cI ks τ L ψ f107 := by rw [show p108 = ψ from hqf107.1] at I; exact I
                refine cZw C9 h0 hS (by simp [nwL, RX10]) dX10_readInstruction_77 (fun y110 hy110 => ?_)
                refine lv_iload_n hx hb dX10_readInstruction_80 rfl (lv_at hl 0 rfl) ?_
                refine cLw C9 hy110 hS (cvin (N := 34) rfl (ci_le c101) (c106)) dX10_readInstruction_81 (fun y111 hy111 => ?_)
                refine cGn C9 h0 hS hy111 tCf_X10_58 dX10_readInstruction_82 (fun y112 y112n hy112 hny112 => ?_)
                refine lv_astore (lv' := [(4, .ref y112), (3, .int r100), (0, .ref o0), (1, .int i1), (2, .int v1_5)]) hx hb dX10_readInstruction_85 hl (by decide) rfl (fun ls hl => ?_)
                refine lv_iconst (v := 0) hx hb dX10_readInstruction_87 (by decide) ?_
                refine lv_topi (fun x113 ex113 => ?_)
                refine lv_istore (lv' := [(5, .int x113), (4, .ref y112), (3, .int r100), (0, .ref o0), (1, .int i1), (2, .int v1_5)]) hx hb dX10_readInstruction_88 hl (by decide) rfl (fun ls hl => ?_)
                have loop90 : ∀ (N9 : Nat) (w90_5 : Int32)  (Gf90 : Nat → va_E) (H : Heap) (locs : List Loc) (ls : Array Slot), cI ks τ L ψ Gf90 → (tAt Gf90 o0 ≤ ψ ∧ 0 ≤ w90_5 ∧ w90_5 ≤ nI y112n) → ((nI y112n - w90_5).toInt.toNat) < N9 → cV D L Gf90 A H → va_S A s.heap H locs → lv_has ls 6 [(0, .ref o0), (1, .int i1), (4, .ref y112), (5, .int w90_5)] → W p l e ({ frames := 6, cells := 0, slots := 0, locals := 130 } : Room) s m ([.ref o0, .int i1] : List Value).toArray below meth c H locs 0 0 (MQ below (va_Qi (fun r9 x9 => x9.1 = ψ ∧ tAt x9.2 o0 ≤ ψ) (cB D ks τ L A N) A) ([.ref o0, .int i1] : List Value).toArray s 0 0 A) (F0 m 90 ls []) := by
                  intro N9
                  induction N9 with
                  | zero => intro w90_5  Gf90 H locs ls I hi90 hm90; exact absurd hm90 (Nat.not_lt_zero _)
                  | succ N9 ih90 =>
                    intro w90_5  Gf90 H locs ls I hi90 hm90 V hS hl
                    refine lv_iload hx hb dX10_readInstruction_90 (lv_at hl 3 rfl) ?_
                    refine lv_aload hx hb dX10_readInstruction_92 (lv_at hl 2 rfl) ?_
                    refine cGoI (cRunR (As := []) (rest := [.int w90_5]) C9 hml hN hNs V I hS (isT_r h0 hS hy112) (c_J0_length_8abf5 l D ks τ L A N hN κ hN0 ψ Gf90 y112 y112n hy112 ) gC_X10_64 okC_J0_length_8abf5 ⟨rfl, rfl, Nat.le_of_ble_eq_true rfl, Nat.le_of_ble_eq_true rfl⟩ hl.1 rfl (Nat.le_of_ble_eq_true rfl) dX10_readInstruction_94 ⟨Nat.zero_le _, Nat.zero_le _⟩) hS (fun r116 p115 f114 H locs hqf114 V I hS => ?_)
                    have V : cV D L Gf90 A H := by rw [show f114 = Gf90 from congrArg Prod.snd hqf114.1] at V; exact V
                    have I : cI ks τ L ψ Gf90 := by rw [show f114 = Gf90 from congrArg Prod.snd hqf114.1, show p115 = ψ from congrArg Prod.fst hqf114.1] at I; exact I
                    refine lv_icmp_ge (tgt := 150) hx hb dX10_readInstruction_97 (by decide) (fun c117 => ?_) (fun c117 => ?_)
                    · refine lv_iconst (v := 1) hx hb dX10_readInstruction_150 (by decide) ?_
                      exact cRetZ C9 hr hlk hN hNs V I hS (by clear V hS hl C9 hts hown hx hb hml hr hlk h0 hN0; first | rfl | decide | (subst_vars; rfl) | (rw [nope9.2.2]; rfl) | (rw [nope9.2.2]; rfl)) (⟨rfl, hi90.1⟩) dX10_readInstruction_151
                    · refine lv_aload_n hx hb dX10_readInstruction_100 rfl (lv_at hl 0 rfl) ?_
                      obtain ⟨v118_0, v118_1, v118_3, v118_4, v118_5, hf118, t118_0, t118_4, hp118, h0118, h1118⟩ := op8 I t_o0
                      refine cGoI (cRunV (As := []) (rest := []) C9 hml hN hNs V I hS t_o0.1 hf118 rfl (c_X10_here l D ks τ L A N hN  ψ Gf90 o0 t_o0 ) gC_X10_39 okC_X10_here ⟨rfl, rfl, Nat.le_of_ble_eq_true rfl, Nat.le_of_ble_eq_true rfl⟩ hl.1 rfl (Nat.le_of_ble_eq_true rfl) dX10_readInstruction_101 ⟨Nat.zero_le _, Nat.zero_le _⟩) hS (fun r121 p120 f119 H locs hqf119 V I hS => ?_)
                      have V : cV D L Gf90 A H := by rw [show f119 = Gf90 from congrArg Prod.snd hqf119.1] at V; exact V
                      have I : cI ks τ L ψ Gf90 := by rw [show f119 = Gf90 from congrArg Prod.snd hqf119.1, show p120 = ψ from congrArg Prod.fst hqf119.1] at I; exact I
                      refine lv_bipush (v := 32) hx hb dX10_readInstruction_104 (by decide) ?_
                      refine lv_icmp_eq (tgt := 118) hx hb dX10_readInstruction_106 (by decide) (fun c122 => ?_) (fun c122 => ?_)
                      · refine lv_aload_n hx hb dX10_readInstruction_118 rfl (lv_at hl 0 rfl) ?_
                        refine cGoV (cRunV (As := []) (rest := []) C9 hml hN hNs V I hS t_o0.1 hf118 rfl (c_X10_skipBlanks l D ks τ L A N hN  ψ Gf90 o0 t_o0 (hi90.1)) gC_X10_29 okC_X10_skipBlanks ⟨rfl, rfl, Nat.le_of_ble_eq_true rfl, Nat.le_of_ble_eq_true rfl⟩ hl.1 rfl (Nat.le_of_ble_eq_true rfl) dX10_readInstruction_119 ⟨Nat.zero_le _, Nat.zero_le _⟩) hS (fun p124 f123 H locs hqf123 V I hS => ?_)
                        have I : cI ks τ L ψ f123 := by rw [show p124 = ψ from hqf123.1] at I; exact I
                        refine lv_aload_n hx hb dX10_readInstruction_122 rfl (lv_at hl 0 rfl) ?_
                        refine lv_iload_n hx hb dX10_readInstruction_123 rfl (lv_at hl 1 rfl) ?_
                        refine lv_iconst (v := 1) hx hb dX10_readInstruction_124 (by decide) ?_
                        refine lv_iadd hx hb dX10_readInstruction_125 ?_
                        refine lv_iload hx hb dX10_readInstruction_126 (lv_at hl 3 rfl) ?_
                        refine lv_iadd hx hb dX10_readInstruction_128 ?_
                        refine lv_aload hx hb dX10_readInstruction_129 (lv_at hl 2 rfl) ?_
                        refine lv_iload hx hb dX10_readInstruction_131 (lv_at hl 3 rfl) ?_
                        refine cGoI (cRunR (As := [.int w90_5]) (rest := [.int ((i1 + 1) + w90_5), .ref o0]) C9 hml hN hNs V I hS (isT_r h0 hS hy112) (c_J0_charAt_5068e l D ks τ L A N hN κ hN0 ψ f123 y112 y112n w90_5 hy112 (hi90.2.1) ((it_lt c117 hqf114.2))) gC_X10_68 okC_J0_charAt_5068e ⟨rfl, rfl, Nat.le_of_ble_eq_true rfl, Nat.le_of_ble_eq_true rfl⟩ hl.1 rfl (Nat.le_of_ble_eq_true rfl) dX10_readInstruction_133 ⟨Nat.zero_le _, Nat.zero_le _⟩) hS (fun r128 p127 f126 H locs hqf126 V I hS => ?_)
                        have V : cV D L f123 A H := by rw [show f126 = f123 from congrArg Prod.snd hqf126] at V; exact V
                        have I : cI ks τ L ψ f123 := by rw [show f126 = f123 from congrArg Prod.snd hqf126, show p127 = ψ from congrArg Prod.fst hqf126] at I; exact I
                        obtain ⟨v129_0, v129_1, v129_3, v129_4, v129_5, hf129, t129_0, t129_4, hp129, h0129, h1129⟩ := op8 I t_o0
                        refine cGoI (cRunV (As := [.int ((i1 + 1) + w90_5), .int r128]) (rest := []) C9 hml hN hNs V I hS t_o0.1 hf129 rfl (c_X10_readNumber l D ks τ L A N hN  ψ f123 o0 ((i1 + 1) + w90_5) r128 t_o0 (hqf123.2.2)) gC_X10_72 okC_X10_readNumber ⟨rfl, rfl, Nat.le_of_ble_eq_true rfl, Nat.le_of_ble_eq_true rfl⟩ hl.1 rfl (Nat.le_of_ble_eq_true rfl) dX10_readInstruction_136 ⟨Nat.zero_le _, Nat.zero_le _⟩) hS (fun r132 p131 f130 H locs hqf130 V I hS => ?_)
                        have I : cI ks τ L ψ f130 := by rw [show p131 = ψ from hqf130.1] at I; exact I
                        refine lv_if_ne (tgt := 144) hx hb dX10_readInstruction_139 (by decide) (fun c133 => ?_) (fun c133 => ?_)
                        · obtain ⟨x134, ex134⟩ : ∃ y : Int32, y = w90_5 + (1) := ⟨_, rfl⟩
                          refine lv_iinc (v := x134) (lv' := [(5, .int x134), (0, .ref o0), (1, .int i1), (4, .ref y112)]) hx hb dX10_readInstruction_144 hl (k := 3) rfl (by rw [ex134]; rfl) (by decide) rfl (fun ls hl => ?_)
                          refine lv_goto (tgt := 90) hx hb dX10_readInstruction_147 (by decide) ?_
                          exact ih90 x134  f130 _ _ _ I (⟨hqf130.2, ca_up ex134 hi90.2.1 (it_lt c117 hqf114.2)⟩) (cmsd hm90 (ca_dec ex134 hi90.2.1 (it_lt c117 hqf114.2)).1 (ca_dec ex134 hi90.2.1 (it_lt c117 hqf114.2)).2) V hS (lv_sub hl [1, 2, 3, 0] rfl)
                        · refine lv_iconst (v := 0) hx hb dX10_readInstruction_142 (by decide) ?_
                          exact cRetZ C9 hr hlk hN hNs V I hS (by clear V hS hl C9 hts hown hx hb hml hr hlk h0 hN0; first | rfl | decide | (subst_vars; rfl) | (rw [nope9.2.2]; rfl) | (rw [nope9.2.2]; rfl)) (⟨rfl, hqf130.2⟩) dX10_readInstruction_143
                      · refine lv_aload_n hx hb dX10_readInstruction_109 rfl (lv_at hl 0 rfl) ?_
                        refine lv_aload_n hx hb dX10_readInstruction_110 rfl (lv_at hl 0 rfl) ?_
                        refine cG C9 V t_o0.1 hf118 rfl tC_lay8 5 (by decide) tCf_X10_26 (Or.inl rfl) rfl dX10_readInstruction_111 ?_
                        refine cGoI (cRunV (As := [.int v118_5]) (rest := []) C9 hml hN hNs V I hS t_o0.1 hf118 rfl (c_X10_broken l D ks τ L A N hN  ψ Gf90 o0 v118_5 t_o0 ) gC_X10_43 okC_X10_broken ⟨rfl, rfl, Nat.le_of_ble_eq_true rfl, Nat.le_of_ble_eq_true rfl⟩ hl.1 rfl (Nat.le_of_ble_eq_true rfl) dX10_readInstruction_114 ⟨Nat.zero_le _, Nat.zero_le _⟩) hS (fun r137 p136 f135 H locs hqf135 V I hS => ?_)
                        have I : cI ks τ L ψ f135 := by rw [show p136 = ψ from hqf135.1] at I; exact I
                        exact cRetZ C9 hr hlk hN hNs V I hS (by clear V hS hl C9 hts hown hx hb hml hr hlk h0 hN0; first | rfl | decide | (subst_vars; rfl) | (rw [nope9.2.2]; rfl) | (rw [hqf135.2.2]; rfl)) (⟨rfl, rn_t hqf135.2.1 hi90.1⟩) dX10_readInstruction_117
                exact loop90 _ x113  f107 _ _ _ I (⟨rn_t hqf107.2 hi5, ri_0 ex113 (Nat.le_trans hny112 (by clear V hS hl C9 hts hown hx hb hml hr hlk h0 hN0; decide))⟩) (Nat.lt_succ_self _) V hS (lv_sub hl [3, 4, 1, 0] rfl)
              · refine lv_aload_n hx hb dX10_readInstruction_65 rfl (lv_at hl 1 rfl) ?_
                refine lv_iload_n hx hb dX10_readInstruction_66 rfl (lv_at hl 3 rfl) ?_
                refine cGoI (cRunV (As := [.int v1_5]) (rest := []) C9 hml hN hNs V I hS t_o0.1 hf2 rfl (c_X10_broken l D ks τ L A N hN  ψ Gf5 o0 v1_5 t_o0 ) gC_X10_43 okC_X10_broken ⟨rfl, rfl, Nat.le_of_ble_eq_true rfl, Nat.le_of_ble_eq_true rfl⟩ hl.1 rfl (Nat.le_of_ble_eq_true rfl) dX10_readInstruction_67 ⟨Nat.zero_le _, Nat.zero_le _⟩) hS (fun r140 p139 f138 H locs hqf138 V I hS => ?_)
                have I : cI ks τ L ψ f138 := by rw [show p139 = ψ from hqf138.1] at I; exact I
                exact cRetZ C9 hr hlk hN hNs V I hS (by clear V hS hl C9 hts hown hx hb hml hr hlk h0 hN0; first | rfl | decide | (subst_vars; rfl) | (rw [hqf138.2.2]; rfl) | (rw [nope9.2.2]; rfl)) (⟨rfl, rn_t hqf138.2.1 hi5⟩) dX10_readInstruction_70
          · refine lv_aload_n hx hb dX10_readInstruction_34 rfl (lv_at hl 0 rfl) ?_
            refine lv_dup hx hb dX10_readInstruction_35 rfl ?_
            refine cG C9 V t_o0.1 hf2 rfl tC_lay8 5 (by decide) tCf_X10_26 (Or.inl rfl) rfl dX10_readInstruction_36 ?_
            refine lv_iconst (v := 1) hx hb dX10_readInstruction_39 (by decide) ?_
            refine lv_iadd hx hb dX10_readInstruction_40 ?_
            refine lv_topi (fun x141 ex141 => ?_)
            refine cP (v := .int x141) (ty := .int) C9 V hS t_o0.1 hf2 rfl tC_lay8 tyX10 tyX10_ok nmX10 5 (by decide) tCf_X10_26 rfl rfl (by decide +kernel) rfl rfl (Nat.le_of_ble_eq_true rfl) dX10_readInstruction_41 (fun f142 H locs ef142 V hS => ?_)
            have hf143 : f142 o0 = .inr (8, [.ref v2_0, .int v2_1, .int ψ, .int v2_3, .ref v2_4, .int x141]) := up_s ef142
            have hh144 := sb_a ex141 h02 (ci_lt c3) hp2.2
            have h0144 := hh144.1
            have h1144 := hh144.2
            have hp144 := hp2
            have I := cI_up I t_o0.2 ef142 (mk8 t2_0 t2_4 hp144 h0144 h1144)
            refine lv_goto (tgt := 5) hx hb dX10_readInstruction_44 (by decide) ?_
            exact ih5   f142 _ _ _ I (by clear V hS hl C9 hts hown hx hb hml hr hlk h0 hN0; rw [tAt_e hf143]; exact rn_le ex141 (ci_lt c3)) (show _ < _ from by have z9 := hm5; rw [tAt_e hf2] at z9; rw [tAt_e hf143]; exact cmsd z9 (sb_m ex141 (ci_lt c3) h0144 hp144).1 (sb_m ex141 (ci_lt c3) h0144 hp144).2) V hS (lv_sub hl [0, 1, 2] rfl)
  exact loop5 _   f _ _ _ I (h1) (Nat.lt_succ_self _) V hS (lv_sub hl [1, 2, 0] rfl)
set_option maxHeartbeats 200000 in
set_option maxRecDepth 100000 in
theorem c_X10_read (l : Launch) (D : va_G) (ks : kS) (τ : Nat → Nat) (L : List Nat) (A : Nat → Prop) (N : State → Prop) (hN : cNk A N) (κ : kC) (hN0 : ∀ U, N U → N0 κ A U) (ψ : Int32) (f : Nat → va_E) (o0 : Nat) (t_o0 : ty τ L o0 8) : Met l yX10_read (Cond.code yX10_read cX10_read 2 (some .boolean) :: tC) ({ frames := 7, cells := 0, slots := 0, locals := 155 }) (va_Pc [.ref o0] (cB D ks τ L A N (ψ, f))) (va_Qi (fun r9 x9 => x9.1 = ψ) (cB D ks τ L A N) A) 0 0 A := by
  refine cMet (own := RX10) (by decide) rfl (Nat.le_of_ble_eq_true rfl) ?_
  intro p e s m below meth c ls C9 hml hr hlk V I hNs hl
  have hx := C9.1
  have hb := C9.2.1
  have hown := C9.2.2.1
  have hts := C9.2.2.2.1
  have h0 := hN0 s hNs
  have hS : va_S A s.heap s.heap [] := va_S.rf
  have hl : lv_has ls 2 [(0, .ref o0)] := hl
  refine lv_aload_n hx hb dX10_read_0 rfl (lv_at hl 0 rfl) ?_
  refine lv_iconst (v := 0) hx hb dX10_read_1 (by decide) ?_
  obtain ⟨v1_0, v1_1, v1_3, v1_4, v1_5, hf1, t1_0, t1_4, hp1, h01, h11⟩ := op8 I t_o0
  refine cP (v := .int 0) (ty := .int) C9 V hS t_o0.1 hf1 rfl tC_lay8 tyX10 tyX10_ok nmX10 5 (by decide) tCf_X10_26 rfl rfl (by decide +kernel) rfl rfl (Nat.le_of_ble_eq_true rfl) dX10_read_2 (fun f2 H locs ef2 V hS => ?_)
  have hf3 : f2 o0 = .inr (8, [.ref v1_0, .int v1_1, .int ψ, .int v1_3, .ref v1_4, .int 0]) := up_s ef2
  have hh4 := (by decide : (0 : Int32) ≤ 0 ∧ (0 : Int32) ≤ 1601)
  have h04 := hh4.1
  have h14 := hh4.2
  have hp4 := hp1
  have I := cI_up I t_o0.2 ef2 (mk8 t1_0 t1_4 hp4 h04 h14)
  refine lv_aload_n hx hb dX10_read_5 rfl (lv_at hl 0 rfl) ?_
  refine lv_iconst (v := (-1)) hx hb dX10_read_6 (by decide) ?_
  refine lv_topi (fun x5 ex5 => ?_)
  refine cP (v := .int x5) (ty := .int) C9 V hS t_o0.1 hf3 rfl tC_lay8 tyX10 tyX10_ok nmX10 3 (by decide) tCf_X10_15 rfl rfl (by decide +kernel) rfl rfl (Nat.le_of_ble_eq_true rfl) dX10_read_7 (fun f6 H locs ef6 V hS => ?_)
  have hf7 : f6 o0 = .inr (8, [.ref v1_0, .int v1_1, .int ψ, .int x5, .ref v1_4, .int 0]) := up_s ef6
  have I := cI_up I t_o0.2 ef6 (mk8 t1_0 t1_4 hp4 h04 h14)
  refine lv_iconst (v := 0) hx hb dX10_read_10 (by decide) ?_
  refine lv_topi (fun x8 ex8 => ?_)
  refine lv_istore_n (lv' := [(1, .int x8), (0, .ref o0)]) hx hb dX10_read_11 rfl hl (by decide) rfl (fun ls hl => ?_)
  have loop12 : ∀ (N9 : Nat) (w12_1 : Int32)  (Gf12 : Nat → va_E) (H : Heap) (locs : List Loc) (ls : Array Slot), cI ks τ L ψ Gf12 → (tAt Gf12 o0 ≤ ψ ∧ 0 ≤ w12_1 ∧ w12_1 ≤ 60) → ((60 - w12_1).toInt.toNat) < N9 → cV D L Gf12 A H → va_S A s.heap H locs → lv_has ls 2 [(0, .ref o0), (1, .int w12_1)] → W p l e ({ frames := 7, cells := 0, slots := 0, locals := 155 } : Room) s m ([.ref o0] : List Value).toArray below meth c H locs 0 0 (MQ below (va_Qi (fun r9 x9 => x9.1 = ψ) (cB D ks τ L A N) A) ([.ref o0] : List Value).toArray s 0 0 A) (F0 m 12 ls []) := by
    intro N9
    induction N9 with
    | zero => intro w12_1  Gf12 H locs ls I hi12 hm12; exact absurd hm12 (Nat.not_lt_zero _)
    | succ N9 ih12 =>
      intro w12_1  Gf12 H locs ls I hi12 hm12 V hS hl
      refine lv_iload_n hx hb dX10_read_12 rfl (lv_at hl 1 rfl) ?_
      refine lv_bipush (v := 60) hx hb dX10_read_13 (by decide) ?_
      refine lv_icmp_ge (tgt := 92) hx hb dX10_read_15 (by decide) (fun c9 => ?_) (fun c9 => ?_)
      · refine lv_aload_n hx hb dX10_read_92 rfl (lv_at hl 0 rfl) ?_
        obtain ⟨v10_0, v10_1, v10_3, v10_4, v10_5, hf10, t10_0, t10_4, hp10, h010, h110⟩ := op8 I t_o0
        refine cGoV (cRunV (As := []) (rest := []) C9 hml hN hNs V I hS t_o0.1 hf10 rfl (c_X10_skipBlanks l D ks τ L A N hN  ψ Gf12 o0 t_o0 (hi12.1)) gC_X10_29 okC_X10_skipBlanks ⟨rfl, rfl, Nat.le_of_ble_eq_true rfl, Nat.le_of_ble_eq_true rfl⟩ hl.1 rfl (Nat.le_of_ble_eq_true rfl) dX10_read_93 ⟨Nat.zero_le _, Nat.zero_le _⟩) hS (fun p12 f11 H locs hqf11 V I hS => ?_)
        have I : cI ks τ L ψ f11 := by rw [show p12 = ψ from hqf11.1] at I; exact I
        refine lv_aload_n hx hb dX10_read_96 rfl (lv_at hl 0 rfl) ?_
        refine lv_aload_n hx hb dX10_read_97 rfl (lv_at hl 0 rfl) ?_
        obtain ⟨v14_0, v14_1, v14_3, v14_4, v14_5, hf14, t14_0, t14_4, hp14, h014, h114⟩ := op8 I t_o0
        refine cG C9 V t_o0.1 hf14 rfl tC_lay8 5 (by decide) tCf_X10_26 (Or.inl rfl) rfl dX10_read_98 ?_
        refine cGoI (cRunV (As := [.int v14_5]) (rest := []) C9 hml hN hNs V I hS t_o0.1 hf14 rfl (c_X10_broken l D ks τ L A N hN  ψ f11 o0 v14_5 t_o0 ) gC_X10_43 okC_X10_broken ⟨rfl, rfl, Nat.le_of_ble_eq_true rfl, Nat.le_of_ble_eq_true rfl⟩ hl.1 rfl (Nat.le_of_ble_eq_true rfl) dX10_read_101 ⟨Nat.zero_le _, Nat.zero_le _⟩) hS (fun r17 p16 f15 H locs hqf15 V I hS => ?_)
        have I : cI ks τ L ψ f15 := by rw [show p16 = ψ from hqf15.1] at I; exact I
        exact cRetZ C9 hr hlk hN hNs V I hS (by clear V hS hl C9 hts hown hx hb hml hr hlk h0 hN0; first | rfl | decide | (subst_vars; rfl) | (rw [nope9.2.2]; rfl) | (rw [hqf15.2.2]; rfl)) (rfl) dX10_read_104
      · refine lv_aload_n hx hb dX10_read_18 rfl (lv_at hl 0 rfl) ?_
        obtain ⟨v18_0, v18_1, v18_3, v18_4, v18_5, hf18, t18_0, t18_4, hp18, h018, h118⟩ := op8 I t_o0
        refine cGoV (cRunV (As := []) (rest := []) C9 hml hN hNs V I hS t_o0.1 hf18 rfl (c_X10_skipBlanks l D ks τ L A N hN  ψ Gf12 o0 t_o0 (hi12.1)) gC_X10_29 okC_X10_skipBlanks ⟨rfl, rfl, Nat.le_of_ble_eq_true rfl, Nat.le_of_ble_eq_true rfl⟩ hl.1 rfl (Nat.le_of_ble_eq_true rfl) dX10_read_19 ⟨Nat.zero_le _, Nat.zero_le _⟩) hS (fun p20 f19 H locs hqf19 V I hS => ?_)
        have I : cI ks τ L ψ f19 := by rw [show p20 = ψ from hqf19.1] at I; exact I
        refine lv_aload_n hx hb dX10_read_22 rfl (lv_at hl 0 rfl) ?_
        refine lv_iload_n hx hb dX10_read_23 rfl (lv_at hl 1 rfl) ?_
        refine lv_iconst (v := 4) hx hb dX10_read_24 (by decide) ?_
        refine lv_imul hx hb dX10_read_25 ?_
        obtain ⟨v22_0, v22_1, v22_3, v22_4, v22_5, hf22, t22_0, t22_4, hp22, h022, h122⟩ := op8 I t_o0
        refine cGoI (cRunV (As := [.int (w12_1 * 4)]) (rest := []) C9 hml hN hNs V I hS t_o0.1 hf22 rfl (c_X10_readInstruction l D ks τ L A N hN κ hN0 ψ f19 o0 (w12_1 * 4) t_o0 (hqf19.2.2)) gC_X10_32 okC_X10_readInstruction ⟨rfl, rfl, Nat.le_of_ble_eq_true rfl, Nat.le_of_ble_eq_true rfl⟩ hl.1 rfl (Nat.le_of_ble_eq_true rfl) dX10_read_26 ⟨Nat.zero_le _, Nat.zero_le _⟩) hS (fun r25 p24 f23 H locs hqf23 V I hS => ?_)
        have I : cI ks τ L ψ f23 := by rw [show p24 = ψ from hqf23.1] at I; exact I
        refine lv_if_ne (tgt := 34) hx hb dX10_read_29 (by decide) (fun c26 => ?_) (fun c26 => ?_)
        · refine lv_aload_n hx hb dX10_read_34 rfl (lv_at hl 0 rfl) ?_
          obtain ⟨v27_0, v27_1, v27_3, v27_4, v27_5, hf27, t27_0, t27_4, hp27, h027, h127⟩ := op8 I t_o0
          refine cGoV (cRunV (As := []) (rest := []) C9 hml hN hNs V I hS t_o0.1 hf27 rfl (c_X10_skipBlanks l D ks τ L A N hN  ψ f23 o0 t_o0 (hqf23.2)) gC_X10_29 okC_X10_skipBlanks ⟨rfl, rfl, Nat.le_of_ble_eq_true rfl, Nat.le_of_ble_eq_true rfl⟩ hl.1 rfl (Nat.le_of_ble_eq_true rfl) dX10_read_35 ⟨Nat.zero_le _, Nat.zero_le _⟩) hS (fun p29 f28 H locs hqf28 V I hS => ?_)
          have I : cI ks τ L ψ f28 := by rw [show p29 = ψ from hqf28.1] at I; exact I
          refine lv_aload_n hx hb dX10_read_38 rfl (lv_at hl 0 rfl) ?_
          obtain ⟨v31_0, v31_1, v31_3, v31_4, v31_5, hf31, t31_0, t31_4, hp31, h031, h131⟩ := op8 I t_o0
          refine cG C9 V t_o0.1 hf31 rfl tC_lay8 5 (by decide) tCf_X10_26 (Or.inl rfl) rfl dX10_read_39 ?_
          refine lv_aload_n hx hb dX10_read_42 rfl (lv_at hl 0 rfl) ?_
          refine cG C9 V t_o0.1 hf31 rfl tC_lay8 2 (by decide) tCf_X10_23 (Or.inl rfl) rfl dX10_read_43 ?_
          refine lv_icmp_lt (tgt := 58) hx hb dX10_read_46 (by decide) (fun c32 => ?_) (fun c32 => ?_)
          · refine lv_aload_n hx hb dX10_read_58 rfl (lv_at hl 0 rfl) ?_
            refine cGoI (cRunV (As := []) (rest := []) C9 hml hN hNs V I hS t_o0.1 hf31 rfl (c_X10_here l D ks τ L A N hN  ψ f28 o0 t_o0 ) gC_X10_39 okC_X10_here ⟨rfl, rfl, Nat.le_of_ble_eq_true rfl, Nat.le_of_ble_eq_true rfl⟩ hl.1 rfl (Nat.le_of_ble_eq_true rfl) dX10_read_59 ⟨Nat.zero_le _, Nat.zero_le _⟩) hS (fun r35 p34 f33 H locs hqf33 V I hS => ?_)
            have V : cV D L f28 A H := by rw [show f33 = f28 from congrArg Prod.snd hqf33.1] at V; exact V
            have I : cI ks τ L ψ f28 := by rw [show f33 = f28 from congrArg Prod.snd hqf33.1, show p34 = ψ from congrArg Prod.fst hqf33.1] at I; exact I
            refine lv_bipush (v := 59) hx hb dX10_read_62 (by decide) ?_
            refine lv_icmp_eq (tgt := 76) hx hb dX10_read_64 (by decide) (fun c36 => ?_) (fun c36 => ?_)
            · refine lv_aload_n hx hb dX10_read_76 rfl (lv_at hl 0 rfl) ?_
              refine lv_dup hx hb dX10_read_77 rfl ?_
              refine cG C9 V t_o0.1 hf31 rfl tC_lay8 5 (by decide) tCf_X10_26 (Or.inl rfl) rfl dX10_read_78 ?_
              refine lv_iconst (v := 1) hx hb dX10_read_81 (by decide) ?_
              refine lv_iadd hx hb dX10_read_82 ?_
              refine lv_topi (fun x37 ex37 => ?_)
              refine cP (v := .int x37) (ty := .int) C9 V hS t_o0.1 hf31 rfl tC_lay8 tyX10 tyX10_ok nmX10 5 (by decide) tCf_X10_26 rfl rfl (by decide +kernel) rfl rfl (Nat.le_of_ble_eq_true rfl) dX10_read_83 (fun f38 H locs ef38 V hS => ?_)
              have hf39 : f38 o0 = .inr (8, [.ref v31_0, .int v31_1, .int ψ, .int v31_3, .ref v31_4, .int x37]) := up_s ef38
              have hh40 := sb_a ex37 h031 c32 hp31.2
              have h040 := hh40.1
              have h140 := hh40.2
              have hp40 := hp31
              have I := cI_up I t_o0.2 ef38 (mk8 t31_0 t31_4 hp40 h040 h140)
              obtain ⟨x41, ex41⟩ : ∃ y : Int32, y = w12_1 + (1) := ⟨_, rfl⟩
              refine lv_iinc (v := x41) (lv' := [(1, .int x41), (0, .ref o0)]) hx hb dX10_read_86 hl (k := 1) rfl (by rw [ex41]; rfl) (by decide) rfl (fun ls hl => ?_)
              refine lv_goto (tgt := 12) hx hb dX10_read_89 (by decide) ?_
              exact ih12 x41  f38 _ _ _ I (⟨rn_t (tAt_e hf39) (rn_le ex37 c32), ca_up ex41 hi12.2.1 (ci_lt c9)⟩) (cmsd hm12 (ca_dec ex41 hi12.2.1 (ci_lt c9)).1 (ca_dec ex41 hi12.2.1 (ci_lt c9)).2) V hS (lv_sub hl [1, 0] rfl)
            · refine lv_aload_n hx hb dX10_read_67 rfl (lv_at hl 0 rfl) ?_
              refine lv_aload_n hx hb dX10_read_68 rfl (lv_at hl 0 rfl) ?_
              refine cG C9 V t_o0.1 hf31 rfl tC_lay8 5 (by decide) tCf_X10_26 (Or.inl rfl) rfl dX10_read_69 ?_
              refine cGoI (cRunV (As := [.int v31_5]) (rest := []) C9 hml hN hNs V I hS t_o0.1 hf31 rfl (c_X10_broken l D ks τ L A N hN  ψ f28 o0 v31_5 t_o0 ) gC_X10_43 okC_X10_broken ⟨rfl, rfl, Nat.le_of_ble_eq_true rfl, Nat.le_of_ble_eq_true rfl⟩ hl.1 rfl (Nat.le_of_ble_eq_true rfl) dX10_read_72 ⟨Nat.zero_le _, Nat.zero_le _⟩) hS (fun r44 p43 f42 H locs hqf42 V I hS => ?_)
              have I : cI ks τ L ψ f42 := by rw [show p43 = ψ from hqf42.1] at I; exact I
              exact cRetZ C9 hr hlk hN hNs V I hS (by clear V hS hl C9 hts hown hx hb hml hr hlk h0 hN0; first | rfl | decide | (subst_vars; rfl) | (rw [hqf42.2.2]; rfl) | (rw [nope9.2.2]; rfl)) (rfl) dX10_read_75
          · refine lv_aload_n hx hb dX10_read_49 rfl (lv_at hl 0 rfl) ?_
            refine lv_iload_n hx hb dX10_read_50 rfl (lv_at hl 1 rfl) ?_
            refine lv_iconst (v := 1) hx hb dX10_read_51 (by decide) ?_
            refine lv_iadd hx hb dX10_read_52 ?_
            refine lv_topi (fun x45 ex45 => ?_)
            refine cP (v := .int x45) (ty := .int) C9 V hS t_o0.1 hf31 rfl tC_lay8 tyX10 tyX10_ok nmX10 1 (by decide) tCf_X10_36 rfl rfl (by decide +kernel) rfl rfl (Nat.le_of_ble_eq_true rfl) dX10_read_53 (fun f46 H locs ef46 V hS => ?_)
            have hf47 : f46 o0 = .inr (8, [.ref v31_0, .int x45, .int ψ, .int v31_3, .ref v31_4, .int v31_5]) := up_s ef46
            have I := cI_up I t_o0.2 ef46 (mk8 t31_0 t31_4 hp31 h031 h131)
            refine lv_iconst (v := 1) hx hb dX10_read_56 (by decide) ?_
            exact cRetZ C9 hr hlk hN hNs V I hS (by clear V hS hl C9 hts hown hx hb hml hr hlk h0 hN0; first | rfl | decide | (subst_vars; rfl) | (rw [nope9.2.2]; rfl) | (rw [nope9.2.2]; rfl)) (rfl) dX10_read_57
        · refine lv_iconst (v := 0) hx hb dX10_read_32 (by decide) ?_
          exact cRetZ C9 hr hlk hN hNs V I hS (by clear V hS hl C9 hts hown hx hb hml hr hlk h0 hN0; first | rfl | decide | (subst_vars; rfl) | (rw [nope9.2.2]; rfl) | (rw [nope9.2.2]; rfl)) (rfl) dX10_read_33
  exact loop12 _ x8  f6 _ _ _ I (⟨rn_t (tAt_e hf7) hp4.1, rd_i ex8⟩) (Nat.lt_succ_self _) V hS (lv_sub hl [1, 0] rfl)

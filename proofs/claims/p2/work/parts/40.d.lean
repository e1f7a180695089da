set_option maxHeartbeats 200000 in
set_option maxRecDepth 100000 in
theorem c_X12_fits_4 (l : Launch) (D : va_G) (ks : kS) (τ : Nat → Nat) (L : List Nat) (A : Nat → Prop) (N : State → Prop) (hN : cNk A N)  (ψ : Int32) (f : Nat → va_E) (i1 : Int32) (i2 : Int32)  : Met l yX12_fits (Cond.code yX12_fits cX12_fits 2 (some .boolean) :: tC) ({ frames := 0, cells := 0, slots := 0, locals := 0 }) (va_Pc [.int i1, .int i2] (cB D ks τ L A N (ψ, f))) (va_Qi (fun r9 x9 => x9 = (ψ, f) ∧ (r9 = 0 ∨ (i1 = 4 → 1 ≤ i2 ∧ i2 ≤ 100))) (cB D ks τ L A N) A) 0 0 A := by
  refine cMet (own := RX12) (by decide) rfl (Nat.le_of_ble_eq_true rfl) ?_
  intro p e s m below meth c ls C9 hml hr hlk V I hNs hl
  have hx := C9.1
  have hb := C9.2.1
  have hown := C9.2.2.1
  have hts := C9.2.2.2.1
  have hS : va_S A s.heap s.heap [] := va_S.rf
  have hl : lv_has ls 2 [(0, .int i1), (1, .int i2)] := hl
  refine lv_iload_n hx hb dX12_fits_0 rfl (lv_at hl 0 rfl) ?_
  refine cTabH hx hb [95, 36, 51, 61, 78] dX12_fits_1 rfl (by decide) ?_
  intro t9 hm1 hThm1
  rcases List.mem_cons.mp hm1 with rfl | hm1
  · refine lv_iload_n hx hb dX12_fits_95 rfl (lv_at hl 0 rfl) ?_
    refine lv_if_lt (tgt := 109) hx hb dX12_fits_96 (by decide) (fun c2 => ?_) (fun c2 => ?_)
    · refine lv_iconst (v := 0) hx hb dX12_fits_109 (by decide) ?_
      exact cRetZ C9 hr hlk hN hNs V I hS (by clear V hS hl C9 hts hown hx hb hml hr hlk; first | rfl | decide | (subst_vars; rfl)) (⟨rfl, by first | exact Or.inl rfl | exact Or.inr (fun _ => ⟨ci_le nope9, ci_le nope9⟩) | exact Or.inr (fun z => absurd (ft_4 hThm1 z) (by clear V hS hl C9 hts hown hx hb hml hr hlk; decide))⟩) dX12_fits_110
    · refine lv_iload_n hx hb dX12_fits_99 rfl (lv_at hl 0 rfl) ?_
      refine lv_bipush (v := 7) hx hb dX12_fits_100 (by decide) ?_
      refine lv_icmp_gt (tgt := 109) hx hb dX12_fits_102 (by decide) (fun c3 => ?_) (fun c3 => ?_)
      · refine lv_iconst (v := 0) hx hb dX12_fits_109 (by decide) ?_
        exact cRetZ C9 hr hlk hN hNs V I hS (by clear V hS hl C9 hts hown hx hb hml hr hlk; first | rfl | decide | (subst_vars; rfl)) (⟨rfl, by first | exact Or.inl rfl | exact Or.inr (fun _ => ⟨ci_le nope9, ci_le nope9⟩) | exact Or.inr (fun z => absurd (ft_4 hThm1 z) (by clear V hS hl C9 hts hown hx hb hml hr hlk; decide))⟩) dX12_fits_110
      · refine lv_iconst (v := 1) hx hb dX12_fits_105 (by decide) ?_
        refine lv_goto (tgt := 110) hx hb dX12_fits_106 (by decide) ?_
        exact cRetZ C9 hr hlk hN hNs V I hS (by clear V hS hl C9 hts hown hx hb hml hr hlk; first | rfl | decide | (subst_vars; rfl)) (⟨rfl, by first | exact Or.inl rfl | exact Or.inr (fun _ => ⟨ci_le nope9, ci_le nope9⟩) | exact Or.inr (fun z => absurd (ft_4 hThm1 z) (by clear V hS hl C9 hts hown hx hb hml hr hlk; decide))⟩) dX12_fits_110
  rcases List.mem_cons.mp hm1 with rfl | hm1
  · refine lv_iload_n hx hb dX12_fits_36 rfl (lv_at hl 1 rfl) ?_
    refine lv_if_eq (tgt := 45) hx hb dX12_fits_37 (by decide) (fun c4 => ?_) (fun c4 => ?_)
    · refine lv_iconst (v := 1) hx hb dX12_fits_45 (by decide) ?_
      refine lv_goto (tgt := 50) hx hb dX12_fits_46 (by decide) ?_
      exact cRetZ C9 hr hlk hN hNs V I hS (by clear V hS hl C9 hts hown hx hb hml hr hlk; first | rfl | decide | (subst_vars; rfl)) (⟨rfl, by first | exact Or.inl rfl | exact Or.inr (fun _ => ⟨ci_le nope9, ci_le nope9⟩) | exact Or.inr (fun z => absurd (ft_4 hThm1 z) (by clear V hS hl C9 hts hown hx hb hml hr hlk; decide))⟩) dX12_fits_50
    · refine lv_iload_n hx hb dX12_fits_40 rfl (lv_at hl 1 rfl) ?_
      refine lv_iconst (v := 1) hx hb dX12_fits_41 (by decide) ?_
      refine lv_icmp_ne (tgt := 49) hx hb dX12_fits_42 (by decide) (fun c5 => ?_) (fun c5 => ?_)
      · refine lv_iconst (v := 0) hx hb dX12_fits_49 (by decide) ?_
        exact cRetZ C9 hr hlk hN hNs V I hS (by clear V hS hl C9 hts hown hx hb hml hr hlk; first | rfl | decide | (subst_vars; rfl)) (⟨rfl, by first | exact Or.inl rfl | exact Or.inr (fun _ => ⟨ci_le nope9, ci_le nope9⟩) | exact Or.inr (fun z => absurd (ft_4 hThm1 z) (by clear V hS hl C9 hts hown hx hb hml hr hlk; decide))⟩) dX12_fits_50
      · refine lv_iconst (v := 1) hx hb dX12_fits_45 (by decide) ?_
        refine lv_goto (tgt := 50) hx hb dX12_fits_46 (by decide) ?_
        exact cRetZ C9 hr hlk hN hNs V I hS (by clear V hS hl C9 hts hown hx hb hml hr hlk; first | rfl | decide | (subst_vars; rfl)) (⟨rfl, by first | exact Or.inl rfl | exact Or.inr (fun _ => ⟨ci_le nope9, ci_le nope9⟩) | exact Or.inr (fun z => absurd (ft_4 hThm1 z) (by clear V hS hl C9 hts hown hx hb hml hr hlk; decide))⟩) dX12_fits_50
  rcases List.mem_cons.mp hm1 with rfl | hm1
  · refine lv_iload_n hx hb dX12_fits_51 rfl (lv_at hl 1 rfl) ?_
    refine lv_if_lt (tgt := 59) hx hb dX12_fits_52 (by decide) (fun c6 => ?_) (fun c6 => ?_)
    · refine lv_iconst (v := 0) hx hb dX12_fits_59 (by decide) ?_
      exact cRetZ C9 hr hlk hN hNs V I hS (by clear V hS hl C9 hts hown hx hb hml hr hlk; first | rfl | decide | (subst_vars; rfl)) (⟨rfl, by first | exact Or.inl rfl | exact Or.inr (fun _ => ⟨ci_le nope9, ci_le nope9⟩) | exact Or.inr (fun z => absurd (ft_4 hThm1 z) (by clear V hS hl C9 hts hown hx hb hml hr hlk; decide))⟩) dX12_fits_60
    · refine lv_iconst (v := 1) hx hb dX12_fits_55 (by decide) ?_
      refine lv_goto (tgt := 60) hx hb dX12_fits_56 (by decide) ?_
      exact cRetZ C9 hr hlk hN hNs V I hS (by clear V hS hl C9 hts hown hx hb hml hr hlk; first | rfl | decide | (subst_vars; rfl)) (⟨rfl, by first | exact Or.inl rfl | exact Or.inr (fun _ => ⟨ci_le nope9, ci_le nope9⟩) | exact Or.inr (fun z => absurd (ft_4 hThm1 z) (by clear V hS hl C9 hts hown hx hb hml hr hlk; decide))⟩) dX12_fits_60
  rcases List.mem_cons.mp hm1 with rfl | hm1
  · refine lv_iload_n hx hb dX12_fits_61 rfl (lv_at hl 1 rfl) ?_
    refine lv_iconst (v := 1) hx hb dX12_fits_62 (by decide) ?_
    refine lv_icmp_lt (tgt := 76) hx hb dX12_fits_63 (by decide) (fun c7 => ?_) (fun c7 => ?_)
    · refine lv_iconst (v := 0) hx hb dX12_fits_76 (by decide) ?_
      exact cRetZ C9 hr hlk hN hNs V I hS (by clear V hS hl C9 hts hown hx hb hml hr hlk; first | rfl | decide | (subst_vars; rfl)) (⟨rfl, by first | exact Or.inl rfl | exact Or.inr (fun _ => ⟨ci_le nope9, ci_le nope9⟩) | exact Or.inr (fun z => absurd (ft_4 hThm1 z) (by clear V hS hl C9 hts hown hx hb hml hr hlk; decide))⟩) dX12_fits_77
    · refine lv_iload_n hx hb dX12_fits_66 rfl (lv_at hl 1 rfl) ?_
      refine lv_bipush (v := 8) hx hb dX12_fits_67 (by decide) ?_
      refine lv_icmp_gt (tgt := 76) hx hb dX12_fits_69 (by decide) (fun c8 => ?_) (fun c8 => ?_)
      · refine lv_iconst (v := 0) hx hb dX12_fits_76 (by decide) ?_
        exact cRetZ C9 hr hlk hN hNs V I hS (by clear V hS hl C9 hts hown hx hb hml hr hlk; first | rfl | decide | (subst_vars; rfl)) (⟨rfl, by first | exact Or.inl rfl | exact Or.inr (fun _ => ⟨ci_le nope9, ci_le nope9⟩) | exact Or.inr (fun z => absurd (ft_4 hThm1 z) (by clear V hS hl C9 hts hown hx hb hml hr hlk; decide))⟩) dX12_fits_77
      · refine lv_iconst (v := 1) hx hb dX12_fits_72 (by decide) ?_
        refine lv_goto (tgt := 77) hx hb dX12_fits_73 (by decide) ?_
        exact cRetZ C9 hr hlk hN hNs V I hS (by clear V hS hl C9 hts hown hx hb hml hr hlk; first | rfl | decide | (subst_vars; rfl)) (⟨rfl, by first | exact Or.inl rfl | exact Or.inr (fun _ => ⟨ci_le nope9, ci_le nope9⟩) | exact Or.inr (fun z => absurd (ft_4 hThm1 z) (by clear V hS hl C9 hts hown hx hb hml hr hlk; decide))⟩) dX12_fits_77
  rcases List.mem_cons.mp hm1 with rfl | hm1
  · refine lv_iload_n hx hb dX12_fits_78 rfl (lv_at hl 1 rfl) ?_
    refine lv_iconst (v := 1) hx hb dX12_fits_79 (by decide) ?_
    refine lv_icmp_lt (tgt := 93) hx hb dX12_fits_80 (by decide) (fun c9 => ?_) (fun c9 => ?_)
    · refine lv_iconst (v := 0) hx hb dX12_fits_93 (by decide) ?_
      exact cRetZ C9 hr hlk hN hNs V I hS (by clear V hS hl C9 hts hown hx hb hml hr hlk; first | rfl | decide | (subst_vars; rfl)) (⟨rfl, by first | exact Or.inl rfl | exact Or.inr (fun _ => ⟨ci_le c9, ci_le nope9⟩) | exact Or.inr (fun z => absurd (ft_4 hThm1 z) (by clear V hS hl C9 hts hown hx hb hml hr hlk; decide))⟩) dX12_fits_94
    · refine lv_iload_n hx hb dX12_fits_83 rfl (lv_at hl 1 rfl) ?_
      refine lv_bipush (v := 100) hx hb dX12_fits_84 (by decide) ?_
      refine lv_icmp_gt (tgt := 93) hx hb dX12_fits_86 (by decide) (fun c10 => ?_) (fun c10 => ?_)
      · refine lv_iconst (v := 0) hx hb dX12_fits_93 (by decide) ?_
        exact cRetZ C9 hr hlk hN hNs V I hS (by clear V hS hl C9 hts hown hx hb hml hr hlk; first | rfl | decide | (subst_vars; rfl)) (⟨rfl, by first | exact Or.inl rfl | exact Or.inr (fun _ => ⟨ci_le c9, ci_le c10⟩) | exact Or.inr (fun z => absurd (ft_4 hThm1 z) (by clear V hS hl C9 hts hown hx hb hml hr hlk; decide))⟩) dX12_fits_94
      · refine lv_iconst (v := 1) hx hb dX12_fits_89 (by decide) ?_
        refine lv_goto (tgt := 94) hx hb dX12_fits_90 (by decide) ?_
        exact cRetZ C9 hr hlk hN hNs V I hS (by clear V hS hl C9 hts hown hx hb hml hr hlk; first | rfl | decide | (subst_vars; rfl)) (⟨rfl, by first | exact Or.inl rfl | exact Or.inr (fun _ => ⟨ci_le c9, ci_le c10⟩) | exact Or.inr (fun z => absurd (ft_4 hThm1 z) (by clear V hS hl C9 hts hown hx hb hml hr hlk; decide))⟩) dX12_fits_94
  exact absurd hm1 List.not_mem_nil

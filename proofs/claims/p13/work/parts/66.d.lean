theorem mk_hz {X : xS} {r k x : Int32} (e : r = FC_X12_fits X k x) (h : r ≠ 0) : k = 4 → 1 ≤ x ∧ x ≤ 100 := by
  rcases fits_e (X := X) (k := k) (x := x) with ⟨a, -⟩ | ⟨-, b⟩
  · exact a.2.2.2.2
  · exact absurd (e.trans b) h
set_option maxHeartbeats 200000 in
set_option maxRecDepth 100000 in
theorem c_X12_make (l : Launch) (D : va_G) (ks : kS) (τ : Nat → Nat) (L : List Nat) (A : Nat → Prop) (N : State → Prop) (hN : cNk A N) (κ : kC) (hN0 : ∀ U, N U → N0 κ A U) (hlt : l.stackTraces = false) (ψ : Int32) (f : Nat → va_E) (o0 : Nat) (i1 : Int32) (i2 : Int32) (t_o0 : ty τ L o0 9) : vx_Met l yX12_make (Cond.code yX12_make cX12_make 4 (some .int) :: tC) ({ frames := 7, cells := 5, slots := 116, locals := 108 }) (va_Pc [.ref o0, .int i1, .int i2] (cB D ks τ L A N (ψ, f))) (va_Qi (fun r9 x9 => FC_X12_fits (view f) i1 i2 ≠ 0 ∧ (0 ≤ r9 ∧ r9 < 24) ∧ (∃ f6 f9 y9 a9, (r9, view f6) = FC_X12_leastFree (view f) o0 ∧ gW τ L f6 x9.2.1 x9.2.2 f9 ∧ nOb L x9.2.1 x9.2.2 f9 y9 r9 i1 i2 ∧ xR (view f6) o0 1 = some a9 ∧ view x9.1 = xwQ (view f9) a9 r9 (some y9)) ∧ (∀ b, b ∈ L → b ∈ x9.2.2 ∧ x9.2.1 b = τ b) ∧ ∀ b, b ∈ x9.2.2 → b ∉ L → x9.2.1 b ≠ 8) (cBn D ks A N ψ) A) (cX D ks τ L A ["java/lang/IllegalArgumentException", "java/lang/IllegalStateException"] (fun e9 x9 => x9.1 = ψ ∧ ((e9 = "java/lang/IllegalArgumentException" ∧ FC_X12_fits (view f) i1 i2 = 0 ∧ view x9.2 = view f) ∨ (e9 = "java/lang/IllegalStateException" ∧ FC_X12_fits (view f) i1 i2 ≠ 0 ∧ ∃ r8, (r8 < 0 ∨ 24 ≤ r8) ∧ (r8, view x9.2) = FC_X12_leastFree (view f) o0)))) 5 116 A := by
  refine cMetX (own := RX12) (by decide) rfl (Nat.le_of_ble_eq_true rfl) ?_
  intro p e s m below meth c ls C9 hml hr hlk hET V I hNs hl
  have hx := C9.1
  have hb := C9.2.1
  have hown := C9.2.2.1
  have hts := C9.2.2.2.1
  have h0 := hN0 s hNs
  have hS : va_S A s.heap s.heap [] := va_S.rf
  have hl : lv_has ls 4 [(0, .ref o0), (1, .int i1), (2, .int i2)] := hl
  refine lv_iload_n hx hb dX12_make_0 rfl (lv_at hl 1 rfl) ?_
  refine lv_iload_n hx hb dX12_make_1 rfl (lv_at hl 2 rfl) ?_
  refine cGoI (cRunS (As := [.int i1, .int i2]) (rest := []) C9 hml hN hNs V I hS (c_X12_fits l D ks τ L A N hN  ψ f i1 i2  ) gS_X12_53 okC_X12_fits ⟨rfl, rfl, Nat.le_of_ble_eq_true rfl, Nat.le_of_ble_eq_true rfl⟩ hl.1 rfl (Nat.le_of_ble_eq_true rfl) dX12_make_2 ⟨Nat.le_of_ble_eq_true rfl, Nat.le_of_ble_eq_true rfl⟩) hS (fun r3 p2 f1 H locs hqf1 V I hS => ?_)
  have V : cV D L f A H := by rw [show f1 = f from congrArg Prod.snd hqf1.1] at V; exact V
  have I : cI ks τ L ψ f := by rw [show f1 = f from congrArg Prod.snd hqf1.1, show p2 = ψ from congrArg Prod.fst hqf1.1] at I; exact I
  refine lv_if_ne (tgt := 18) hx hb dX12_make_5 (by decide) (fun c4 => ?_) (fun c4 => ?_)
  · refine lv_aload_n hx hb dX12_make_18 rfl (lv_at hl 0 rfl) ?_
    obtain ⟨v5_0, v5_1, v5_2, v5_3, v5_4, v5_5, hf5, t5_0, t5_1, t5_2⟩ := op9 I t_o0
    refine cGoI (cRunV (As := []) (rest := []) C9 hml hN hNs V I hS t_o0.1 hf5 rfl (c_X12_leastFree l D ks τ L A N hN  ψ f o0 t_o0 ) gC_X12_59 okC_X12_leastFree ⟨rfl, rfl, Nat.le_of_ble_eq_true rfl, Nat.le_of_ble_eq_true rfl⟩ hl.1 rfl (Nat.le_of_ble_eq_true rfl) dX12_make_19 ⟨Nat.le_of_ble_eq_true rfl, Nat.le_of_ble_eq_true rfl⟩) hS (fun r8 p7 f6 H locs hqf6 V I hS => ?_)
    have I : cI ks τ L ψ f6 := by rw [show p7 = ψ from hqf6.1] at I; exact I
    refine lv_istore_n (lv' := [(3, .int r8), (0, .ref o0), (1, .int i1), (2, .int i2)]) hx hb dX12_make_22 rfl hl (by decide) rfl (fun ls hl => ?_)
    refine lv_iload_n hx hb dX12_make_23 rfl (lv_at hl 0 rfl) ?_
    refine lv_if_lt (tgt := 36) hx hb dX12_make_24 (by decide) (fun c9 => ?_) (fun c9 => ?_)
    · exact cThr (text := "full") (names := xNm) C9 h0 V I hS hlt hET hlk hml hl.1 (xw_63_67 hts h0) (by simp [nMs]) (by simp) (⟨rfl, Or.inr ⟨rfl, (by rw [← hqf1.2]; exact c4), r8, Or.inl c9, hqf6.2⟩⟩) ⟨Nat.le_of_ble_eq_true rfl, Nat.le_of_ble_eq_true rfl, Nat.le_of_ble_eq_true rfl, Nat.le_of_ble_eq_true rfl⟩ ⟨Nat.le_of_ble_eq_true rfl, Nat.le_of_ble_eq_true rfl⟩ dX12_make_36 dX12_make_39 dX12_make_40 dX12_make_42 dX12_make_45
    · refine lv_iload_n hx hb dX12_make_27 rfl (lv_at hl 0 rfl) ?_
      refine lv_aload_n hx hb dX12_make_28 rfl (lv_at hl 1 rfl) ?_
      obtain ⟨v10_0, v10_1, v10_2, v10_3, v10_4, v10_5, hf10, t10_0, t10_1, t10_2⟩ := op9 I t_o0
      refine cG C9 V t_o0.1 hf10 rfl tC_lay9 1 (by decide) tCf_X12_18 (Or.inl rfl) rfl dX12_make_29 ?_
      obtain ⟨g11, hf11, hg11⟩ := op15 I t10_1
      refine cAl (t0 := 3) (v := 24) C9 V t10_1.1 hf11 rfl (by first | rfl | decide) dX12_make_32 ?_
      refine lv_icmp_lt (tgt := 46) hx hb dX12_make_33 (by decide) (fun c12 => ?_) (fun c12 => ?_)
      · refine lv_aload_n hx hb dX12_make_46 rfl (lv_at hl 1 rfl) ?_
        refine cG C9 V t_o0.1 hf10 rfl tC_lay9 1 (by decide) tCf_X12_18 (Or.inl rfl) rfl dX12_make_47 ?_
        refine lv_iload_n hx hb dX12_make_50 rfl (lv_at hl 0 rfl) ?_
        refine lv_iload_n hx hb dX12_make_51 rfl (lv_at hl 0 rfl) ?_
        refine lv_iload_n hx hb dX12_make_52 rfl (lv_at hl 2 rfl) ?_
        refine lv_iload_n hx hb dX12_make_53 rfl (lv_at hl 3 rfl) ?_
        refine cGoNq (cRunSN (As := [.int r8, .int i1, .int i2]) (rest := [.int r8, .ref v10_1]) C9 hml hN hNs V I hS (c_X12_built l D ks τ L A N hN κ hN0 ψ f6 r8 i1 i2 (mk_hz hqf1.2 c4)) gS_X12_68 okC_X12_built ⟨rfl, rfl, Nat.le_of_ble_eq_true rfl, Nat.le_of_ble_eq_true rfl⟩ hl.1 rfl (Nat.le_of_ble_eq_true rfl) dX12_make_54 ⟨Nat.le_of_ble_eq_true rfl, Nat.le_of_ble_eq_true rfl⟩) hS (fun r9 f9 τ9 L9 H locs hp9 V I hS => ?_)
        have I : cI ks τ9 L9 ψ f9 := I
        have V : cV D L9 f9 A H := V
        have gw : gW τ L f6 τ9 L9 f9 := hp9.1
        obtain ⟨y9, ey9, hy9, hO9⟩ : ∃ y9, r9 = some y9 ∧ tyS τ9 L9 y9 ∧ nOb L τ9 L9 f9 y9 r8 i1 i2 := hp9.2
        subst ey9
        have ta9 := gW.ty gw t10_1
        refine W.eq (g2 := F0 m 57 ls [.ref y9, .int r8, .ref v10_1]) rfl ?_
        obtain ⟨g13, hf13, hg13⟩ := op15 I ta9
        refine cSt C9 h0 V I hS ta9.1 hf13 hy9 (cvin (N := 24) rfl (ci_le c9) (c12)) dX12_make_57 (fun f8 H locs ef8 V hS => ?_)
        have hg8 := tySO_up (i := Int32.toNatClampNeg r8) (v := some y9) hg13 (tySO_s hy9)
        have I := cI_up I ta9.2 ef8 (mk15 hg8)
        refine lv_iload_n hx hb dX12_make_58 rfl (lv_at hl 0 rfl) ?_
        exact cRx (Nat.le_of_ble_eq_true rfl) (Nat.le_of_ble_eq_true rfl) (cRetNi C9 hr hlk hN hNs V I hS ⟨by rw [← hqf1.2]; exact c4, ⟨Int32.not_lt.mp c9, c12⟩, ⟨f6, f9, y9, v10_1, hqf6.2, gw, hO9, by simp [xR, view, eR, hf10], view_Q hf13 ef8⟩, fun b hb => ⟨(gw.1 b hb).1, (gw.1 b hb).2.1⟩, gw.2⟩ dX12_make_59)
      · exact cThr (text := "full") (names := xNm) C9 h0 V I hS hlt hET hlk hml hl.1 (xw_63_67 hts h0) (by simp [nMs]) (by simp) (⟨rfl, Or.inr ⟨rfl, (by rw [← hqf1.2]; exact c4), r8, Or.inr (Int32.not_lt.mp c12), hqf6.2⟩⟩) ⟨Nat.le_of_ble_eq_true rfl, Nat.le_of_ble_eq_true rfl, Nat.le_of_ble_eq_true rfl, Nat.le_of_ble_eq_true rfl⟩ ⟨Nat.le_of_ble_eq_true rfl, Nat.le_of_ble_eq_true rfl⟩ dX12_make_36 dX12_make_39 dX12_make_40 dX12_make_42 dX12_make_45
  · exact cThr (text := "kind or a is out of range") (names := xNm) C9 h0 V I hS hlt hET hlk hml hl.1 (xw_48_52 hts h0) (by simp [nMs]) (by simp) (⟨rfl, Or.inl ⟨rfl, (by rw [← hqf1.2]; first | exact c4 | exact Classical.not_not.mp c4), rfl⟩⟩) ⟨Nat.le_of_ble_eq_true rfl, Nat.le_of_ble_eq_true rfl, Nat.le_of_ble_eq_true rfl, Nat.le_of_ble_eq_true rfl⟩ ⟨Nat.le_of_ble_eq_true rfl, Nat.le_of_ble_eq_true rfl⟩ dX12_make_8 dX12_make_11 dX12_make_12 dX12_make_14 dX12_make_17

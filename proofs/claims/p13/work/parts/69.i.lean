/-! the law from its entry -/
theorem okM_init : (MethodName.cls yX13_init) ≠ "java/lang/invoke/MethodHandle" ∧ (MethodName.cls yX13_init) ≠ "java/lang/invoke/VarHandle" ∧ (parseMethodDescriptor (MethodName.desc yX13_init)).map (fun d => d.parameters.length) = some 0 := by decide +kernel
theorem dfl_X13 : ∀ j, j < 38 → defaultValue (tyX13 j) = vp_V miF0 j := by
  intro j hj
  match j, hj with
  | 0, _ => rfl
  | 1, _ => rfl
  | 2, _ => rfl
  | 3, _ => rfl
  | 4, _ => rfl
  | 5, _ => rfl
  | 6, _ => rfl
  | 7, _ => rfl
  | 8, _ => rfl
  | 9, _ => rfl
  | 10, _ => rfl
  | 11, _ => rfl
  | 12, _ => rfl
  | 13, _ => rfl
  | 14, _ => rfl
  | 15, _ => rfl
  | 16, _ => rfl
  | 17, _ => rfl
  | 18, _ => rfl
  | 19, _ => rfl
  | 20, _ => rfl
  | 21, _ => rfl
  | 22, _ => rfl
  | 23, _ => rfl
  | 24, _ => rfl
  | 25, _ => rfl
  | 26, _ => rfl
  | 27, _ => rfl
  | 28, _ => rfl
  | 29, _ => rfl
  | 30, _ => rfl
  | 31, _ => rfl
  | 32, _ => rfl
  | 33, _ => rfl
  | 34, _ => rfl
  | 35, _ => rfl
  | 36, _ => rfl
  | 37, _ => rfl
  | j + 38, h => exact absurd h (by omega)
theorem t_in_X1 : Cond.instantiable RX1 5 ∈ lw_tbl := List.mem_of_getElem? (i := 488) (by decide +kernel)
theorem t_in_X2 : Cond.instantiable RX2 5 ∈ lw_tbl := List.mem_of_getElem? (i := 472) (by decide +kernel)
theorem t_in_X3 : Cond.instantiable RX3 4 ∈ lw_tbl := List.mem_of_getElem? (i := 504) (by decide +kernel)
theorem t_in_X4 : Cond.instantiable RX4 7 ∈ lw_tbl := List.mem_of_getElem? (i := 368) (by decide +kernel)
theorem t_in_X5 : Cond.instantiable RX5 6 ∈ lw_tbl := List.mem_of_getElem? (i := 453) (by decide +kernel)
theorem t_in_X6 : Cond.instantiable RX6 2 ∈ lw_tbl := List.mem_of_getElem? (i := 377) (by decide +kernel)
theorem t_in_X7 : Cond.instantiable RX7 4 ∈ lw_tbl := List.mem_of_getElem? (i := 440) (by decide +kernel)
theorem t_in_X8 : Cond.instantiable RX8 13 ∈ lw_tbl := List.mem_of_getElem? (i := 138) (by decide +kernel)
theorem t_in_X10 : Cond.instantiable RX10 6 ∈ lw_tbl := List.mem_of_getElem? (i := 104) (by decide +kernel)
theorem t_in_X12 : Cond.instantiable RX12 6 ∈ lw_tbl := List.mem_of_getElem? (i := 96) (by decide +kernel)
theorem t_in_X13 : Cond.instantiable RX13 38 ∈ lw_tbl := List.mem_of_getElem? (i := 1034) (by decide +kernel)
theorem t_c8 : Cond.classLink RL 8 RX12 ∈ lw_tbl := List.mem_of_getElem? (i := 95) (by decide +kernel)
theorem t_c63 : Cond.classLink RL 63 RX13 ∈ lw_tbl := List.mem_of_getElem? (i := 1033) (by decide +kernel)
theorem t_iX12 : Cond.initialized RX12 ∈ lw_tbl := List.mem_of_getElem? (i := 68) (by decide +kernel)
theorem t_iX13 : Cond.initialized RX13 ∈ lw_tbl := List.mem_of_getElem? (i := 71) (by decide +kernel)
theorem t_m62 : Cond.methodLink RL 62 yX12_init ∈ lw_tbl := List.mem_of_getElem? (i := 97) (by decide +kernel)
theorem t_m65 : Cond.methodLink RL 65 yX13_init ∈ lw_tbl := List.mem_of_getElem? (i := 1035) (by decide +kernel)
theorem t_n12 : Cond.instanceMethod yX12_init ∈ lw_tbl := List.mem_of_getElem? (i := 98) (by decide +kernel)
theorem t_n13 : Cond.instanceMethod yX13_init ∈ lw_tbl := List.mem_of_getElem? (i := 1036) (by decide +kernel)
set_option maxRecDepth 100000 in
theorem t_k12 : Cond.code yX12_init cX12_init 2 none ∈ lw_tbl := List.mem_of_getElem? (i := 99) rfl
set_option maxRecDepth 100000 in
theorem t_k13 : Cond.code yX13_init cX13_init 1 none ∈ lw_tbl := List.mem_of_getElem? (i := 1037) rfl
theorem t_ac_byte : Cond.arrayClass .byte ∈ lw_tbl := List.mem_of_getElem? (i := 133) (by decide +kernel)
theorem t_ac_int : Cond.arrayClass .int ∈ lw_tbl := List.mem_of_getElem? (i := 132) (by decide +kernel)
theorem t_ac_long : Cond.arrayClass .long ∈ lw_tbl := List.mem_of_getElem? (i := 1188) (by decide +kernel)
theorem t_ac_boolean : Cond.arrayClass .boolean ∈ lw_tbl := List.mem_of_getElem? (i := 1189) (by decide +kernel)
theorem t_acl : Cond.arrayClass (newarray.typeOf .long) ∈ lw_tbl := t_ac_long
theorem lG_c {w : Cond} {T : List Cond} (hT : ∀ w ∈ T, w ∈ lw_tbl) (hg : GoodIn T T) (h : w ∈ lw_tbl) (hw : goodWord w = true) : GoodIn lw_tbl (w :: T) := fun x hx => by
  rcases List.mem_cons.mp hx with rfl | z
  · exact ⟨h, good_of_word hw⟩
  · exact ⟨hT _ z, (hg _ z).2⟩
theorem aK {args : Array Value} {s : State} {t : FieldType} (h : (Cond.arrayClass t).before args s = true) (ht : ∀ cA : ClassId, s.vm.findClass ("[" ++ t.toString) = some cA → va_RA s cA t) : ∃ cA : ClassId, ArrOfT s cA t ∧ va_RA s cA t := by
  obtain ⟨c, k, comp, h1, h2, h3⟩ := Cond.arrayClass_spec (args := args) (first := s) (o := none) (idx := []) h
  exact ⟨c, fun n z => ⟨fun k h => (by cases h), k, h2, comp, h3⟩, ht c h1⟩
theorem aKo {args : Array Value} {s : State} {C : String} (h : (Cond.arrayOver (.object C)).before args s = true) : ∃ cA : ClassId, ArrOfT s cA (.object C) ∧ va_RA s cA (.object C) := by
  obtain ⟨comp, c, k, h1, -, h2, h3, h4⟩ := Cond.arrayOver_spec (args := args) (first := s) (o := none) (idx := []) h
  exact ⟨c, fun n z => ⟨fun k h => (by cases h), k, h2, comp, h3⟩, k, comp, h2, h3, h1, h4⟩
theorem kD {args : Array Value} {s : State} (hts : ∀ w ∈ lw_tbl, w.before args s = true) : ∃ D : va_G, ∀ (k : Nat) (q : vw_C), vwCl[k]? = some q → u_Kn s q.1 q.2.1 q.2.2 (D.1 k) (D.2 k) := by
  obtain ⟨c0, i0, h0⟩ := u_known (C := RX1) (T := TX1) (N := 5) (n := 5) hts lT_wsX10 (hts _ t_in_X1)
  obtain ⟨c1, i1, h1⟩ := u_known (C := RX2) (T := TX2) (N := 5) (n := 5) hts lT_wsX20 (hts _ t_in_X2)
  obtain ⟨c2, i2, h2⟩ := u_known (C := RX3) (T := TX3) (N := 4) (n := 4) hts lT_wsX30 (hts _ t_in_X3)
  obtain ⟨c3, i3, h3⟩ := u_known (C := RX4) (T := TX4) (N := 7) (n := 7) hts lT_wsX40 (hts _ t_in_X4)
  obtain ⟨c4, i4, h4⟩ := u_known (C := RX5) (T := TX5) (N := 6) (n := 6) hts lT_wsX50 (hts _ t_in_X5)
  obtain ⟨c5, i5, h5⟩ := u_known (C := RX6) (T := TX6) (N := 2) (n := 2) hts lT_wsX60 (hts _ t_in_X6)
  obtain ⟨c6, i6, h6⟩ := u_known (C := RX7) (T := TX7) (N := 4) (n := 4) hts lT_wsX70 (hts _ t_in_X7)
  obtain ⟨c7, i7, h7⟩ := u_known (C := RX8) (T := TX8) (N := 13) (n := 13) hts lT_wsX80 (hts _ t_in_X8)
  obtain ⟨c8, i8, h8⟩ := u_known (C := RX10) (T := TX10) (N := 6) (n := 6) hts lT_wsX100 (hts _ t_in_X10)
  obtain ⟨c9, i9, h9⟩ := u_known (C := RX12) (T := TX12) (N := 6) (n := 6) hts lT_wsX120 (hts _ t_in_X12)
  obtain ⟨c10, i10, h10⟩ := u_known (C := RX13) (T := TX13) (N := 38) (n := 38) hts lT_wsX130 (hts _ t_in_X13)
  refine ⟨(fun k => if k = 0 then c0 else if k = 1 then c1 else if k = 2 then c2 else if k = 3 then c3 else if k = 4 then c4 else if k = 5 then c5 else if k = 6 then c6 else if k = 7 then c7 else if k = 8 then c8 else if k = 9 then c9 else c10, fun k => if k = 0 then i0 else if k = 1 then i1 else if k = 2 then i2 else if k = 3 then i3 else if k = 4 then i4 else if k = 5 then i5 else if k = 6 then i6 else if k = 7 then i7 else if k = 8 then i8 else if k = 9 then i9 else i10), ?_⟩
  intro k q hq
  match k, hq with
  | 0, hq => cases hq; exact h0
  | 1, hq => cases hq; exact h1
  | 2, hq => cases hq; exact h2
  | 3, hq => cases hq; exact h3
  | 4, hq => cases hq; exact h4
  | 5, hq => cases hq; exact h5
  | 6, hq => cases hq; exact h6
  | 7, hq => cases hq; exact h7
  | 8, hq => cases hq; exact h8
  | 9, hq => cases hq; exact h9
  | 10, hq => cases hq; exact h10
  | k + 11, hq => simp at hq
theorem kT {s : State} {D : va_G} (hD : ∀ (k : Nat) (q : vw_C), vwCl[k]? = some q → u_Kn s q.1 q.2.1 q.2.2 (D.1 k) (D.2 k)) {tys : List (ClassId × FieldType)} (h : ∀ q ∈ tys, ArrOfT s q.1 q.2 ∧ va_RA s q.1 q.2) : va_K D vwCl tys s := ⟨hD, fun k q hk => h q (List.mem_of_getElem? hk)⟩
theorem nil_P {D : va_G} {cl : List vw_C} {H : Heap} : va_P D cl [] H := fun k q h => by simp at h
theorem nil_D {A : Nat → Prop} : va_D A [] := ⟨fun i j p q h => by simp at h, fun k q h => by simp at h⟩
theorem lt34 {x : Int32} (h0 : 0 ≤ x) (h : x < 34) : x.toNatClampNeg < 34 := by
  have e1 : (0 : Int32).toInt = 0 := by decide
  have e2 : (34 : Int32).toInt = 34 := by decide
  rw [Int32.le_iff_toInt_le, e1] at h0
  rw [Int32.lt_iff_toInt_lt, e2] at h
  show x.toInt.toNat < 34
  omega
set_option maxHeartbeats 2000000 in
set_option maxRecDepth 100000 in
theorem whole_start {p : Program} {e : Env} {s : State} {m : MethodId} {below : List Frame} {meth : Method} {c : Code} (l : Launch) (hlt : l.stackTraces = false) {b L : Nat} {xs : Nat → Int32} (hL : L ≤ 3072) (C0 : lw_At p s m meth c b L xs) : W p l e room_1 s m #[Value.ref b] below meth c s.heap [] 0 0 (lw_Z below #[Value.ref b] s) (entryFrame m ([Value.ref b] : List Value).toArray 8) := by
  obtain ⟨hx, hb, hr, hml, hown, hts, hX, hbl, hlk, hgv⟩ := id C0
  have hs : ∀ w ∈ nF, w.before #[Value.ref b] s = true := flat_of_before _ hgv
  obtain ⟨κ, hN0, hNx⟩ := N0_start hs hts
  obtain ⟨D, hD⟩ := kD hts
  obtain ⟨kb, hkb⟩ := aK (hts _ t_ac_byte) (fun _ h => h)
  obtain ⟨ki, hki⟩ := aK (hts _ t_ac_int) (fun _ h => h)
  obtain ⟨kl, hkl⟩ := aK (hts _ t_ac_long) (fun _ h => h)
  obtain ⟨kz, hkz⟩ := aK (hts _ t_ac_boolean) (fun _ h => h)
  obtain ⟨kt, hkt⟩ := aKo (hts _ t_a1)
  obtain ⟨ky, hky⟩ := aKo (hts _ t_a2)
  have hK : va_K D vwCl (cT (kb, ki, kt, ky)) s := kT hD (fun q hq => by
    simp only [List.mem_cons, List.not_mem_nil, or_false] at hq
    rcases hq with rfl | rfl | rfl | rfl
    · exact hkb
    · exact hki
    · exact hkt
    · exact hky)
  have hKm : va_K D vwCl (mT (ki, kl, kz)) s := kT hD (fun q hq => by
    simp only [List.mem_cons, List.not_mem_nil, or_false] at hq
    rcases hq with rfl | rfl | rfl
    · exact hki
    · exact hkl
    · exact hkz)
  have C : lC p s m c b D (kb, ki, kt, ky) (ki, kl, kz) κ := ⟨hx, hb, hown, hml, hts, hK, hKm, hN0, hNx⟩
  have hA : ∀ q : Nat, s.heap.size ≤ q → l0 s.heap.size q := fun _ h => h
  have hS : va_S (l0 s.heap.size) s.heap s.heap [] := va_S.rf
  have hl := lv_entry ([.ref b]) (n := 8) (Nat.le_of_ble_eq_true rfl)
  rw [lg_entry_eq]
  generalize (lg_sl ([.ref b]) ++ List.replicate (8 - (lg_sl ([.ref b])).length) Slot.unset).toArray = ls at hl ⊢
  have hl : lv_has ls 8 [(0, .ref b)] := hl
  -- the class
  refine va_new (ci := 9) (fs := [.null, .null, .null, .long 0, .long 0, .int 0]) (C := RX12) (T := TX12) (N := 6) hx hb hts lT_wsX120 tyX12 tyX12_ok hown (hts _ t_c8) (hts _ t_in_X12) (hts _ t_iX12) hK (nil_P (H := s.heap)) (nil_D (A := l0 s.heap.size)) hS hA rfl dfl_X12 (Nat.le_of_ble_eq_true rfl) (Nat.le_of_ble_eq_true rfl) dL_law_0 (fun ox H hP hDD hS => ?_)
  obtain ⟨τ1, L1, f1, g1, g2, g3, g4, V, I⟩ := grow (L := []) (f := fun _ => .inr (0, [])) (τ := fun _ => 99) (ks := (kb, ki, kt, ky)) (ψ := 0) (k := 99) hP hDD (fun a h => nomatch h) (fun _ _ => cOk99) (by decide)
  refine lv_dup hx hb dL_law_3 rfl ?_
  refine va_callv (va_runI (As := []) (rest := [.ref ox]) ⟨hx, hb, hml, hown, hts⟩ (c_X12_init l D (kb, ki, kt, ky) τ1 L1 (l0 s.heap.size) (N0 κ (l0 s.heap.size)) N0_k κ (fun _ h => h) f1 ox g3 g4 (fun a ha => g1.2 a ha (fun h => nomatch h))) (cwI 0 hts (lG_c lT_C tC_self t_k12 rfl) rfl rfl rfl (hts _ t_iX12) (hts _ t_m62) (hts _ t_n12) rfl okN_X12_init.2 ⟨Nat.le_of_ble_eq_true rfl, Nat.le_of_ble_eq_true rfl⟩)
    ⟨cblind N0_k, fun U hU hW => ⟨rfl, by rw [hU]; exact V, I, va_K.moved hW.alike hK, cNt (A := l0 s.heap.size) N0_k hN0 hS hU hW⟩⟩ rfl rfl hl.1 rfl (lv_room (Nat.le_of_ble_eq_true rfl)) dL_law_4 ⟨Nat.le_of_ble_eq_true rfl, Nat.le_of_ble_eq_true rfl⟩) hS (fun q _ h => h) (fun q h => h) (fun u t H1 locs1 ht al hp hB hz hk9 hS1 => ?_)
  obtain ⟨f2, τ2, L2⟩ := u
  have hox : ty τ2 L2 ox 9 := hp.1
  obtain ⟨tp, sy, st9, g9, tk1, tk2, tk3, tk4, tk5, tk6⟩ := hp.2.1
  have huq : ∀ a b, ty τ2 L2 a 8 → ty τ2 L2 b 8 → a = b := hp.2.2
  have V2 : cV D L2 f2 (l0 s.heap.size) H1 := by rw [← ht]; exact hB.1
  have I2 : cI (kb, ki, kt, ky) τ2 L2 0 f2 := hB.2.1
  refine lv_astore_n (lv' := [(1, .ref ox), (0, .ref b)]) hx hb dL_law_7 rfl hl (by decide) rfl (fun ls hl => ?_)
  refine va_forget (fun q hq => hS1.2.2 q hq) ?_
  have hSz : s.heap.size ≤ H1.size := hS1.1
  have hSk := hS1.2.1
  -- the reference
  have hSm : va_S (l0 H1.size) H1 H1 [] := va_S.rf
  refine va_new (ci := 10) (fs := miF0) (C := RX13) (T := TX13) (N := 38) hx hb hts lT_wsX130 tyX13 tyX13_ok hown (hts _ t_c63) (hts _ t_in_X13) (hts _ t_iX13) hKm (nil_P (H := H1)) (nil_D (A := l0 H1.size)) hSm (fun q h => h) rfl dfl_X13 (Nat.le_of_ble_eq_true rfl) (Nat.le_of_ble_eq_true rfl) dL_law_8 (fun om H2 hP2 hD2 hS2 => ?_)
  refine lv_dup hx hb dL_law_11 rfl ?_
  refine va_callv (va_runI (As := []) (rest := [.ref om]) ⟨hx, hb, hml, hown, hts⟩ (c_init l D (ki, kl, kz) om (l0 H1.size)) (cwI 0 hts (lG_c lT_M tM_self t_k13 rfl) rfl rfl rfl (hts _ t_iX13) (hts _ t_m65) (hts _ t_n13) rfl okM_init ⟨Nat.le_of_ble_eq_true rfl, Nat.le_of_ble_eq_true rfl⟩)
    ⟨fun a U gf mk q => ⟨q.1, q.2.1, va_K.moved (u := U) (U := U.calling gf mk a) (Vm.Alike.refl U.vm) q.2.2.1, q.2.2.2⟩, fun U hU hW => ⟨rfl, by rw [hU]; exact ⟨hP2, hD2⟩, va_K.moved hW.alike hKm, fun q hq => Nat.le_trans hS2.1 (by rw [← hU]; exact hq)⟩⟩ rfl rfl hl.1 rfl (lv_room (Nat.le_of_ble_eq_true rfl)) dL_law_12 ⟨Nat.le_of_ble_eq_true rfl, Nat.le_of_ble_eq_true rfl⟩) hS2 (fun q _ h => h) (fun q h => h) (fun u t H3 locs3 ht3 al3 hp3 hB3 hz3 hk3 hS3 => ?_)
  obtain ⟨ad, S⟩ := u
  have hinv : mInv S := hB3.2.1
  have h20 : gI S 2 = 0 := hB3.2.2.1
  obtain ⟨gw, eS, hgw⟩ := hB3.2.2.2
  have eS : S = mS0 gw := eS
  obtain ⟨aX, hax, hsim⟩ := Sim_0 (ks := (kb, ki, kt, ky)) (S := S) hinv (by rw [eS]; exact fun _ _ => rfl) h20 (by rw [eS]; rfl) (by rw [eS]; exact fun _ => rfl) (by rw [eS]; exact fun _ => rfl) (by rw [eS]; exact fun k k0 k1 => hgw _ (lt34 k0 k1)) hox tk2 tk3 tk4 tk1 tk5 tk6
  have M3 : mV D (ki, kl, kz) om ad (l0 H1.size) S H3 := by rw [← ht3]; exact hB3.1.1
  refine lv_astore_n (lv' := [(2, .ref om), (1, .ref ox), (0, .ref b)]) hx hb dL_law_15 rfl hl (by decide) rfl (fun ls hl => ?_)
  refine va_forget (fun q hq => Nat.le_trans hSz (hS3.2.2 q hq)) ?_
  -- the answers' cell
  refine lv_iconst (v := 1) hx hb dL_law_16 (by decide) ?_
  have hSo : va_S (l0 H3.size) H3 H3 [] := va_S.rf
  refine va_newa (a0 := (1, .inr (.inl (fun _ => 0)))) (N' := 1) hx hb (hts _ t_acl) rfl hKm (nil_P (H := H3)) (nil_D (A := l0 H3.size)) hSo (fun q h => h) (fun _ => rfl) (by decide) (by decide) (by decide) (Nat.le_of_ble_eq_true rfl) (Nat.le_of_ble_eq_true rfl) dL_law_17 (fun ao cA H4 hK4 hP4 hD4 hS4 => ?_)
  have ec : cA = kl := Option.some.inj (((hK4.2 3 (cA, .long) rfl).2 : s.vm.findClass ("[" ++ FieldType.long.toString) = some cA).symm.trans hkl.2)
  subst ec
  have hao : H3.size ≤ ao := hD4.2 0 _ rfl
  have hao4 : ao < H4.size := (hP4 0 _ rfl).lt
  have h13 : H1.size ≤ H3.size := hS3.1
  have k34 : ∀ q : Nat, q < H3.size → H4[q]? = H3[q]? := fun q hq => hS4.2.1 q hq (fun z => Nat.not_le.mpr hq z)
  have k13 : ∀ q : Nat, q < H1.size → H3[q]? = H1[q]? := fun q hq => hS3.2.1 q hq (fun z => Nat.not_le.mpr hq z)
  have hn : s.heap.size ≤ H1.size ∧ H1.size ≤ ao := ⟨hSz, Nat.le_trans h13 hao⟩
  have X : lW D (kb, ki, kt, ky) (ki, cA, kz) s.heap.size H1.size ao τ2 L2 0 f2 (fun _ => 0) om ad S H4 := by
    refine ⟨⟨V2.1.kept (fun k q hk => ?_), V2.2.weaken (fun k q hk hq => Or.inl ⟨hq, (V2.1 k q hk).lt⟩)⟩, I2, hP4, ⟨M3.1.kept (fun k q hk => k34 q.1 ((M3.1 k q hk).lt)), M3.2.weaken (fun k q hk hq => ⟨hq, Nat.lt_of_lt_of_le ((M3.1 k q hk).lt) hao⟩)⟩⟩
    have hq := (V2.1 k q hk).lt
    rw [k34 q.1 (Nat.lt_of_lt_of_le hq h13), k13 q.1 hq]
  have hS9 : va_S (l0 s.heap.size) s.heap H4 [] := by
    refine ⟨Nat.le_trans hSz (Nat.le_trans h13 hS4.1), fun q h1 h2 => ?_, fun q h => nomatch h⟩
    have a1 : q < H1.size := Nat.lt_of_lt_of_le h1 hSz
    rw [k34 q (Nat.lt_of_lt_of_le a1 h13), k13 q a1]
    exact hSk q h1 h2
  refine lv_astore_n (lv' := [(3, .ref ao), (2, .ref om), (1, .ref ox), (0, .ref b)]) hx hb dL_law_19 rfl hl (by decide) rfl (fun ls hl => ?_)
  refine lv_iconst (v := 0) hx hb dL_law_20 (by decide) ?_
  refine lv_istore (lv' := [(4, .int 0), (3, .ref ao), (2, .ref om), (1, .ref ox), (0, .ref b)]) hx hb dL_law_21 hl (by decide) rfl (fun ls hl => ?_)
  refine cWd (mc := 50 + 5 * 0) (ms := 10789 + 116 * 0) ⟨Nat.le_of_ble_eq_true rfl, Nat.le_of_ble_eq_true rfl⟩ ?_
  exact lLoop l hlt C hr hlk hX hbl hn hL 512 0 H4 [] ls (by decide) (by omega) ⟨τ2, L2, 0, f2, fun _ => 0, S, aX, X, hsim, hax, hox, huq⟩ hS9 (lv_sub hl [4, 3, 2, 1, 0] rfl)

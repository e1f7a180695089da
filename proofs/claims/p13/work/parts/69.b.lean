set_option maxHeartbeats 400000 in
set_option maxRecDepth 100000 in
theorem c_L_feed (l : Launch) (D : va_G) (ks : kS) (τ : Nat → Nat) (L : List Nat) (A : Nat → Prop) (κ : kC) (hlt : l.stackTraces = false) (cL : ClassId) (ao : Nat) (hao : ¬ A ao) (ψ : Int32) (f : Nat → va_E) (g : Nat → Int64) (o0 : Nat) (i1 : Int32) (i2 : Int32) (i3 : Int32) (i4 : Int32) (i5 : Int32) (t_o0 : ty τ L o0 9) (hu : ∀ a b, ty τ L a 8 → ty τ L b 8 → a = b) : Met l yL_feed (Cond.codeWith yL_feed cL_feed 8 (some .int) [(0, 16, 19, 13)] :: tL) ({ frames := 7, cells := 1, slots := 6, locals := 125 }) (va_Pc [.ref o0, .int i1, .int i2, .int i3, .int i4, .int i5, .ref ao] (hB D ks τ L A κ cL ao (ψ, f, g))) (va_Qi (fun r9 x9 => hPo Int32.toInt64 (FC_X12_feed (view f) o0 i1 i2 i3 i4 i5) r9 x9.2.1 x9.2.2) (hB D ks τ L A κ cL ao) (Ah A ao)) 1 6 (Ah A ao) := by
  refine hMet (by decide) rfl (Nat.le_of_ble_eq_true rfl) ?_
  intro p e s m below meth c ls C hml hr hlk hT V I hN hO hl
  have hx := C.1
  have hb := C.2.1
  have hown := C.2.2.1
  have hts := C.2.2.2.1
  have hS : va_S (Ah A ao) s.heap s.heap [] := va_S.rf
  have hl : lv_has ls 8 [(0, .ref o0), (1, .int i1), (2, .int i2), (3, .int i3), (4, .int i4), (5, .int i5), (6, .ref ao)] := hl
  refine lv_aload hx hb dL_feed_0 (lv_at hl 6 rfl) ?_
  refine lv_iconst (v := 0) hx hb dL_feed_2 (by decide) ?_
  refine lv_aload_n hx hb dL_feed_3 rfl (lv_at hl 0 rfl) ?_
  refine lv_iload_n hx hb dL_feed_4 rfl (lv_at hl 1 rfl) ?_
  refine lv_iload_n hx hb dL_feed_5 rfl (lv_at hl 2 rfl) ?_
  refine lv_iload_n hx hb dL_feed_6 rfl (lv_at hl 3 rfl) ?_
  refine lv_iload hx hb dL_feed_7 (lv_at hl 4 rfl) ?_
  refine lv_iload hx hb dL_feed_9 (lv_at hl 5 rfl) ?_
  obtain ⟨tp, sy, st9, ck, sp9, la, hf, -⟩ := op9 I t_o0
  refine hGoI (hRun (As := [.int i1, .int i2, .int i3, .int i4, .int i5]) (rest := [.int 0, .ref ao]) C hml hN V I hS t_o0.1 hf (c_X12_feed l D ks τ L A (nH κ A ao) nH_kA κ nH_0 hlt ψ f o0 i1 i2 i3 i4 i5 t_o0 hu) gH_feed okH_feed ⟨rfl, rfl, Nat.le_of_ble_eq_true rfl, Nat.le_of_ble_eq_true rfl⟩ hl.1 rfl (Nat.le_of_ble_eq_true rfl) dL_feed_11 ⟨Nat.le_of_ble_eq_true rfl, Nat.le_of_ble_eq_true rfl⟩) hS hO hao ?_ ?_
  · intro E ce q9 ψ1 f1 H locs hE hp V I hO hS hc hv hcl
    simp only [List.mem_cons, List.not_mem_nil, or_false] at hE
    rcases hE with rfl
    · refine hc_catch hown [] ⟨0, 16, 19, 13⟩ "java/lang/IndexOutOfBoundsException" [] (by rw [hT]; rfl) (fun z hz => nomatch hz) rfl (by decide) (hts _ tHl13) (hCast hN (by simp [nwL])) hc hv hcl ?_
      refine lv_astore (lv' := [(7, .ref q9), (0, .ref o0), (1, .int i1), (2, .int i2), (3, .int i3), (4, .int i4), (5, .int i5), (6, .ref ao)]) hx hb dL_feed_19 hl (by decide) rfl (fun ls hl => ?_)
      refine lv_iconst (v := 1) hx hb dL_feed_21 (by decide) ?_
      have hz := hp.2.2
      exact hRet C hr hlk hN V I hO hS ⟨_, hz.symm, fun z => absurd z (by decide)⟩ dL_feed_22
  · intro r ψ1 f1 H locs hp V I hO hS
    refine lv_i2l hx hb dL_feed_14 rfl ?_
    refine hSt C V hO hS hao dL_feed_15 (fun g1 H locs hg1 V hO hS => ?_)
    refine lv_goto (tgt := 23) hx hb dL_feed_16 (by decide) ?_
    refine lv_iconst (v := 0) hx hb dL_feed_23 (by decide) ?_
    exact hRet C hr hlk hN V I hO hS ⟨r, hp.2.symm, fun _ => hg1⟩ dL_feed_24
set_option maxHeartbeats 400000 in
set_option maxRecDepth 100000 in
theorem c_L_end (l : Launch) (D : va_G) (ks : kS) (τ : Nat → Nat) (L : List Nat) (A : Nat → Prop) (κ : kC) (hlt : l.stackTraces = false) (cL : ClassId) (ao : Nat) (hao : ¬ A ao) (ψ : Int32) (f : Nat → va_E) (g : Nat → Int64) (o0 : Nat) (i1 : Int32) (t_o0 : ty τ L o0 9) (hu : ∀ a b, ty τ L a 8 → ty τ L b 8 → a = b) : Met l yL_end (Cond.codeWith yL_end cL_end 4 (some .int) [(0, 9, 12, 19)] :: tL) ({ frames := 7, cells := 1, slots := 6, locals := 121 }) (va_Pc [.ref o0, .int i1, .ref ao] (hB D ks τ L A κ cL ao (ψ, f, g))) (va_Qi (fun r9 x9 => hPo Int32.toInt64 (FC_X12_end (view f) o0 i1) r9 x9.2.1 x9.2.2) (hB D ks τ L A κ cL ao) (Ah A ao)) 1 6 (Ah A ao) := by
  refine hMet (by decide) rfl (Nat.le_of_ble_eq_true rfl) ?_
  intro p e s m below meth c ls C hml hr hlk hT V I hN hO hl
  have hx := C.1
  have hb := C.2.1
  have hown := C.2.2.1
  have hts := C.2.2.2.1
  have hS : va_S (Ah A ao) s.heap s.heap [] := va_S.rf
  have hl : lv_has ls 4 [(0, .ref o0), (1, .int i1), (2, .ref ao)] := hl
  refine lv_aload_n hx hb dL_end_0 rfl (lv_at hl 2 rfl) ?_
  refine lv_iconst (v := 0) hx hb dL_end_1 (by decide) ?_
  refine lv_aload_n hx hb dL_end_2 rfl (lv_at hl 0 rfl) ?_
  refine lv_iload_n hx hb dL_end_3 rfl (lv_at hl 1 rfl) ?_
  obtain ⟨tp, sy, st9, ck, sp9, la, hf, -⟩ := op9 I t_o0
  refine hGoI (hRun (As := [.int i1]) (rest := [.int 0, .ref ao]) C hml hN V I hS t_o0.1 hf (c_X12_end l D ks τ L A (nH κ A ao) nH_kA κ nH_0 hlt ψ f o0 i1 t_o0 hu) gH_end okH_end ⟨rfl, rfl, Nat.le_of_ble_eq_true rfl, Nat.le_of_ble_eq_true rfl⟩ hl.1 rfl (Nat.le_of_ble_eq_true rfl) dL_end_4 ⟨Nat.le_of_ble_eq_true rfl, Nat.le_of_ble_eq_true rfl⟩) hS hO hao ?_ ?_
  · intro E ce q9 ψ1 f1 H locs hE hp V I hO hS hc hv hcl
    simp only [List.mem_cons, List.not_mem_nil, or_false] at hE
    rcases hE with rfl
    · refine hc_catch hown [] ⟨0, 9, 12, 19⟩ "java/lang/IllegalArgumentException" [] (by rw [hT]; rfl) (fun z hz => nomatch hz) rfl (by decide) (hts _ tHl19) (hCast hN (by simp [nwL])) hc hv hcl ?_
      refine lv_astore_n (lv' := [(3, .ref q9), (0, .ref o0), (1, .int i1), (2, .ref ao)]) hx hb dL_end_12 rfl hl (by decide) rfl (fun ls hl => ?_)
      refine lv_iconst (v := 1) hx hb dL_end_13 (by decide) ?_
      have hz := hp.2.2
      exact hRet C hr hlk hN V I hO hS ⟨_, hz.symm, fun z => absurd z (by decide)⟩ dL_end_14
  · intro r ψ1 f1 H locs hp V I hO hS
    refine lv_i2l hx hb dL_end_7 rfl ?_
    refine hSt C V hO hS hao dL_end_8 (fun g1 H locs hg1 V hO hS => ?_)
    refine lv_goto (tgt := 15) hx hb dL_end_9 (by decide) ?_
    refine lv_iconst (v := 0) hx hb dL_end_15 (by decide) ?_
    exact hRet C hr hlk hN V I hO hS ⟨r, hp.2.symm, fun _ => hg1⟩ dL_end_16
set_option maxHeartbeats 400000 in
set_option maxRecDepth 100000 in
theorem c_L_make (l : Launch) (D : va_G) (ks : kS) (τ : Nat → Nat) (L : List Nat) (A : Nat → Prop) (κ : kC) (hlt : l.stackTraces = false) (cL : ClassId) (ao : Nat) (hao : ¬ A ao) (ψ : Int32) (f : Nat → va_E) (g : Nat → Int64) (o0 : Nat) (i1 : Int32) (i2 : Int32) (t_o0 : ty τ L o0 9)  : Met l yL_make (Cond.codeWith yL_make cL_make 5 (some .int) [(0, 10, 13, 19), (0, 10, 17, 25)] :: tL) ({ frames := 8, cells := 5, slots := 116, locals := 131 }) (va_Pc [.ref o0, .int i1, .int i2, .ref ao] (hB D ks τ L A κ cL ao (ψ, f, g))) (va_Qi (fun r9 (x9 : nX × (Nat → Int64)) => hMk τ L f o0 i1 i2 r9 x9) (fun (x : nX × (Nat → Int64)) U => hB D ks x.1.2.1 x.1.2.2 A κ cL ao (ψ, x.1.1, x.2) U) (Ah A ao)) 5 116 (Ah A ao) := by
  refine hMet (by decide) rfl (Nat.le_of_ble_eq_true rfl) ?_
  intro p e s m below meth c ls C hml hr hlk hT V I hN hO hl
  have hx := C.1
  have hb := C.2.1
  have hown := C.2.2.1
  have hts := C.2.2.2.1
  have hS : va_S (Ah A ao) s.heap s.heap [] := va_S.rf
  have hl : lv_has ls 5 [(0, .ref o0), (1, .int i1), (2, .int i2), (3, .ref ao)] := hl
  refine lv_aload_n hx hb dL_make_0 rfl (lv_at hl 3 rfl) ?_
  refine lv_iconst (v := 0) hx hb dL_make_1 (by decide) ?_
  refine lv_aload_n hx hb dL_make_2 rfl (lv_at hl 0 rfl) ?_
  refine lv_iload_n hx hb dL_make_3 rfl (lv_at hl 1 rfl) ?_
  refine lv_iload_n hx hb dL_make_4 rfl (lv_at hl 2 rfl) ?_
  obtain ⟨tp, sy, st9, ck, sp9, la, hf, -⟩ := op9 I t_o0
  refine hGoN (hRun (As := [.int i1, .int i2]) (rest := [.int 0, .ref ao]) C hml hN V I hS t_o0.1 hf (c_X12_make l D ks τ L A (nH κ A ao) nH_kA κ nH_0 hlt ψ f o0 i1 i2 t_o0 ) gH_make okH_make ⟨rfl, rfl, Nat.le_of_ble_eq_true rfl, Nat.le_of_ble_eq_true rfl⟩ hl.1 rfl (Nat.le_of_ble_eq_true rfl) dL_make_5 ⟨Nat.le_of_ble_eq_true rfl, Nat.le_of_ble_eq_true rfl⟩) hS hO hao ?_ ?_
  · intro E ce q9 ψ1 f1 H locs hE hp V I hO hS hc hv hcl
    simp only [List.mem_cons, List.not_mem_nil, or_false] at hE
    rcases hE with rfl | rfl
    · refine hc_catch hown [] ⟨0, 10, 13, 19⟩ "java/lang/IllegalArgumentException" [⟨0, 10, 17, 25⟩] (by rw [hT]; rfl) (fun z hz => nomatch hz) rfl (by decide) (hts _ tHl19) (hCast hN (by simp [nwL])) hc hv hcl ?_
      refine lv_astore (lv' := [(4, .ref q9), (0, .ref o0), (1, .int i1), (2, .int i2), (3, .ref ao)]) hx hb dL_make_13 hl (by decide) rfl (fun ls hl => ?_)
      refine lv_iconst (v := 1) hx hb dL_make_15 (by decide) ?_
      have hz := (hp.2.elim (fun z => z) (fun z => absurd z.1 (by decide))).2
      exact hRetN C hr hlk hN V (by rw [show ψ1 = ψ from hp.1] at I; exact I) hO hS ⟨⟨fun b hb => ⟨hb, rfl⟩, fun b h1 h2 => absurd h1 h2⟩, Or.inr (Or.inl ⟨rfl, hz⟩)⟩ dL_make_16
    · refine hc_catch hown [(⟨0, 10, 13, 19⟩, "java/lang/IllegalArgumentException")] ⟨0, 10, 17, 25⟩ "java/lang/IllegalStateException" [] (by rw [hT]; rfl) (fun z hz => by simp only [List.mem_cons, List.not_mem_nil, or_false] at hz; rcases hz with rfl <;> first | exact ⟨rfl, by decide, hts _ tHl19, hN.2.2 (_, _) (by simp [nNx])⟩) rfl (by decide) (hts _ tHl25) (hCast hN (by simp [nwL])) hc hv hcl ?_
      refine lv_astore (lv' := [(4, .ref q9), (0, .ref o0), (1, .int i1), (2, .int i2), (3, .ref ao)]) hx hb dL_make_17 hl (by decide) rfl (fun ls hl => ?_)
      refine lv_iconst (v := 2) hx hb dL_make_19 (by decide) ?_
      have hz := (hp.2.elim (fun z => absurd z.1 (by decide)) (fun z => z)).2
      exact hRetN C hr hlk hN V (by rw [show ψ1 = ψ from hp.1] at I; exact I) hO hS ⟨⟨fun b hb => ⟨hb, rfl⟩, fun b h1 h2 => absurd h1 h2⟩, Or.inr (Or.inr ⟨rfl, hz⟩)⟩ dL_make_20
  · intro r f1 τ1 L1 H locs hp V I hO hS
    refine lv_i2l hx hb dL_make_8 rfl ?_
    refine hSt C V hO hS hao dL_make_9 (fun g1 H locs hg1 V hO hS => ?_)
    refine lv_goto (tgt := 21) hx hb dL_make_10 (by decide) ?_
    refine lv_iconst (v := 0) hx hb dL_make_21 (by decide) ?_
    exact hRetN C hr hlk hN V I hO hS ⟨hp.2.2.2, Or.inl ⟨rfl, r, hg1, hp.1, hp.2.1, hp.2.2.1⟩⟩ dL_make_22
set_option maxHeartbeats 400000 in
set_option maxRecDepth 100000 in
theorem c_L_drop (l : Launch) (D : va_G) (ks : kS) (τ : Nat → Nat) (L : List Nat) (A : Nat → Prop) (κ : kC) (hlt : l.stackTraces = false) (cL : ClassId) (ao : Nat) (hao : ¬ A ao) (ψ : Int32) (f : Nat → va_E) (g : Nat → Int64) (o0 : Nat) (i1 : Int32) (t_o0 : ty τ L o0 9)  : Met l yL_drop (Cond.codeWith yL_drop cL_drop 4 (some .int) [(0, 9, 12, 30), (0, 9, 15, 25)] :: tL) ({ frames := 7, cells := 1, slots := 6, locals := 121 }) (va_Pc [.ref o0, .int i1, .ref ao] (hB D ks τ L A κ cL ao (ψ, f, g))) (va_Qi (fun r9 x9 => hPo Int32.toInt64 (FC_X12_drop (view f) o0 i1) r9 x9.2.1 x9.2.2) (hB D ks τ L A κ cL ao) (Ah A ao)) 1 6 (Ah A ao) := by
  refine hMet (by decide) rfl (Nat.le_of_ble_eq_true rfl) ?_
  intro p e s m below meth c ls C hml hr hlk hT V I hN hO hl
  have hx := C.1
  have hb := C.2.1
  have hown := C.2.2.1
  have hts := C.2.2.2.1
  have hS : va_S (Ah A ao) s.heap s.heap [] := va_S.rf
  have hl : lv_has ls 4 [(0, .ref o0), (1, .int i1), (2, .ref ao)] := hl
  refine lv_aload_n hx hb dL_drop_0 rfl (lv_at hl 2 rfl) ?_
  refine lv_iconst (v := 0) hx hb dL_drop_1 (by decide) ?_
  refine lv_aload_n hx hb dL_drop_2 rfl (lv_at hl 0 rfl) ?_
  refine lv_iload_n hx hb dL_drop_3 rfl (lv_at hl 1 rfl) ?_
  obtain ⟨tp, sy, st9, ck, sp9, la, hf, -⟩ := op9 I t_o0
  refine hGoI (hRun (As := [.int i1]) (rest := [.int 0, .ref ao]) C hml hN V I hS t_o0.1 hf (c_X12_drop l D ks τ L A (nH κ A ao) nH_kA κ nH_0 hlt ψ f o0 i1 t_o0 ) gH_drop okH_drop ⟨rfl, rfl, Nat.le_of_ble_eq_true rfl, Nat.le_of_ble_eq_true rfl⟩ hl.1 rfl (Nat.le_of_ble_eq_true rfl) dL_drop_4 ⟨Nat.le_of_ble_eq_true rfl, Nat.le_of_ble_eq_true rfl⟩) hS hO hao ?_ ?_
  · intro E ce q9 ψ1 f1 H locs hE hp V I hO hS hc hv hcl
    simp only [List.mem_cons, List.not_mem_nil, or_false] at hE
    rcases hE with rfl | rfl
    · refine hc_catch hown [] ⟨0, 9, 12, 30⟩ "java/util/NoSuchElementException" [⟨0, 9, 15, 25⟩] (by rw [hT]; rfl) (fun z hz => nomatch hz) rfl (by decide) (hts _ tHl30) (hCast hN (by simp [nwL])) hc hv hcl ?_
      refine lv_astore_n (lv' := [(3, .ref q9), (0, .ref o0), (1, .int i1), (2, .ref ao)]) hx hb dL_drop_12 rfl hl (by decide) rfl (fun ls hl => ?_)
      refine lv_iconst (v := 1) hx hb dL_drop_13 (by decide) ?_
      have hz : ((1 : Int32), (0 : Int32), view f1) = FC_X12_drop (view f) o0 i1 := by
        rcases hp.2 with ⟨e9, z⟩ | ⟨e9, z⟩
        · exact z
        · exact absurd e9 (by decide)
      exact hRet C hr hlk hN V I hO hS ⟨_, hz.symm, fun z => absurd z (by decide)⟩ dL_drop_14
    · refine hc_catch hown [(⟨0, 9, 12, 30⟩, "java/util/NoSuchElementException")] ⟨0, 9, 15, 25⟩ "java/lang/IllegalStateException" [] (by rw [hT]; rfl) (fun z hz => by simp only [List.mem_cons, List.not_mem_nil, or_false] at hz; rcases hz with rfl <;> first | exact ⟨rfl, by decide, hts _ tHl30, hN.2.2 (_, _) (by simp [nNx])⟩) rfl (by decide) (hts _ tHl25) (hCast hN (by simp [nwL])) hc hv hcl ?_
      refine lv_astore_n (lv' := [(3, .ref q9), (0, .ref o0), (1, .int i1), (2, .ref ao)]) hx hb dL_drop_15 rfl hl (by decide) rfl (fun ls hl => ?_)
      refine lv_iconst (v := 2) hx hb dL_drop_16 (by decide) ?_
      have hz : ((2 : Int32), (0 : Int32), view f1) = FC_X12_drop (view f) o0 i1 := by
        rcases hp.2 with ⟨e9, z⟩ | ⟨e9, z⟩
        · exact absurd e9 (by decide)
        · exact z
      exact hRet C hr hlk hN V I hO hS ⟨_, hz.symm, fun z => absurd z (by decide)⟩ dL_drop_17
  · intro r ψ1 f1 H locs hp V I hO hS
    refine lv_i2l hx hb dL_drop_7 rfl ?_
    refine hSt C V hO hS hao dL_drop_8 (fun g1 H locs hg1 V hO hS => ?_)
    refine lv_goto (tgt := 18) hx hb dL_drop_9 (by decide) ?_
    refine lv_iconst (v := 0) hx hb dL_drop_18 (by decide) ?_
    exact hRet C hr hlk hN V I hO hS ⟨r, hp.2.symm, fun _ => hg1⟩ dL_drop_19
set_option maxHeartbeats 400000 in
set_option maxRecDepth 100000 in
theorem c_L_thread (l : Launch) (D : va_G) (ks : kS) (τ : Nat → Nat) (L : List Nat) (A : Nat → Prop) (κ : kC) (hlt : l.stackTraces = false) (cL : ClassId) (ao : Nat) (hao : ¬ A ao) (ψ : Int32) (f : Nat → va_E) (g : Nat → Int64) (o0 : Nat)  (t_o0 : ty τ L o0 9) (hu : ∀ a b, ty τ L a 8 → ty τ L b 8 → a = b) : Met l yL_thread (Cond.codeWith yL_thread cL_thread 3 (some .int) [(0, 8, 11, 25), (0, 8, 14, 36)] :: tL) ({ frames := 9, cells := 1, slots := 6, locals := 198 }) (va_Pc [.ref o0, .ref ao] (hB D ks τ L A κ cL ao (ψ, f, g))) (va_Qi (fun r9 x9 => hPo Int32.toInt64 (FC_X12_thread (view f) o0 ) r9 x9.2.1 x9.2.2) (hB D ks τ L A κ cL ao) (Ah A ao)) 1 6 (Ah A ao) := by
  refine hMet (by decide) rfl (Nat.le_of_ble_eq_true rfl) ?_
  intro p e s m below meth c ls C hml hr hlk hT V I hN hO hl
  have hx := C.1
  have hb := C.2.1
  have hown := C.2.2.1
  have hts := C.2.2.2.1
  have hS : va_S (Ah A ao) s.heap s.heap [] := va_S.rf
  have hl : lv_has ls 3 [(0, .ref o0), (1, .ref ao)] := hl
  refine lv_aload_n hx hb dL_thread_0 rfl (lv_at hl 1 rfl) ?_
  refine lv_iconst (v := 0) hx hb dL_thread_1 (by decide) ?_
  refine lv_aload_n hx hb dL_thread_2 rfl (lv_at hl 0 rfl) ?_
  obtain ⟨tp, sy, st9, ck, sp9, la, hf, -⟩ := op9 I t_o0
  refine hGoI (hRun (As := []) (rest := [.int 0, .ref ao]) C hml hN V I hS t_o0.1 hf (c_X12_thread l D ks τ L A (nH κ A ao) nH_kA κ nH_0 hlt ψ f o0  t_o0 hu) gH_thread okH_thread ⟨rfl, rfl, Nat.le_of_ble_eq_true rfl, Nat.le_of_ble_eq_true rfl⟩ hl.1 rfl (Nat.le_of_ble_eq_true rfl) dL_thread_3 ⟨Nat.le_of_ble_eq_true rfl, Nat.le_of_ble_eq_true rfl⟩) hS hO hao ?_ ?_
  · intro E ce q9 ψ1 f1 H locs hE hp V I hO hS hc hv hcl
    simp only [List.mem_cons, List.not_mem_nil, or_false] at hE
    rcases hE with rfl | rfl
    · refine hc_catch hown [] ⟨0, 8, 11, 25⟩ "java/lang/IllegalStateException" [⟨0, 8, 14, 36⟩] (by rw [hT]; rfl) (fun z hz => nomatch hz) rfl (by decide) (hts _ tHl25) (hCast hN (by simp [nwL])) hc hv hcl ?_
      refine lv_astore_n (lv' := [(2, .ref q9), (0, .ref o0), (1, .ref ao)]) hx hb dL_thread_11 rfl hl (by decide) rfl (fun ls hl => ?_)
      refine lv_iconst (v := 1) hx hb dL_thread_12 (by decide) ?_
      have hz : ((1 : Int32), (0 : Int32), view f1) = FC_X12_thread (view f) o0  := by
        rcases hp.2 with ⟨e9, z⟩ | ⟨e9, z⟩
        · exact z
        · exact absurd e9 (by decide)
      exact hRet C hr hlk hN V I hO hS ⟨_, hz.symm, fun z => absurd z (by decide)⟩ dL_thread_13
    · refine hc_catch hown [(⟨0, 8, 11, 25⟩, "java/lang/IllegalStateException")] ⟨0, 8, 14, 36⟩ "java/lang/UnsupportedOperationException" [] (by rw [hT]; rfl) (fun z hz => by simp only [List.mem_cons, List.not_mem_nil, or_false] at hz; rcases hz with rfl <;> first | exact ⟨rfl, by decide, hts _ tHl25, hN.2.2 (_, _) (by simp [nNx])⟩) rfl (by decide) (hts _ tHl36) (hCast hN (by simp [nwL])) hc hv hcl ?_
      refine lv_astore_n (lv' := [(2, .ref q9), (0, .ref o0), (1, .ref ao)]) hx hb dL_thread_14 rfl hl (by decide) rfl (fun ls hl => ?_)
      refine lv_iconst (v := 2) hx hb dL_thread_15 (by decide) ?_
      have hz : ((2 : Int32), (0 : Int32), view f1) = FC_X12_thread (view f) o0  := by
        rcases hp.2 with ⟨e9, z⟩ | ⟨e9, z⟩
        · exact absurd e9 (by decide)
        · exact z
      exact hRet C hr hlk hN V I hO hS ⟨_, hz.symm, fun z => absurd z (by decide)⟩ dL_thread_16
  · intro r ψ1 f1 H locs hp V I hO hS
    refine lv_i2l hx hb dL_thread_6 rfl ?_
    refine hSt C V hO hS hao dL_thread_7 (fun g1 H locs hg1 V hO hS => ?_)
    refine lv_goto (tgt := 17) hx hb dL_thread_8 (by decide) ?_
    refine lv_iconst (v := 0) hx hb dL_thread_17 (by decide) ?_
    exact hRet C hr hlk hN V I hO hS ⟨r, hp.2.symm, fun _ => hg1⟩ dL_thread_18
set_option maxHeartbeats 400000 in
set_option maxRecDepth 100000 in
theorem c_L_step (l : Launch) (D : va_G) (ks : kS) (τ : Nat → Nat) (L : List Nat) (A : Nat → Prop) (κ : kC) (hlt : l.stackTraces = false) (cL : ClassId) (ao : Nat) (hao : ¬ A ao) (ψ : Int32) (f : Nat → va_E) (g : Nat → Int64) (o0 : Nat) (i1 : Int32) (t_o0 : ty τ L o0 9)  : Met l yL_step (Cond.codeWith yL_step cL_step 4 (some .int) [(0, 9, 12, 19)] :: tL) ({ frames := 8, cells := 1, slots := 6, locals := 155 }) (va_Pc [.ref o0, .int i1, .ref ao] (hB D ks τ L A κ cL ao (ψ, f, g))) (va_Qi (fun r9 x9 => hPo Int32.toInt64 (FC_X12_step (view f) o0 i1) r9 x9.2.1 x9.2.2) (hB D ks τ L A κ cL ao) (Ah A ao)) 1 6 (Ah A ao) := by
  refine hMet (by decide) rfl (Nat.le_of_ble_eq_true rfl) ?_
  intro p e s m below meth c ls C hml hr hlk hT V I hN hO hl
  have hx := C.1
  have hb := C.2.1
  have hown := C.2.2.1
  have hts := C.2.2.2.1
  have hS : va_S (Ah A ao) s.heap s.heap [] := va_S.rf
  have hl : lv_has ls 4 [(0, .ref o0), (1, .int i1), (2, .ref ao)] := hl
  refine lv_aload_n hx hb dL_step_0 rfl (lv_at hl 2 rfl) ?_
  refine lv_iconst (v := 0) hx hb dL_step_1 (by decide) ?_
  refine lv_aload_n hx hb dL_step_2 rfl (lv_at hl 0 rfl) ?_
  refine lv_iload_n hx hb dL_step_3 rfl (lv_at hl 1 rfl) ?_
  obtain ⟨tp, sy, st9, ck, sp9, la, hf, -⟩ := op9 I t_o0
  refine hGoI (hRun (As := [.int i1]) (rest := [.int 0, .ref ao]) C hml hN V I hS t_o0.1 hf (c_X12_step l D ks τ L A (nH κ A ao) nH_kA κ nH_0 hlt ψ f o0 i1 t_o0 ) gH_step okH_step ⟨rfl, rfl, Nat.le_of_ble_eq_true rfl, Nat.le_of_ble_eq_true rfl⟩ hl.1 rfl (Nat.le_of_ble_eq_true rfl) dL_step_4 ⟨Nat.le_of_ble_eq_true rfl, Nat.le_of_ble_eq_true rfl⟩) hS hO hao ?_ ?_
  · intro E ce q9 ψ1 f1 H locs hE hp V I hO hS hc hv hcl
    simp only [List.mem_cons, List.not_mem_nil, or_false] at hE
    rcases hE with rfl
    · refine hc_catch hown [] ⟨0, 9, 12, 19⟩ "java/lang/IllegalArgumentException" [] (by rw [hT]; rfl) (fun z hz => nomatch hz) rfl (by decide) (hts _ tHl19) (hCast hN (by simp [nwL])) hc hv hcl ?_
      refine lv_astore_n (lv' := [(3, .ref q9), (0, .ref o0), (1, .int i1), (2, .ref ao)]) hx hb dL_step_12 rfl hl (by decide) rfl (fun ls hl => ?_)
      refine lv_iconst (v := 1) hx hb dL_step_13 (by decide) ?_
      have hz := hp.2.2
      exact hRet C hr hlk hN V I hO hS ⟨_, hz.symm, fun z => absurd z (by decide)⟩ dL_step_14
  · intro r ψ1 f1 H locs hp V I hO hS
    refine lv_i2l hx hb dL_step_7 rfl ?_
    refine hSt C V hO hS hao dL_step_8 (fun g1 H locs hg1 V hO hS => ?_)
    refine lv_goto (tgt := 15) hx hb dL_step_9 (by decide) ?_
    refine lv_iconst (v := 0) hx hb dL_step_15 (by decide) ?_
    exact hRet C hr hlk hN V I hO hS ⟨r, hp.2.symm, fun _ => hg1⟩ dL_step_16
set_option maxHeartbeats 400000 in
set_option maxRecDepth 100000 in
theorem c_L_run (l : Launch) (D : va_G) (ks : kS) (τ : Nat → Nat) (L : List Nat) (A : Nat → Prop) (κ : kC) (hlt : l.stackTraces = false) (cL : ClassId) (ao : Nat) (hao : ¬ A ao) (ψ : Int32) (f : Nat → va_E) (g : Nat → Int64) (o0 : Nat) (i1 : Int32) (i2 : Int32) (i3 : Int32) (t_o0 : ty τ L o0 9)  : Met l yL_run (Cond.codeWith yL_run cL_run 6 (some .int) [(0, 12, 15, 19)] :: tL) ({ frames := 7, cells := 1, slots := 6, locals := 160 }) (va_Pc [.ref o0, .int i1, .int i2, .int i3, .ref ao] (hB D ks τ L A κ cL ao (ψ, f, g))) (va_Qi (fun r9 x9 => hPo Int32.toInt64 (FC_X12_run (view f) o0 i1 i2 i3) r9 x9.2.1 x9.2.2) (hB D ks τ L A κ cL ao) (Ah A ao)) 1 6 (Ah A ao) := by
  refine hMet (by decide) rfl (Nat.le_of_ble_eq_true rfl) ?_
  intro p e s m below meth c ls C hml hr hlk hT V I hN hO hl
  have hx := C.1
  have hb := C.2.1
  have hown := C.2.2.1
  have hts := C.2.2.2.1
  have hS : va_S (Ah A ao) s.heap s.heap [] := va_S.rf
  have hl : lv_has ls 6 [(0, .ref o0), (1, .int i1), (2, .int i2), (3, .int i3), (4, .ref ao)] := hl
  refine lv_aload hx hb dL_run_0 (lv_at hl 4 rfl) ?_
  refine lv_iconst (v := 0) hx hb dL_run_2 (by decide) ?_
  refine lv_aload_n hx hb dL_run_3 rfl (lv_at hl 0 rfl) ?_
  refine lv_iload_n hx hb dL_run_4 rfl (lv_at hl 1 rfl) ?_
  refine lv_iload_n hx hb dL_run_5 rfl (lv_at hl 2 rfl) ?_
  refine lv_iload_n hx hb dL_run_6 rfl (lv_at hl 3 rfl) ?_
  obtain ⟨tp, sy, st9, ck, sp9, la, hf, -⟩ := op9 I t_o0
  refine hGoI (hRun (As := [.int i1, .int i2, .int i3]) (rest := [.int 0, .ref ao]) C hml hN V I hS t_o0.1 hf (c_X12_run l D ks τ L A (nH κ A ao) nH_kA κ nH_0 hlt ψ f o0 i1 i2 i3 t_o0 ) gH_run okH_run ⟨rfl, rfl, Nat.le_of_ble_eq_true rfl, Nat.le_of_ble_eq_true rfl⟩ hl.1 rfl (Nat.le_of_ble_eq_true rfl) dL_run_7 ⟨Nat.le_of_ble_eq_true rfl, Nat.le_of_ble_eq_true rfl⟩) hS hO hao ?_ ?_
  · intro E ce q9 ψ1 f1 H locs hE hp V I hO hS hc hv hcl
    simp only [List.mem_cons, List.not_mem_nil, or_false] at hE
    rcases hE with rfl
    · refine hc_catch hown [] ⟨0, 12, 15, 19⟩ "java/lang/IllegalArgumentException" [] (by rw [hT]; rfl) (fun z hz => nomatch hz) rfl (by decide) (hts _ tHl19) (hCast hN (by simp [nwL])) hc hv hcl ?_
      refine lv_astore (lv' := [(5, .ref q9), (0, .ref o0), (1, .int i1), (2, .int i2), (3, .int i3), (4, .ref ao)]) hx hb dL_run_15 hl (by decide) rfl (fun ls hl => ?_)
      refine lv_iconst (v := 1) hx hb dL_run_17 (by decide) ?_
      have hz := hp.2.2
      exact hRet C hr hlk hN V I hO hS ⟨_, hz.symm, fun z => absurd z (by decide)⟩ dL_run_18
  · intro r ψ1 f1 H locs hp V I hO hS
    refine lv_i2l hx hb dL_run_10 rfl ?_
    refine hSt C V hO hS hao dL_run_11 (fun g1 H locs hg1 V hO hS => ?_)
    refine lv_goto (tgt := 19) hx hb dL_run_12 (by decide) ?_
    refine lv_iconst (v := 0) hx hb dL_run_19 (by decide) ?_
    exact hRet C hr hlk hN V I hO hS ⟨r, hp.2.symm, fun _ => hg1⟩ dL_run_20
set_option maxHeartbeats 400000 in
set_option maxRecDepth 100000 in
theorem c_L_tick (l : Launch) (D : va_G) (ks : kS) (τ : Nat → Nat) (L : List Nat) (A : Nat → Prop) (κ : kC) (hlt : l.stackTraces = false) (cL : ClassId) (ao : Nat) (hao : ¬ A ao) (ψ : Int32) (f : Nat → va_E) (g : Nat → Int64) (o0 : Nat) (i1 : Int32) (t_o0 : ty τ L o0 9)  : Met l yL_tick (Cond.codeWith yL_tick cL_tick 4 (some .int) [(0, 9, 12, 19)] :: tL) ({ frames := 7, cells := 1, slots := 6, locals := 126 }) (va_Pc [.ref o0, .int i1, .ref ao] (hB D ks τ L A κ cL ao (ψ, f, g))) (va_Qi (fun r9 x9 => hPo Int32.toInt64 (FC_X12_tick (view f) o0 i1) r9 x9.2.1 x9.2.2) (hB D ks τ L A κ cL ao) (Ah A ao)) 1 6 (Ah A ao) := by
  refine hMet (by decide) rfl (Nat.le_of_ble_eq_true rfl) ?_
  intro p e s m below meth c ls C hml hr hlk hT V I hN hO hl
  have hx := C.1
  have hb := C.2.1
  have hown := C.2.2.1
  have hts := C.2.2.2.1
  have hS : va_S (Ah A ao) s.heap s.heap [] := va_S.rf
  have hl : lv_has ls 4 [(0, .ref o0), (1, .int i1), (2, .ref ao)] := hl
  refine lv_aload_n hx hb dL_tick_0 rfl (lv_at hl 2 rfl) ?_
  refine lv_iconst (v := 0) hx hb dL_tick_1 (by decide) ?_
  refine lv_aload_n hx hb dL_tick_2 rfl (lv_at hl 0 rfl) ?_
  refine lv_iload_n hx hb dL_tick_3 rfl (lv_at hl 1 rfl) ?_
  obtain ⟨tp, sy, st9, ck, sp9, la, hf, -⟩ := op9 I t_o0
  refine hGoI (hRun (As := [.int i1]) (rest := [.int 0, .ref ao]) C hml hN V I hS t_o0.1 hf (c_X12_tick l D ks τ L A (nH κ A ao) nH_kA κ nH_0 hlt ψ f o0 i1 t_o0 ) gH_tick okH_tick ⟨rfl, rfl, Nat.le_of_ble_eq_true rfl, Nat.le_of_ble_eq_true rfl⟩ hl.1 rfl (Nat.le_of_ble_eq_true rfl) dL_tick_4 ⟨Nat.le_of_ble_eq_true rfl, Nat.le_of_ble_eq_true rfl⟩) hS hO hao ?_ ?_
  · intro E ce q9 ψ1 f1 H locs hE hp V I hO hS hc hv hcl
    simp only [List.mem_cons, List.not_mem_nil, or_false] at hE
    rcases hE with rfl
    · refine hc_catch hown [] ⟨0, 9, 12, 19⟩ "java/lang/IllegalArgumentException" [] (by rw [hT]; rfl) (fun z hz => nomatch hz) rfl (by decide) (hts _ tHl19) (hCast hN (by simp [nwL])) hc hv hcl ?_
      refine lv_astore_n (lv' := [(3, .ref q9), (0, .ref o0), (1, .int i1), (2, .ref ao)]) hx hb dL_tick_12 rfl hl (by decide) rfl (fun ls hl => ?_)
      refine lv_iconst (v := 1) hx hb dL_tick_13 (by decide) ?_
      have hz := hp.2.2
      exact hRet C hr hlk hN V I hO hS ⟨_, hz.symm, fun z => absurd z (by decide)⟩ dL_tick_14
  · intro r ψ1 f1 H locs hp V I hO hS
    refine lv_i2l hx hb dL_tick_7 rfl ?_
    refine hSt C V hO hS hao dL_tick_8 (fun g1 H locs hg1 V hO hS => ?_)
    refine lv_goto (tgt := 15) hx hb dL_tick_9 (by decide) ?_
    refine lv_iconst (v := 0) hx hb dL_tick_15 (by decide) ?_
    exact hRet C hr hlk hN V I hO hS ⟨r, hp.2.symm, fun _ => hg1⟩ dL_tick_16
set_option maxHeartbeats 400000 in
set_option maxRecDepth 100000 in
theorem c_L_interrupt (l : Launch) (D : va_G) (ks : kS) (τ : Nat → Nat) (L : List Nat) (A : Nat → Prop) (κ : kC) (hlt : l.stackTraces = false) (cL : ClassId) (ao : Nat) (hao : ¬ A ao) (ψ : Int32) (f : Nat → va_E) (g : Nat → Int64) (o0 : Nat) (i1 : Int32) (t_o0 : ty τ L o0 9)  : Met l yL_interrupt (Cond.codeWith yL_interrupt cL_interrupt 4 (some .int) [(0, 9, 12, 19)] :: tL) ({ frames := 8, cells := 1, slots := 6, locals := 145 }) (va_Pc [.ref o0, .int i1, .ref ao] (hB D ks τ L A κ cL ao (ψ, f, g))) (va_Qi (fun r9 x9 => hPo Int32.toInt64 (FC_X12_interrupt (view f) o0 i1) r9 x9.2.1 x9.2.2) (hB D ks τ L A κ cL ao) (Ah A ao)) 1 6 (Ah A ao) := by
  refine hMet (by decide) rfl (Nat.le_of_ble_eq_true rfl) ?_
  intro p e s m below meth c ls C hml hr hlk hT V I hN hO hl
  have hx := C.1
  have hb := C.2.1
  have hown := C.2.2.1
  have hts := C.2.2.2.1
  have hS : va_S (Ah A ao) s.heap s.heap [] := va_S.rf
  have hl : lv_has ls 4 [(0, .ref o0), (1, .int i1), (2, .ref ao)] := hl
  refine lv_aload_n hx hb dL_interrupt_0 rfl (lv_at hl 2 rfl) ?_
  refine lv_iconst (v := 0) hx hb dL_interrupt_1 (by decide) ?_
  refine lv_aload_n hx hb dL_interrupt_2 rfl (lv_at hl 0 rfl) ?_
  refine lv_iload_n hx hb dL_interrupt_3 rfl (lv_at hl 1 rfl) ?_
  obtain ⟨tp, sy, st9, ck, sp9, la, hf, -⟩ := op9 I t_o0
  refine hGoI (hRun (As := [.int i1]) (rest := [.int 0, .ref ao]) C hml hN V I hS t_o0.1 hf (c_X12_interrupt l D ks τ L A (nH κ A ao) nH_kA κ nH_0 hlt ψ f o0 i1 t_o0 ) gH_interrupt okH_interrupt ⟨rfl, rfl, Nat.le_of_ble_eq_true rfl, Nat.le_of_ble_eq_true rfl⟩ hl.1 rfl (Nat.le_of_ble_eq_true rfl) dL_interrupt_4 ⟨Nat.le_of_ble_eq_true rfl, Nat.le_of_ble_eq_true rfl⟩) hS hO hao ?_ ?_
  · intro E ce q9 ψ1 f1 H locs hE hp V I hO hS hc hv hcl
    simp only [List.mem_cons, List.not_mem_nil, or_false] at hE
    rcases hE with rfl
    · refine hc_catch hown [] ⟨0, 9, 12, 19⟩ "java/lang/IllegalArgumentException" [] (by rw [hT]; rfl) (fun z hz => nomatch hz) rfl (by decide) (hts _ tHl19) (hCast hN (by simp [nwL])) hc hv hcl ?_
      refine lv_astore_n (lv' := [(3, .ref q9), (0, .ref o0), (1, .int i1), (2, .ref ao)]) hx hb dL_interrupt_12 rfl hl (by decide) rfl (fun ls hl => ?_)
      refine lv_iconst (v := 1) hx hb dL_interrupt_13 (by decide) ?_
      have hz := hp.2.2
      exact hRet C hr hlk hN V I hO hS ⟨_, hz.symm, fun z => absurd z (by decide)⟩ dL_interrupt_14
  · intro r ψ1 f1 H locs hp V I hO hS
    refine lv_i2l hx hb dL_interrupt_7 rfl ?_
    refine hSt C V hO hS hao dL_interrupt_8 (fun g1 H locs hg1 V hO hS => ?_)
    refine lv_goto (tgt := 15) hx hb dL_interrupt_9 (by decide) ?_
    refine lv_iconst (v := 0) hx hb dL_interrupt_15 (by decide) ?_
    exact hRet C hr hlk hN V I hO hS ⟨r, hp.2.symm, fun _ => hg1⟩ dL_interrupt_16
set_option maxHeartbeats 400000 in
set_option maxRecDepth 100000 in
theorem c_L_look (l : Launch) (D : va_G) (ks : kS) (τ : Nat → Nat) (L : List Nat) (A : Nat → Prop) (κ : kC) (hlt : l.stackTraces = false) (cL : ClassId) (ao : Nat) (hao : ¬ A ao) (ψ : Int32) (f : Nat → va_E) (g : Nat → Int64) (o0 : Nat) (i1 : Int32) (i2 : Int32) (t_o0 : ty τ L o0 9)  : Met l yL_look (Cond.codeWith yL_look cL_look 5 (some .int) [(0, 10, 13, 19)] :: tL) ({ frames := 8, cells := 2, slots := 12, locals := 144 }) (va_Pc [.ref o0, .int i1, .int i2, .ref ao] (hB D ks τ L A κ cL ao (ψ, f, g))) (va_Qi (fun r9 x9 => hPo Int32.toInt64 (FC_X12_look (view f) o0 i1 i2) r9 x9.2.1 x9.2.2) (hB D ks τ L A κ cL ao) (Ah A ao)) 2 12 (Ah A ao) := by
  refine hMet (by decide) rfl (Nat.le_of_ble_eq_true rfl) ?_
  intro p e s m below meth c ls C hml hr hlk hT V I hN hO hl
  have hx := C.1
  have hb := C.2.1
  have hown := C.2.2.1
  have hts := C.2.2.2.1
  have hS : va_S (Ah A ao) s.heap s.heap [] := va_S.rf
  have hl : lv_has ls 5 [(0, .ref o0), (1, .int i1), (2, .int i2), (3, .ref ao)] := hl
  refine lv_aload_n hx hb dL_look_0 rfl (lv_at hl 3 rfl) ?_
  refine lv_iconst (v := 0) hx hb dL_look_1 (by decide) ?_
  refine lv_aload_n hx hb dL_look_2 rfl (lv_at hl 0 rfl) ?_
  refine lv_iload_n hx hb dL_look_3 rfl (lv_at hl 1 rfl) ?_
  refine lv_iload_n hx hb dL_look_4 rfl (lv_at hl 2 rfl) ?_
  obtain ⟨tp, sy, st9, ck, sp9, la, hf, -⟩ := op9 I t_o0
  refine hGoI (hRun (As := [.int i1, .int i2]) (rest := [.int 0, .ref ao]) C hml hN V I hS t_o0.1 hf (c_X12_look l D ks τ L A (nH κ A ao) nH_kA κ nH_0 hlt ψ f o0 i1 i2 t_o0 ) gH_look okH_look ⟨rfl, rfl, Nat.le_of_ble_eq_true rfl, Nat.le_of_ble_eq_true rfl⟩ hl.1 rfl (Nat.le_of_ble_eq_true rfl) dL_look_5 ⟨Nat.le_of_ble_eq_true rfl, Nat.le_of_ble_eq_true rfl⟩) hS hO hao ?_ ?_
  · intro E ce q9 ψ1 f1 H locs hE hp V I hO hS hc hv hcl
    simp only [List.mem_cons, List.not_mem_nil, or_false] at hE
    rcases hE with rfl
    · refine hc_catch hown [] ⟨0, 10, 13, 19⟩ "java/lang/IllegalArgumentException" [] (by rw [hT]; rfl) (fun z hz => nomatch hz) rfl (by decide) (hts _ tHl19) (hCast hN (by simp [nwL])) hc hv hcl ?_
      refine lv_astore (lv' := [(4, .ref q9), (0, .ref o0), (1, .int i1), (2, .int i2), (3, .ref ao)]) hx hb dL_look_13 hl (by decide) rfl (fun ls hl => ?_)
      refine lv_iconst (v := 1) hx hb dL_look_15 (by decide) ?_
      have hz := hp.2.2
      exact hRet C hr hlk hN V I hO hS ⟨_, hz.symm, fun z => absurd z (by decide)⟩ dL_look_16
  · intro r ψ1 f1 H locs hp V I hO hS
    refine lv_i2l hx hb dL_look_8 rfl ?_
    refine hSt C V hO hS hao dL_look_9 (fun g1 H locs hg1 V hO hS => ?_)
    refine lv_goto (tgt := 17) hx hb dL_look_10 (by decide) ?_
    refine lv_iconst (v := 0) hx hb dL_look_17 (by decide) ?_
    exact hRet C hr hlk hN V I hO hS ⟨r, hp.2.symm, fun _ => hg1⟩ dL_look_18
set_option maxHeartbeats 400000 in
set_option maxRecDepth 100000 in
theorem c_L_sync (l : Launch) (D : va_G) (ks : kS) (τ : Nat → Nat) (L : List Nat) (A : Nat → Prop) (κ : kC) (hlt : l.stackTraces = false) (cL : ClassId) (ao : Nat) (hao : ¬ A ao) (ψ : Int32) (f : Nat → va_E) (g : Nat → Int64) (o0 : Nat) (i1 : Int32) (i2 : Int32) (t_o0 : ty τ L o0 9)  : Met l yL_sync (Cond.codeWith yL_sync cL_sync 5 (some .int) [(0, 9, 12, 30), (0, 9, 16, 19), (0, 9, 20, 36)] :: tL) ({ frames := 7, cells := 1, slots := 6, locals := 123 }) (va_Pc [.ref o0, .int i1, .int i2, .ref ao] (hB D ks τ L A κ cL ao (ψ, f, g))) (va_Qi (fun r9 x9 => hPo id (FC_X12_sync (view f) o0 i1 i2) r9 x9.2.1 x9.2.2) (hB D ks τ L A κ cL ao) (Ah A ao)) 1 6 (Ah A ao) := by
  refine hMet (by decide) rfl (Nat.le_of_ble_eq_true rfl) ?_
  intro p e s m below meth c ls C hml hr hlk hT V I hN hO hl
  have hx := C.1
  have hb := C.2.1
  have hown := C.2.2.1
  have hts := C.2.2.2.1
  have hS : va_S (Ah A ao) s.heap s.heap [] := va_S.rf
  have hl : lv_has ls 5 [(0, .ref o0), (1, .int i1), (2, .int i2), (3, .ref ao)] := hl
  refine lv_aload_n hx hb dL_sync_0 rfl (lv_at hl 3 rfl) ?_
  refine lv_iconst (v := 0) hx hb dL_sync_1 (by decide) ?_
  refine lv_aload_n hx hb dL_sync_2 rfl (lv_at hl 0 rfl) ?_
  refine lv_iload_n hx hb dL_sync_3 rfl (lv_at hl 1 rfl) ?_
  refine lv_iload_n hx hb dL_sync_4 rfl (lv_at hl 2 rfl) ?_
  obtain ⟨tp, sy, st9, ck, sp9, la, hf, -⟩ := op9 I t_o0
  refine hGoL (hRun (As := [.int i1, .int i2]) (rest := [.int 0, .ref ao]) C hml hN V I hS t_o0.1 hf (c_X12_sync l D ks τ L A (nH κ A ao) nH_kA κ nH_0 hlt ψ f o0 i1 i2 t_o0 ) gH_sync okH_sync ⟨rfl, rfl, Nat.le_of_ble_eq_true rfl, Nat.le_of_ble_eq_true rfl⟩ hl.1 rfl (Nat.le_of_ble_eq_true rfl) dL_sync_5 ⟨Nat.le_of_ble_eq_true rfl, Nat.le_of_ble_eq_true rfl⟩) hS hO hao ?_ ?_
  · intro E ce q9 ψ1 f1 H locs hE hp V I hO hS hc hv hcl
    simp only [List.mem_cons, List.not_mem_nil, or_false] at hE
    rcases hE with rfl | rfl | rfl
    · refine hc_catch hown [] ⟨0, 9, 12, 30⟩ "java/util/NoSuchElementException" [⟨0, 9, 16, 19⟩, ⟨0, 9, 20, 36⟩] (by rw [hT]; rfl) (fun z hz => nomatch hz) rfl (by decide) (hts _ tHl30) (hCast hN (by simp [nwL])) hc hv hcl ?_
      refine lv_astore (lv' := [(4, .ref q9), (0, .ref o0), (1, .int i1), (2, .int i2), (3, .ref ao)]) hx hb dL_sync_12 hl (by decide) rfl (fun ls hl => ?_)
      refine lv_iconst (v := 1) hx hb dL_sync_14 (by decide) ?_
      have hz : ((1 : Int32), (0 : Int64), view f1) = FC_X12_sync (view f) o0 i1 i2 := by
        rcases hp.2 with ⟨e9, z⟩ | ⟨e9, z⟩ | ⟨e9, z⟩
        · exact z
        · exact absurd e9 (by decide)
        · exact absurd e9 (by decide)
      exact hRet C hr hlk hN V I hO hS ⟨_, hz.symm, fun z => absurd z (by decide)⟩ dL_sync_15
    · refine hc_catch hown [(⟨0, 9, 12, 30⟩, "java/util/NoSuchElementException")] ⟨0, 9, 16, 19⟩ "java/lang/IllegalArgumentException" [⟨0, 9, 20, 36⟩] (by rw [hT]; rfl) (fun z hz => by simp only [List.mem_cons, List.not_mem_nil, or_false] at hz; rcases hz with rfl <;> first | exact ⟨rfl, by decide, hts _ tHl30, hN.2.2 (_, _) (by simp [nNx])⟩) rfl (by decide) (hts _ tHl19) (hCast hN (by simp [nwL])) hc hv hcl ?_
      refine lv_astore (lv' := [(4, .ref q9), (0, .ref o0), (1, .int i1), (2, .int i2), (3, .ref ao)]) hx hb dL_sync_16 hl (by decide) rfl (fun ls hl => ?_)
      refine lv_iconst (v := 2) hx hb dL_sync_18 (by decide) ?_
      have hz : ((2 : Int32), (0 : Int64), view f1) = FC_X12_sync (view f) o0 i1 i2 := by
        rcases hp.2 with ⟨e9, z⟩ | ⟨e9, z⟩ | ⟨e9, z⟩
        · exact absurd e9 (by decide)
        · exact z
        · exact absurd e9 (by decide)
      exact hRet C hr hlk hN V I hO hS ⟨_, hz.symm, fun z => absurd z (by decide)⟩ dL_sync_19
    · refine hc_catch hown [(⟨0, 9, 12, 30⟩, "java/util/NoSuchElementException"), (⟨0, 9, 16, 19⟩, "java/lang/IllegalArgumentException")] ⟨0, 9, 20, 36⟩ "java/lang/UnsupportedOperationException" [] (by rw [hT]; rfl) (fun z hz => by simp only [List.mem_cons, List.not_mem_nil, or_false] at hz; rcases hz with rfl | rfl <;> first | exact ⟨rfl, by decide, hts _ tHl30, hN.2.2 (_, _) (by simp [nNx])⟩ | exact ⟨rfl, by decide, hts _ tHl19, hN.2.2 (_, _) (by simp [nNx])⟩) rfl (by decide) (hts _ tHl36) (hCast hN (by simp [nwL])) hc hv hcl ?_
      refine lv_astore (lv' := [(4, .ref q9), (0, .ref o0), (1, .int i1), (2, .int i2), (3, .ref ao)]) hx hb dL_sync_20 hl (by decide) rfl (fun ls hl => ?_)
      refine lv_iconst (v := 3) hx hb dL_sync_22 (by decide) ?_
      have hz : ((3 : Int32), (0 : Int64), view f1) = FC_X12_sync (view f) o0 i1 i2 := by
        rcases hp.2 with ⟨e9, z⟩ | ⟨e9, z⟩ | ⟨e9, z⟩
        · exact absurd e9 (by decide)
        · exact absurd e9 (by decide)
        · exact z
      exact hRet C hr hlk hN V I hO hS ⟨_, hz.symm, fun z => absurd z (by decide)⟩ dL_sync_23
  · intro r ψ1 f1 H locs hp V I hO hS
    refine hSt C V hO hS hao dL_sync_8 (fun g1 H locs hg1 V hO hS => ?_)
    refine lv_goto (tgt := 24) hx hb dL_sync_9 (by decide) ?_
    refine lv_iconst (v := 0) hx hb dL_sync_24 (by decide) ?_
    exact hRet C hr hlk hN V I hO hS ⟨r, hp.2.symm, fun _ => hg1⟩ dL_sync_25
set_option maxHeartbeats 400000 in
set_option maxRecDepth 100000 in
theorem c_L_count (l : Launch) (D : va_G) (ks : kS) (τ : Nat → Nat) (L : List Nat) (A : Nat → Prop) (κ : kC) (hlt : l.stackTraces = false) (cL : ClassId) (ao : Nat) (hao : ¬ A ao) (ψ : Int32) (f : Nat → va_E) (g : Nat → Int64) (o0 : Nat) (i1 : Int32) (t_o0 : ty τ L o0 9)  : Met l yL_count (Cond.codeWith yL_count cL_count 4 (some .int) [(0, 8, 11, 19)] :: tL) ({ frames := 7, cells := 1, slots := 6, locals := 122 }) (va_Pc [.ref o0, .int i1, .ref ao] (hB D ks τ L A κ cL ao (ψ, f, g))) (va_Qi (fun r9 x9 => hPo id (FC_X12_count (view f) o0 i1) r9 x9.2.1 x9.2.2) (hB D ks τ L A κ cL ao) (Ah A ao)) 1 6 (Ah A ao) := by
  refine hMet (by decide) rfl (Nat.le_of_ble_eq_true rfl) ?_
  intro p e s m below meth c ls C hml hr hlk hT V I hN hO hl
  have hx := C.1
  have hb := C.2.1
  have hown := C.2.2.1
  have hts := C.2.2.2.1
  have hS : va_S (Ah A ao) s.heap s.heap [] := va_S.rf
  have hl : lv_has ls 4 [(0, .ref o0), (1, .int i1), (2, .ref ao)] := hl
  refine lv_aload_n hx hb dL_count_0 rfl (lv_at hl 2 rfl) ?_
  refine lv_iconst (v := 0) hx hb dL_count_1 (by decide) ?_
  refine lv_aload_n hx hb dL_count_2 rfl (lv_at hl 0 rfl) ?_
  refine lv_iload_n hx hb dL_count_3 rfl (lv_at hl 1 rfl) ?_
  obtain ⟨tp, sy, st9, ck, sp9, la, hf, -⟩ := op9 I t_o0
  refine hGoL (hRun (As := [.int i1]) (rest := [.int 0, .ref ao]) C hml hN V I hS t_o0.1 hf (c_X12_count l D ks τ L A (nH κ A ao) nH_kA κ nH_0 hlt ψ f o0 i1 t_o0 ) gH_count okH_count ⟨rfl, rfl, Nat.le_of_ble_eq_true rfl, Nat.le_of_ble_eq_true rfl⟩ hl.1 rfl (Nat.le_of_ble_eq_true rfl) dL_count_4 ⟨Nat.le_of_ble_eq_true rfl, Nat.le_of_ble_eq_true rfl⟩) hS hO hao ?_ ?_
  · intro E ce q9 ψ1 f1 H locs hE hp V I hO hS hc hv hcl
    simp only [List.mem_cons, List.not_mem_nil, or_false] at hE
    rcases hE with rfl
    · refine hc_catch hown [] ⟨0, 8, 11, 19⟩ "java/lang/IllegalArgumentException" [] (by rw [hT]; rfl) (fun z hz => nomatch hz) rfl (by decide) (hts _ tHl19) (hCast hN (by simp [nwL])) hc hv hcl ?_
      refine lv_astore_n (lv' := [(3, .ref q9), (0, .ref o0), (1, .int i1), (2, .ref ao)]) hx hb dL_count_11 rfl hl (by decide) rfl (fun ls hl => ?_)
      refine lv_iconst (v := 1) hx hb dL_count_12 (by decide) ?_
      have hz := hp.2.2
      exact hRet C hr hlk hN V I hO hS ⟨_, hz.symm, fun z => absurd z (by decide)⟩ dL_count_13
  · intro r ψ1 f1 H locs hp V I hO hS
    refine hSt C V hO hS hao dL_count_7 (fun g1 H locs hg1 V hO hS => ?_)
    refine lv_goto (tgt := 14) hx hb dL_count_8 (by decide) ?_
    refine lv_iconst (v := 0) hx hb dL_count_14 (by decide) ?_
    exact hRet C hr hlk hN V I hO hS ⟨r, hp.2.symm, fun _ => hg1⟩ dL_count_15

theorem lat8 {x : Int32} (h : 0 ≤ x ∧ x < 8) : 0 ≤ (x + 1) - (x + 1) / 8 * 8 ∧ (x + 1) - (x + 1) / 8 * 8 < 8 := by
  rw [rem_8 h.1 h.2]; split <;> grind
theorem a_ne0 {r : Int32} (h : 0 < r) : ¬ r = 0 := by grind
theorem a_le8 {x r : Int32} (h : 0 ≤ x ∧ x < r) (hr : r ≤ 8) : 0 ≤ x ∧ x ≤ 8 := by grind
theorem in_g {r lo v hi : Int32} (h : (r = 1 ∧ lo ≤ v ∧ v ≤ hi) ∨ (r = 0 ∧ ¬ (lo ≤ v ∧ v ≤ hi))) (hc : r = 0) : ¬ (lo ≤ v ∧ v ≤ hi) := by
  rcases h with q | q
  · rw [q.1] at hc; exact absurd hc (by decide)
  · exact q.2
theorem a_cnt {w r : Int32} (h : (r = 1 ∧ 10 ≤ w ∧ w ≤ 33) ∨ (r = 0 ∧ ¬ (10 ≤ w ∧ w ≤ 33))) (hc : ¬ r = 0) : 0 ≤ w - 10 ∧ w - 10 < 24 := by
  have q := in_y h hc; clear h hc; grind
theorem a_c5 {w : Int32} (h : 0 ≤ w ∧ w ≤ 4) (h0 : ¬ w = 0) (h1 : ¬ w = 1) (h2 : ¬ w = 2) (h3 : ¬ w = 3) (h4 : ¬ w = 4) : False := by grind

def G_look_J77 (SJ77 : mS) : Int32 × mS := (((-1) : Int32), SJ77)
def G_look_J19 (S : mS) : Int32 × mS := gC (G_refuse S 1) (fun r2 S1 => ((r2 : Int32), S1))
def G_look (S : mS) (t : Int32) (w : Int32) : Int32 × mS := gLt (G_in S t 0 7 : Int32) (fun r5 => if (r5 : Int32) = 0 then (G_look_J19 S  ) else (gLt (G_in S w 0 5 : Int32) (fun r9 => if (r9 : Int32) = 0 then (G_look_J19 S  ) else (gLt (sI S 0 0 : mS) (fun S12 => if (w : Int32) = 0 then ((((gA S12 13 t) : Int32), S12)) else (if (w : Int32) = 1 then ((((gA S12 14 t) : Int32), S12)) else (if (w : Int32) = 2 then (if ((gA S12 13 t) : Int32) = 0 then (G_look_J77   S12) else (if ((gA S12 13 t) : Int32) = 4 then (G_look_J77   S12) else ((((gA S12 15 t) : Int32), S12)))) else (if (w : Int32) = 3 then (if ((gA S12 13 t) : Int32) = 2 then ((((gA S12 16 t) : Int32), S12)) else ((((-1) : Int32), S12))) else (if (w : Int32) = 4 then (if ((gA S12 20 t) : Int32) = 0 then (((0 : Int32), S12)) else (((1 : Int32), S12))) else (if ((gA S12 13 t) : Int32) = 5 then ((((gA S12 17 t) : Int32), S12)) else (((0 : Int32), S12))))))))))))
set_option maxHeartbeats 400000 in
set_option maxRecDepth 100000 in
theorem j_look_77 {p : Program} {e : Env} {s : State} {m : MethodId} {below : List Frame} {meth : Method} {c : Code} (l : Launch) (D : va_G) (cs : ClassId × ClassId × ClassId) (o : Nat) (ad : Nat → Nat) (A : Nat → Prop) (S : mS) (t : Int32) (w : Int32)  (h1 : mInv S) (C : mC p s m ([.ref o, .int t, .int w] : List Value).toArray c cX13_look D cs) (hml : c.maxLocals = 3) (hr : meth.sig.returnType = (some .int)) (hlk : meth.locks = false)  (SJ77 : mS) (H : Heap) (locs : List Loc) (ls : Array Slot) (hj77 : mInv SJ77 ∧ gI SJ77 2 = gI S 2) (hG : G_look S t w = G_look_J77   SJ77) (V : mV D cs o ad A SJ77 H) (hS : va_S A s.heap H locs) (hl : lv_has ls 3 [(0, .ref o), (1, .int t), (2, .int w)]) : W p l e ({ frames := 1, cells := 0, slots := 0, locals := 22 } : Room) s m ([.ref o, .int t, .int w] : List Value).toArray below meth c H locs 0 0 (MQ below (va_Qi (fun r9 S9 => (mInv S9 ∧ gI S9 2 = gI S 2) ∧ (r9, S9) = G_look S t w) (mB D cs o ad A) A) ([.ref o, .int t, .int w] : List Value).toArray s 0 0 A) (F0 m 77 ls []) := by
  have hx := C.1
  have hb := C.2.1
  have hown := C.2.2.1
  have hts := C.2.2.2.1
  rw [G_look_J77] at hG
  refine lv_iconst (v := (-1)) hx hb dX13_look_77 (by decide) ?_
  refine lv_goto (tgt := 87) hx hb dX13_look_78 (by decide) ?_
  exact mRetI C hr hlk V hS (⟨by clear hG V hS hl C hts hown hx hb hml hr hlk; first | exact p1 | exact hj77, hG.symm⟩) dX13_look_87
set_option maxHeartbeats 400000 in
set_option maxRecDepth 100000 in
theorem j_look_19 {p : Program} {e : Env} {s : State} {m : MethodId} {below : List Frame} {meth : Method} {c : Code} (l : Launch) (D : va_G) (cs : ClassId × ClassId × ClassId) (o : Nat) (ad : Nat → Nat) (A : Nat → Prop) (S : mS) (t : Int32) (w : Int32)  (h1 : mInv S) (C : mC p s m ([.ref o, .int t, .int w] : List Value).toArray c cX13_look D cs) (hml : c.maxLocals = 3) (hr : meth.sig.returnType = (some .int)) (hlk : meth.locks = false)   (H : Heap) (locs : List Loc) (ls : Array Slot) (hj19 : True) (hG : G_look S t w = G_look_J19 S ) (V : mV D cs o ad A S H) (hS : va_S A s.heap H locs) (hl : lv_has ls 3 [(0, .ref o), (1, .int t), (2, .int w)]) : W p l e ({ frames := 1, cells := 0, slots := 0, locals := 22 } : Room) s m ([.ref o, .int t, .int w] : List Value).toArray below meth c H locs 0 0 (MQ below (va_Qi (fun r9 S9 => (mInv S9 ∧ gI S9 2 = gI S 2) ∧ (r9, S9) = G_look S t w) (mB D cs o ad A) A) ([.ref o, .int t, .int w] : List Value).toArray s 0 0 A) (F0 m 19 ls []) := by
  have hx := C.1
  have hb := C.2.1
  have hown := C.2.2.1
  have hts := C.2.2.2.1
  rw [G_look_J19] at hG
  refine lv_aload_n hx hb dX13_look_19 rfl (lv_at hl 0 rfl) ?_
  refine lv_iconst (v := 1) hx hb dX13_look_20 (by decide) ?_
  refine mGoI (mRunV (As := [.int 1]) (rest := []) C hml V (c_refuse l D cs o ad A S 1  ) gM_refuse okM_refuse ⟨rfl, rfl, Nat.le_of_ble_eq_true rfl, Nat.le_of_ble_eq_true rfl⟩ hl.1 rfl (Nat.le_of_ble_eq_true rfl) dX13_look_21 ⟨Nat.zero_le _, Nat.zero_le _⟩) hS (fun r2 S1 H locs hq3 V hS => ?_)
  obtain ⟨hq3, ghq3⟩ := hq3
  replace hG := gC_e hG ghq3
  exact mRetI C hr hlk V hS (⟨pb_I h1 hq3.2 (by clear hG V hS hl C hts hown hx hb hml hr hlk; decide) (by clear hG V hS hl C hts hown hx hb hml hr hlk; decide), hG.symm⟩) dX13_look_24
set_option maxHeartbeats 400000 in
set_option maxRecDepth 100000 in
theorem c_look (l : Launch) (D : va_G) (cs : ClassId × ClassId × ClassId) (o : Nat) (ad : Nat → Nat) (A : Nat → Prop) (S : mS) (t : Int32) (w : Int32)  (h1 : mInv S) : Met l yX13_look (Cond.code yX13_look cX13_look 3 (some .int) :: tM) ({ frames := 1, cells := 0, slots := 0, locals := 22 }) (va_Pc [.ref o, .int t, .int w] (mB D cs o ad A S)) (va_Qi (fun r9 S9 => (mInv S9 ∧ gI S9 2 = gI S 2) ∧ (r9, S9) = G_look S t w) (mB D cs o ad A) A) 0 0 A := by
  refine mMet (by decide) rfl (Nat.le_of_ble_eq_true rfl) ?_
  intro p e s m below meth c ls C hml hr hlk V hl
  have hx := C.1
  have hb := C.2.1
  have hown := C.2.2.1
  have hts := C.2.2.2.1
  have hS : va_S A s.heap s.heap [] := va_S.rf
  have hl : lv_has ls 3 [(0, .ref o), (1, .int t), (2, .int w)] := hl
  have hG := G_look.eq_1 S t w
  refine lv_iload_n hx hb dX13_look_0 rfl (lv_at hl 1 rfl) ?_
  refine lv_iconst (v := 0) hx hb dX13_look_1 (by decide) ?_
  refine lv_bipush (v := 7) hx hb dX13_look_2 (by decide) ?_
  refine mGoQ (mRunS (As := [.int t, .int 0, .int 7]) (rest := []) C hml V (c_in l D cs o ad A S t 0 7  ) gM_in okM_in ⟨rfl, rfl, Nat.le_of_ble_eq_true rfl, Nat.le_of_ble_eq_true rfl⟩ hl.1 rfl (Nat.le_of_ble_eq_true rfl) dX13_look_4 ⟨Nat.zero_le _, Nat.zero_le _⟩) hS (fun r5 H locs hq6 V hS => ?_)
  obtain ⟨hq6, ghq6⟩ := hq6
  replace hG := gLt_e hG ghq6
  refine lv_if_eq (tgt := 19) hx hb dX13_look_7 (by decide) (fun c7 => ?_) (fun c7 => ?_)
  · replace hG := gIf_p hG c7
    exact j_look_19 l D cs o ad A S t w h1 C hml hr hlk   _ _ _ (trivial) hG V hS (lv_sub hl [0, 1, 2] rfl)
  · replace hG := gIf_n hG c7
    refine lv_iload_n hx hb dX13_look_10 rfl (lv_at hl 2 rfl) ?_
    refine lv_iconst (v := 0) hx hb dX13_look_11 (by decide) ?_
    refine lv_iconst (v := 5) hx hb dX13_look_12 (by decide) ?_
    refine mGoQ (mRunS (As := [.int w, .int 0, .int 5]) (rest := []) C hml V (c_in l D cs o ad A S w 0 5  ) gM_in okM_in ⟨rfl, rfl, Nat.le_of_ble_eq_true rfl, Nat.le_of_ble_eq_true rfl⟩ hl.1 rfl (Nat.le_of_ble_eq_true rfl) dX13_look_13 ⟨Nat.zero_le _, Nat.zero_le _⟩) hS (fun r9 H locs hq10 V hS => ?_)
    obtain ⟨hq10, ghq10⟩ := hq10
    replace hG := gLt_e hG ghq10
    refine lv_if_ne (tgt := 25) hx hb dX13_look_16 (by decide) (fun c11 => ?_) (fun c11 => ?_)
    · replace hG := gIf_n hG c11
      have ht : 0 ≤ t ∧ t < 8 := t8 (in_y hq6 c7)
      refine lv_aload_n hx hb dX13_look_25 rfl (lv_at hl 0 rfl) ?_
      refine lv_iconst (v := 0) hx hb dX13_look_26 (by decide) ?_
      refine mP0 C V hS dX13_look_27 (fun S12 H locs eS12 V hS => ?_)
      replace hG := gLt_e hG eS12
      have p1 := pb_I h1 eS12 (by decide) (by decide)
      refine lv_iload_n hx hb dX13_look_30 rfl (lv_at hl 2 rfl) ?_
      refine lv_if_ne (tgt := 41) hx hb dX13_look_31 (by decide) (fun c13 => ?_) (fun c13 => ?_)
      · replace hG := gIf_n hG c13
        refine lv_iload_n hx hb dX13_look_41 rfl (lv_at hl 2 rfl) ?_
        refine lv_iconst (v := 1) hx hb dX13_look_42 (by decide) ?_
        refine lv_icmp_ne (tgt := 53) hx hb dX13_look_43 (by decide) (fun c14 => ?_) (fun c14 => ?_)
        · replace hG := gIf_n hG c14
          refine lv_iload_n hx hb dX13_look_53 rfl (lv_at hl 2 rfl) ?_
          refine lv_iconst (v := 2) hx hb dX13_look_54 (by decide) ?_
          refine lv_icmp_ne (tgt := 88) hx hb dX13_look_55 (by decide) (fun c15 => ?_) (fun c15 => ?_)
          · replace hG := gIf_n hG c15
            refine lv_iload_n hx hb dX13_look_88 rfl (lv_at hl 2 rfl) ?_
            refine lv_iconst (v := 3) hx hb dX13_look_89 (by decide) ?_
            refine lv_icmp_ne (tgt := 114) hx hb dX13_look_90 (by decide) (fun c16 => ?_) (fun c16 => ?_)
            · replace hG := gIf_n hG c16
              refine lv_iload_n hx hb dX13_look_114 rfl (lv_at hl 2 rfl) ?_
              refine lv_iconst (v := 4) hx hb dX13_look_115 (by decide) ?_
              refine lv_icmp_ne (tgt := 134) hx hb dX13_look_116 (by decide) (fun c17 => ?_) (fun c17 => ?_)
              · replace hG := gIf_n hG c17
                refine lv_aload_n hx hb dX13_look_134 rfl (lv_at hl 0 rfl) ?_
                refine mG13 C V dX13_look_135 ?_
                refine lv_iload_n hx hb dX13_look_138 rfl (lv_at hl 1 rfl) ?_
                refine mLd13 C V (vin (N := 8) rfl (ht.1) (ht.2)) dX13_look_139 ?_
                refine lv_iconst (v := 5) hx hb dX13_look_140 (by decide) ?_
                refine lv_icmp_ne (tgt := 153) hx hb dX13_look_141 (by decide) (fun c18 => ?_) (fun c18 => ?_)
                · replace hG := gIf_n hG c18
                  refine lv_iconst (v := 0) hx hb dX13_look_153 (by decide) ?_
                  exact mRetI C hr hlk V hS (⟨by clear hG V hS hl C hts hown hx hb hml hr hlk; first | exact p1 | exact hj77, hG.symm⟩) dX13_look_154
                · replace hG := gIf_p hG c18
                  refine lv_aload_n hx hb dX13_look_144 rfl (lv_at hl 0 rfl) ?_
                  refine mG17 C V dX13_look_145 ?_
                  refine lv_iload_n hx hb dX13_look_148 rfl (lv_at hl 1 rfl) ?_
                  refine mLd17 C V (vin (N := 8) rfl (ht.1) (ht.2)) dX13_look_149 ?_
                  refine lv_goto (tgt := 154) hx hb dX13_look_150 (by decide) ?_
                  exact mRetI C hr hlk V hS (⟨by clear hG V hS hl C hts hown hx hb hml hr hlk; first | exact p1 | exact hj77, hG.symm⟩) dX13_look_154
              · replace hG := gIf_p hG c17
                refine lv_aload_n hx hb dX13_look_119 rfl (lv_at hl 0 rfl) ?_
                refine mG20 C V dX13_look_120 ?_
                refine lv_iload_n hx hb dX13_look_123 rfl (lv_at hl 1 rfl) ?_
                refine mLd20 C V (vin (N := 8) rfl (ht.1) (ht.2)) dX13_look_124 ?_
                refine lv_if_eq (tgt := 132) hx hb dX13_look_125 (by decide) (fun c19 => ?_) (fun c19 => ?_)
                · replace hG := gIf_p hG c19
                  refine lv_iconst (v := 0) hx hb dX13_look_132 (by decide) ?_
                  exact mRetI C hr hlk V hS (⟨by clear hG V hS hl C hts hown hx hb hml hr hlk; first | exact p1 | exact hj77, hG.symm⟩) dX13_look_133
                · replace hG := gIf_n hG c19
                  refine lv_iconst (v := 1) hx hb dX13_look_128 (by decide) ?_
                  refine lv_goto (tgt := 133) hx hb dX13_look_129 (by decide) ?_
                  exact mRetI C hr hlk V hS (⟨by clear hG V hS hl C hts hown hx hb hml hr hlk; first | exact p1 | exact hj77, hG.symm⟩) dX13_look_133
            · replace hG := gIf_p hG c16
              refine lv_aload_n hx hb dX13_look_93 rfl (lv_at hl 0 rfl) ?_
              refine mG13 C V dX13_look_94 ?_
              refine lv_iload_n hx hb dX13_look_97 rfl (lv_at hl 1 rfl) ?_
              refine mLd13 C V (vin (N := 8) rfl (ht.1) (ht.2)) dX13_look_98 ?_
              refine lv_iconst (v := 2) hx hb dX13_look_99 (by decide) ?_
              refine lv_icmp_ne (tgt := 112) hx hb dX13_look_100 (by decide) (fun c20 => ?_) (fun c20 => ?_)
              · replace hG := gIf_n hG c20
                refine lv_iconst (v := (-1)) hx hb dX13_look_112 (by decide) ?_
                exact mRetI C hr hlk V hS (⟨by clear hG V hS hl C hts hown hx hb hml hr hlk; first | exact p1 | exact hj77, hG.symm⟩) dX13_look_113
              · replace hG := gIf_p hG c20
                refine lv_aload_n hx hb dX13_look_103 rfl (lv_at hl 0 rfl) ?_
                refine mG16 C V dX13_look_104 ?_
                refine lv_iload_n hx hb dX13_look_107 rfl (lv_at hl 1 rfl) ?_
                refine mLd16 C V (vin (N := 8) rfl (ht.1) (ht.2)) dX13_look_108 ?_
                refine lv_goto (tgt := 113) hx hb dX13_look_109 (by decide) ?_
                exact mRetI C hr hlk V hS (⟨by clear hG V hS hl C hts hown hx hb hml hr hlk; first | exact p1 | exact hj77, hG.symm⟩) dX13_look_113
          · replace hG := gIf_p hG c15
            refine lv_aload_n hx hb dX13_look_58 rfl (lv_at hl 0 rfl) ?_
            refine mG13 C V dX13_look_59 ?_
            refine lv_iload_n hx hb dX13_look_62 rfl (lv_at hl 1 rfl) ?_
            refine mLd13 C V (vin (N := 8) rfl (ht.1) (ht.2)) dX13_look_63 ?_
            refine lv_if_eq (tgt := 77) hx hb dX13_look_64 (by decide) (fun c21 => ?_) (fun c21 => ?_)
            · replace hG := gIf_p hG c21
              exact j_look_77 l D cs o ad A S t w h1 C hml hr hlk  S12 _ _ _ (p1) hG V hS (lv_sub hl [0, 1, 2] rfl)
            · replace hG := gIf_n hG c21
              refine lv_aload_n hx hb dX13_look_67 rfl (lv_at hl 0 rfl) ?_
              refine mG13 C V dX13_look_68 ?_
              refine lv_iload_n hx hb dX13_look_71 rfl (lv_at hl 1 rfl) ?_
              refine mLd13 C V (vin (N := 8) rfl (ht.1) (ht.2)) dX13_look_72 ?_
              refine lv_iconst (v := 4) hx hb dX13_look_73 (by decide) ?_
              refine lv_icmp_ne (tgt := 81) hx hb dX13_look_74 (by decide) (fun c22 => ?_) (fun c22 => ?_)
              · replace hG := gIf_n hG c22
                refine lv_aload_n hx hb dX13_look_81 rfl (lv_at hl 0 rfl) ?_
                refine mG15 C V dX13_look_82 ?_
                refine lv_iload_n hx hb dX13_look_85 rfl (lv_at hl 1 rfl) ?_
                refine mLd15 C V (vin (N := 8) rfl (ht.1) (ht.2)) dX13_look_86 ?_
                exact mRetI C hr hlk V hS (⟨by clear hG V hS hl C hts hown hx hb hml hr hlk; first | exact p1 | exact hj77, hG.symm⟩) dX13_look_87
              · replace hG := gIf_p hG c22
                exact j_look_77 l D cs o ad A S t w h1 C hml hr hlk  S12 _ _ _ (p1) hG V hS (lv_sub hl [0, 1, 2] rfl)
        · replace hG := gIf_p hG c14
          refine lv_aload_n hx hb dX13_look_46 rfl (lv_at hl 0 rfl) ?_
          refine mG14 C V dX13_look_47 ?_
          refine lv_iload_n hx hb dX13_look_50 rfl (lv_at hl 1 rfl) ?_
          refine mLd14 C V (vin (N := 8) rfl (ht.1) (ht.2)) dX13_look_51 ?_
          exact mRetI C hr hlk V hS (⟨by clear hG V hS hl C hts hown hx hb hml hr hlk; first | exact p1 | exact hj77, hG.symm⟩) dX13_look_52
      · replace hG := gIf_p hG c13
        refine lv_aload_n hx hb dX13_look_34 rfl (lv_at hl 0 rfl) ?_
        refine mG13 C V dX13_look_35 ?_
        refine lv_iload_n hx hb dX13_look_38 rfl (lv_at hl 1 rfl) ?_
        refine mLd13 C V (vin (N := 8) rfl (ht.1) (ht.2)) dX13_look_39 ?_
        exact mRetI C hr hlk V hS (⟨by clear hG V hS hl C hts hown hx hb hml hr hlk; first | exact p1 | exact hj77, hG.symm⟩) dX13_look_40
    · replace hG := gIf_p hG c11
      exact j_look_19 l D cs o ad A S t w h1 C hml hr hlk   _ _ _ (trivial) hG V hS (lv_sub hl [0, 1, 2] rfl)
def G_sync_J81 (S : mS) (b : Int32) (w : Int32) (j81_3 : Int32) : Int64 × mS := gLt (sI S 0 0 : mS) (fun S1 => if (w : Int32) = 1 then ((((Int32.toInt64 (gA S1 33 b)) : Int64), S1)) else (if (w : Int32) = 2 then ((((Int32.toInt64 (gA S1 31 b)) : Int64), S1)) else (if (w : Int32) = 3 then ((((Int32.toInt64 (gA S1 35 b)) : Int64), S1)) else (if (w : Int32) = 4 then ((((Int32.toInt64 (gA S1 29 b)) : Int64), S1)) else (if (j81_3 : Int32) = 4 then ((((Int32.toInt64 (gA S1 33 b)) : Int64), S1)) else (if (j81_3 : Int32) = 5 then ((((Int32.toInt64 (gA S1 37 b)) : Int64), S1)) else (if (j81_3 : Int32) = 7 then (if ((gA S1 30 b) : Int32) = 0 then (((1099511627776 : Int64), S1)) else ((((Int32.toInt64 (gA S1 29 b)) : Int64), S1))) else ((((Int32.toInt64 (gA S1 29 b)) : Int64), S1)))))))))
def G_sync_J74 (S : mS) : Int64 × mS := gC (G_refuse S 3) (fun r11 S10 => (((Int32.toInt64 r11) : Int64), S10))
def G_sync_J64 (S : mS) (b : Int32) (w : Int32) (j64_3 : Int32) : Int64 × mS := if (w : Int32) = 4 then (if (j64_3 : Int32) = 5 then (G_sync_J81 S b w j64_3 ) else (G_sync_J74 S  )) else (G_sync_J81 S b w j64_3 )
def G_sync_J54 (S : mS) (b : Int32) (w : Int32) (j54_3 : Int32) : Int64 × mS := if (w : Int32) = 3 then (if (j54_3 : Int32) = 1 then (G_sync_J64 S b w j54_3 ) else (G_sync_J74 S  )) else (G_sync_J64 S b w j54_3 )
def G_sync (S : mS) (b : Int32) (w : Int32) : Int64 × mS := gLt (G_isThere S b : Int32) (fun r18 => if (r18 : Int32) = 0 then (gC (G_refuse S 1) (fun r33 S32 => (((Int32.toInt64 r33) : Int64), S32))) else (gLt (G_in S w 0 4 : Int32) (fun r22 => if (r22 : Int32) = 0 then (gC (G_refuse S 2) (fun r30 S29 => (((Int32.toInt64 r30) : Int64), S29))) else (gLt ((gA S 28 b) : Int32) (fun x25 => if (w : Int32) = 2 then (if (x25 : Int32) = 1 then (G_sync_J54 S b w x25 ) else (if (x25 : Int32) = 8 then (G_sync_J54 S b w x25 ) else (G_sync_J74 S  ))) else (G_sync_J54 S b w x25 ))))))
set_option maxHeartbeats 400000 in
set_option maxRecDepth 100000 in
theorem j_sync_81 {p : Program} {e : Env} {s : State} {m : MethodId} {below : List Frame} {meth : Method} {c : Code} (l : Launch) (D : va_G) (cs : ClassId × ClassId × ClassId) (o : Nat) (ad : Nat → Nat) (A : Nat → Prop) (S : mS) (b : Int32) (w : Int32)  (h1 : mInv S) (C : mC p s m ([.ref o, .int b, .int w] : List Value).toArray c cX13_sync D cs) (hml : c.maxLocals = 4) (hr : meth.sig.returnType = (some .long)) (hlk : meth.locks = false) (j81_3 : Int32)  (H : Heap) (locs : List Loc) (ls : Array Slot) (hj81 : 0 ≤ b ∧ b < 24) (hG : G_sync S b w = G_sync_J81 S b w j81_3) (V : mV D cs o ad A S H) (hS : va_S A s.heap H locs) (hl : lv_has ls 4 [(0, .ref o), (1, .int b), (2, .int w), (3, .int j81_3)]) : W p l e ({ frames := 2, cells := 0, slots := 0, locals := 43 } : Room) s m ([.ref o, .int b, .int w] : List Value).toArray below meth c H locs 0 0 (MQ below (va_Ql (fun r9 S9 => (mInv S9 ∧ gI S9 2 = gI S 2) ∧ (r9, S9) = G_sync S b w) (mB D cs o ad A) A) ([.ref o, .int b, .int w] : List Value).toArray s 0 0 A) (F0 m 81 ls []) := by
  have hx := C.1
  have hb := C.2.1
  have hown := C.2.2.1
  have hts := C.2.2.2.1
  have hb9 := id hj81
  rw [G_sync_J81] at hG
  refine lv_aload_n hx hb dX13_sync_81 rfl (lv_at hl 0 rfl) ?_
  refine lv_iconst (v := 0) hx hb dX13_sync_82 (by decide) ?_
  refine mP0 C V hS dX13_sync_83 (fun S1 H locs eS1 V hS => ?_)
  replace hG := gLt_e hG eS1
  have p1 := pb_I h1 eS1 (by decide) (by decide)
  refine lv_iload_n hx hb dX13_sync_86 rfl (lv_at hl 2 rfl) ?_
  refine lv_iconst (v := 1) hx hb dX13_sync_87 (by decide) ?_
  refine lv_icmp_ne (tgt := 99) hx hb dX13_sync_88 (by decide) (fun c2 => ?_) (fun c2 => ?_)
  · replace hG := gIf_n hG c2
    refine lv_iload_n hx hb dX13_sync_99 rfl (lv_at hl 2 rfl) ?_
    refine lv_iconst (v := 2) hx hb dX13_sync_100 (by decide) ?_
    refine lv_icmp_ne (tgt := 112) hx hb dX13_sync_101 (by decide) (fun c3 => ?_) (fun c3 => ?_)
    · replace hG := gIf_n hG c3
      refine lv_iload_n hx hb dX13_sync_112 rfl (lv_at hl 2 rfl) ?_
      refine lv_iconst (v := 3) hx hb dX13_sync_113 (by decide) ?_
      refine lv_icmp_ne (tgt := 125) hx hb dX13_sync_114 (by decide) (fun c4 => ?_) (fun c4 => ?_)
      · replace hG := gIf_n hG c4
        refine lv_iload_n hx hb dX13_sync_125 rfl (lv_at hl 2 rfl) ?_
        refine lv_iconst (v := 4) hx hb dX13_sync_126 (by decide) ?_
        refine lv_icmp_ne (tgt := 138) hx hb dX13_sync_127 (by decide) (fun c5 => ?_) (fun c5 => ?_)
        · replace hG := gIf_n hG c5
          refine lv_iload_n hx hb dX13_sync_138 rfl (lv_at hl 3 rfl) ?_
          refine lv_iconst (v := 4) hx hb dX13_sync_139 (by decide) ?_
          refine lv_icmp_ne (tgt := 151) hx hb dX13_sync_140 (by decide) (fun c6 => ?_) (fun c6 => ?_)
          · replace hG := gIf_n hG c6
            refine lv_iload_n hx hb dX13_sync_151 rfl (lv_at hl 3 rfl) ?_
            refine lv_iconst (v := 5) hx hb dX13_sync_152 (by decide) ?_
            refine lv_icmp_ne (tgt := 164) hx hb dX13_sync_153 (by decide) (fun c7 => ?_) (fun c7 => ?_)
            · replace hG := gIf_n hG c7
              refine lv_iload_n hx hb dX13_sync_164 rfl (lv_at hl 3 rfl) ?_
              refine lv_bipush (v := 7) hx hb dX13_sync_165 (by decide) ?_
              refine lv_icmp_ne (tgt := 185) hx hb dX13_sync_167 (by decide) (fun c8 => ?_) (fun c8 => ?_)
              · replace hG := gIf_n hG c8
                refine lv_aload_n hx hb dX13_sync_185 rfl (lv_at hl 0 rfl) ?_
                refine mG29 C V dX13_sync_186 ?_
                refine lv_iload_n hx hb dX13_sync_189 rfl (lv_at hl 1 rfl) ?_
                refine mLd29 C V (vin (N := 24) rfl (hb9.1) (hb9.2)) dX13_sync_190 ?_
                refine lv_i2l hx hb dX13_sync_191 rfl ?_
                exact mRetL C hr hlk V hS (⟨p1, hG.symm⟩) dX13_sync_192
              · replace hG := gIf_p hG c8
                refine lv_aload_n hx hb dX13_sync_170 rfl (lv_at hl 0 rfl) ?_
                refine mG30 C V dX13_sync_171 ?_
                refine lv_iload_n hx hb dX13_sync_174 rfl (lv_at hl 1 rfl) ?_
                refine mLd30 C V (vin (N := 24) rfl (hb9.1) (hb9.2)) dX13_sync_175 ?_
                refine lv_if_ne (tgt := 185) hx hb dX13_sync_176 (by decide) (fun c9 => ?_) (fun c9 => ?_)
                · replace hG := gIf_n hG c9
                  refine lv_aload_n hx hb dX13_sync_185 rfl (lv_at hl 0 rfl) ?_
                  refine mG29 C V dX13_sync_186 ?_
                  refine lv_iload_n hx hb dX13_sync_189 rfl (lv_at hl 1 rfl) ?_
                  refine mLd29 C V (vin (N := 24) rfl (hb9.1) (hb9.2)) dX13_sync_190 ?_
                  refine lv_i2l hx hb dX13_sync_191 rfl ?_
                  exact mRetL C hr hlk V hS (⟨p1, hG.symm⟩) dX13_sync_192
                · replace hG := gIf_p hG c9
                  refine lv_ldc2 hx hb hown (hts _ tMc311) dX13_sync_179 ?_
                  refine lv_goto (tgt := 192) hx hb dX13_sync_182 (by decide) ?_
                  exact mRetL C hr hlk V hS (⟨p1, hG.symm⟩) dX13_sync_192
            · replace hG := gIf_p hG c7
              refine lv_aload_n hx hb dX13_sync_156 rfl (lv_at hl 0 rfl) ?_
              refine mG37 C V dX13_sync_157 ?_
              refine lv_iload_n hx hb dX13_sync_160 rfl (lv_at hl 1 rfl) ?_
              refine mLd37 C V (vin (N := 24) rfl (hb9.1) (hb9.2)) dX13_sync_161 ?_
              refine lv_i2l hx hb dX13_sync_162 rfl ?_
              exact mRetL C hr hlk V hS (⟨p1, hG.symm⟩) dX13_sync_163
          · replace hG := gIf_p hG c6
            refine lv_aload_n hx hb dX13_sync_143 rfl (lv_at hl 0 rfl) ?_
            refine mG33 C V dX13_sync_144 ?_
            refine lv_iload_n hx hb dX13_sync_147 rfl (lv_at hl 1 rfl) ?_
            refine mLd33 C V (vin (N := 24) rfl (hb9.1) (hb9.2)) dX13_sync_148 ?_
            refine lv_i2l hx hb dX13_sync_149 rfl ?_
            exact mRetL C hr hlk V hS (⟨p1, hG.symm⟩) dX13_sync_150
        · replace hG := gIf_p hG c5
          refine lv_aload_n hx hb dX13_sync_130 rfl (lv_at hl 0 rfl) ?_
          refine mG29 C V dX13_sync_131 ?_
          refine lv_iload_n hx hb dX13_sync_134 rfl (lv_at hl 1 rfl) ?_
          refine mLd29 C V (vin (N := 24) rfl (hb9.1) (hb9.2)) dX13_sync_135 ?_
          refine lv_i2l hx hb dX13_sync_136 rfl ?_
          exact mRetL C hr hlk V hS (⟨p1, hG.symm⟩) dX13_sync_137
      · replace hG := gIf_p hG c4
        refine lv_aload_n hx hb dX13_sync_117 rfl (lv_at hl 0 rfl) ?_
        refine mG35 C V dX13_sync_118 ?_
        refine lv_iload_n hx hb dX13_sync_121 rfl (lv_at hl 1 rfl) ?_
        refine mLd35 C V (vin (N := 24) rfl (hb9.1) (hb9.2)) dX13_sync_122 ?_
        refine lv_i2l hx hb dX13_sync_123 rfl ?_
        exact mRetL C hr hlk V hS (⟨p1, hG.symm⟩) dX13_sync_124
    · replace hG := gIf_p hG c3
      refine lv_aload_n hx hb dX13_sync_104 rfl (lv_at hl 0 rfl) ?_
      refine mG31 C V dX13_sync_105 ?_
      refine lv_iload_n hx hb dX13_sync_108 rfl (lv_at hl 1 rfl) ?_
      refine mLd31 C V (vin (N := 24) rfl (hb9.1) (hb9.2)) dX13_sync_109 ?_
      refine lv_i2l hx hb dX13_sync_110 rfl ?_
      exact mRetL C hr hlk V hS (⟨p1, hG.symm⟩) dX13_sync_111
  · replace hG := gIf_p hG c2
    refine lv_aload_n hx hb dX13_sync_91 rfl (lv_at hl 0 rfl) ?_
    refine mG33 C V dX13_sync_92 ?_
    refine lv_iload_n hx hb dX13_sync_95 rfl (lv_at hl 1 rfl) ?_
    refine mLd33 C V (vin (N := 24) rfl (hb9.1) (hb9.2)) dX13_sync_96 ?_
    refine lv_i2l hx hb dX13_sync_97 rfl ?_
    exact mRetL C hr hlk V hS (⟨p1, hG.symm⟩) dX13_sync_98
set_option maxHeartbeats 400000 in
set_option maxRecDepth 100000 in
theorem j_sync_74 {p : Program} {e : Env} {s : State} {m : MethodId} {below : List Frame} {meth : Method} {c : Code} (l : Launch) (D : va_G) (cs : ClassId × ClassId × ClassId) (o : Nat) (ad : Nat → Nat) (A : Nat → Prop) (S : mS) (b : Int32) (w : Int32)  (h1 : mInv S) (C : mC p s m ([.ref o, .int b, .int w] : List Value).toArray c cX13_sync D cs) (hml : c.maxLocals = 4) (hr : meth.sig.returnType = (some .long)) (hlk : meth.locks = false)   (H : Heap) (locs : List Loc) (ls : Array Slot) (hj74 : True) (hG : G_sync S b w = G_sync_J74 S ) (V : mV D cs o ad A S H) (hS : va_S A s.heap H locs) (hl : lv_has ls 4 [(0, .ref o)]) : W p l e ({ frames := 2, cells := 0, slots := 0, locals := 43 } : Room) s m ([.ref o, .int b, .int w] : List Value).toArray below meth c H locs 0 0 (MQ below (va_Ql (fun r9 S9 => (mInv S9 ∧ gI S9 2 = gI S 2) ∧ (r9, S9) = G_sync S b w) (mB D cs o ad A) A) ([.ref o, .int b, .int w] : List Value).toArray s 0 0 A) (F0 m 74 ls []) := by
  have hx := C.1
  have hb := C.2.1
  have hown := C.2.2.1
  have hts := C.2.2.2.1
  rw [G_sync_J74] at hG
  refine lv_aload_n hx hb dX13_sync_74 rfl (lv_at hl 0 rfl) ?_
  refine lv_iconst (v := 3) hx hb dX13_sync_75 (by decide) ?_
  refine mGoI (mRunV (As := [.int 3]) (rest := []) C hml V (c_refuse l D cs o ad A S 3  ) gM_refuse okM_refuse ⟨rfl, rfl, Nat.le_of_ble_eq_true rfl, Nat.le_of_ble_eq_true rfl⟩ hl.1 rfl (Nat.le_of_ble_eq_true rfl) dX13_sync_76 ⟨Nat.zero_le _, Nat.zero_le _⟩) hS (fun r11 S10 H locs hq12 V hS => ?_)
  obtain ⟨hq12, ghq12⟩ := hq12
  replace hG := gC_e hG ghq12
  refine lv_i2l hx hb dX13_sync_79 rfl ?_
  exact mRetL C hr hlk V hS (⟨pb_I h1 hq12.2 (by clear hG V hS hl C hts hown hx hb hml hr hlk; decide) (by clear hG V hS hl C hts hown hx hb hml hr hlk; decide), hG.symm⟩) dX13_sync_80
set_option maxHeartbeats 400000 in
set_option maxRecDepth 100000 in
theorem j_sync_64 {p : Program} {e : Env} {s : State} {m : MethodId} {below : List Frame} {meth : Method} {c : Code} (l : Launch) (D : va_G) (cs : ClassId × ClassId × ClassId) (o : Nat) (ad : Nat → Nat) (A : Nat → Prop) (S : mS) (b : Int32) (w : Int32)  (h1 : mInv S) (C : mC p s m ([.ref o, .int b, .int w] : List Value).toArray c cX13_sync D cs) (hml : c.maxLocals = 4) (hr : meth.sig.returnType = (some .long)) (hlk : meth.locks = false) (j64_3 : Int32)  (H : Heap) (locs : List Loc) (ls : Array Slot) (hj64 : 0 ≤ b ∧ b < 24) (hG : G_sync S b w = G_sync_J64 S b w j64_3) (V : mV D cs o ad A S H) (hS : va_S A s.heap H locs) (hl : lv_has ls 4 [(0, .ref o), (1, .int b), (2, .int w), (3, .int j64_3)]) : W p l e ({ frames := 2, cells := 0, slots := 0, locals := 43 } : Room) s m ([.ref o, .int b, .int w] : List Value).toArray below meth c H locs 0 0 (MQ below (va_Ql (fun r9 S9 => (mInv S9 ∧ gI S9 2 = gI S 2) ∧ (r9, S9) = G_sync S b w) (mB D cs o ad A) A) ([.ref o, .int b, .int w] : List Value).toArray s 0 0 A) (F0 m 64 ls []) := by
  have hx := C.1
  have hb := C.2.1
  have hown := C.2.2.1
  have hts := C.2.2.2.1
  have hb9 := id hj64
  rw [G_sync_J64] at hG
  refine lv_iload_n hx hb dX13_sync_64 rfl (lv_at hl 2 rfl) ?_
  refine lv_iconst (v := 4) hx hb dX13_sync_65 (by decide) ?_
  refine lv_icmp_ne (tgt := 81) hx hb dX13_sync_66 (by decide) (fun c13 => ?_) (fun c13 => ?_)
  · replace hG := gIf_n hG c13
    exact j_sync_81 l D cs o ad A S b w h1 C hml hr hlk j64_3  _ _ _ (by clear hG V hS hl C hts hown hx hb hml hr hlk; first | exact hb9 | exact hj54 | exact hj64) hG V hS (lv_sub hl [0, 1, 2, 3] rfl)
  · replace hG := gIf_p hG c13
    refine lv_iload_n hx hb dX13_sync_69 rfl (lv_at hl 3 rfl) ?_
    refine lv_iconst (v := 5) hx hb dX13_sync_70 (by decide) ?_
    refine lv_icmp_eq (tgt := 81) hx hb dX13_sync_71 (by decide) (fun c14 => ?_) (fun c14 => ?_)
    · replace hG := gIf_p hG c14
      exact j_sync_81 l D cs o ad A S b w h1 C hml hr hlk j64_3  _ _ _ (by clear hG V hS hl C hts hown hx hb hml hr hlk; first | exact hb9 | exact hj54 | exact hj64) hG V hS (lv_sub hl [0, 1, 2, 3] rfl)
    · replace hG := gIf_n hG c14
      exact j_sync_74 l D cs o ad A S b w h1 C hml hr hlk   _ _ _ (trivial) hG V hS (lv_sub hl [0] rfl)
set_option maxHeartbeats 400000 in
set_option maxRecDepth 100000 in
theorem j_sync_54 {p : Program} {e : Env} {s : State} {m : MethodId} {below : List Frame} {meth : Method} {c : Code} (l : Launch) (D : va_G) (cs : ClassId × ClassId × ClassId) (o : Nat) (ad : Nat → Nat) (A : Nat → Prop) (S : mS) (b : Int32) (w : Int32)  (h1 : mInv S) (C : mC p s m ([.ref o, .int b, .int w] : List Value).toArray c cX13_sync D cs) (hml : c.maxLocals = 4) (hr : meth.sig.returnType = (some .long)) (hlk : meth.locks = false) (j54_3 : Int32)  (H : Heap) (locs : List Loc) (ls : Array Slot) (hj54 : 0 ≤ b ∧ b < 24) (hG : G_sync S b w = G_sync_J54 S b w j54_3) (V : mV D cs o ad A S H) (hS : va_S A s.heap H locs) (hl : lv_has ls 4 [(0, .ref o), (1, .int b), (2, .int w), (3, .int j54_3)]) : W p l e ({ frames := 2, cells := 0, slots := 0, locals := 43 } : Room) s m ([.ref o, .int b, .int w] : List Value).toArray below meth c H locs 0 0 (MQ below (va_Ql (fun r9 S9 => (mInv S9 ∧ gI S9 2 = gI S 2) ∧ (r9, S9) = G_sync S b w) (mB D cs o ad A) A) ([.ref o, .int b, .int w] : List Value).toArray s 0 0 A) (F0 m 54 ls []) := by
  have hx := C.1
  have hb := C.2.1
  have hown := C.2.2.1
  have hts := C.2.2.2.1
  have hb9 := id hj54
  rw [G_sync_J54] at hG
  refine lv_iload_n hx hb dX13_sync_54 rfl (lv_at hl 2 rfl) ?_
  refine lv_iconst (v := 3) hx hb dX13_sync_55 (by decide) ?_
  refine lv_icmp_ne (tgt := 64) hx hb dX13_sync_56 (by decide) (fun c15 => ?_) (fun c15 => ?_)
  · replace hG := gIf_n hG c15
    exact j_sync_64 l D cs o ad A S b w h1 C hml hr hlk j54_3  _ _ _ (by clear hG V hS hl C hts hown hx hb hml hr hlk; first | exact hb9 | exact hj54 | exact hj64) hG V hS (lv_sub hl [0, 1, 2, 3] rfl)
  · replace hG := gIf_p hG c15
    refine lv_iload_n hx hb dX13_sync_59 rfl (lv_at hl 3 rfl) ?_
    refine lv_iconst (v := 1) hx hb dX13_sync_60 (by decide) ?_
    refine lv_icmp_ne (tgt := 74) hx hb dX13_sync_61 (by decide) (fun c16 => ?_) (fun c16 => ?_)
    · replace hG := gIf_n hG c16
      exact j_sync_74 l D cs o ad A S b w h1 C hml hr hlk   _ _ _ (trivial) hG V hS (lv_sub hl [0] rfl)
    · replace hG := gIf_p hG c16
      exact j_sync_64 l D cs o ad A S b w h1 C hml hr hlk j54_3  _ _ _ (by clear hG V hS hl C hts hown hx hb hml hr hlk; first | exact hb9 | exact hj54 | exact hj64) hG V hS (lv_sub hl [0, 1, 2, 3] rfl)
set_option maxHeartbeats 400000 in
set_option maxRecDepth 100000 in
theorem c_sync (l : Launch) (D : va_G) (cs : ClassId × ClassId × ClassId) (o : Nat) (ad : Nat → Nat) (A : Nat → Prop) (S : mS) (b : Int32) (w : Int32)  (h1 : mInv S) : Met l yX13_sync (Cond.code yX13_sync cX13_sync 4 (some .long) :: tM) ({ frames := 2, cells := 0, slots := 0, locals := 43 }) (va_Pc [.ref o, .int b, .int w] (mB D cs o ad A S)) (va_Ql (fun r9 S9 => (mInv S9 ∧ gI S9 2 = gI S 2) ∧ (r9, S9) = G_sync S b w) (mB D cs o ad A) A) 0 0 A := by
  refine mMet (by decide) rfl (Nat.le_of_ble_eq_true rfl) ?_
  intro p e s m below meth c ls C hml hr hlk V hl
  have hx := C.1
  have hb := C.2.1
  have hown := C.2.2.1
  have hts := C.2.2.2.1
  have hS : va_S A s.heap s.heap [] := va_S.rf
  have hl : lv_has ls 4 [(0, .ref o), (1, .int b), (2, .int w)] := hl
  have hG := G_sync.eq_1 S b w
  refine lv_aload_n hx hb dX13_sync_0 rfl (lv_at hl 0 rfl) ?_
  refine lv_iload_n hx hb dX13_sync_1 rfl (lv_at hl 1 rfl) ?_
  refine mGoQ (mRunV (As := [.int b]) (rest := []) C hml V (c_isThere l D cs o ad A S b  ) gM_isThere okM_isThere ⟨rfl, rfl, Nat.le_of_ble_eq_true rfl, Nat.le_of_ble_eq_true rfl⟩ hl.1 rfl (Nat.le_of_ble_eq_true rfl) dX13_sync_2 ⟨Nat.zero_le _, Nat.zero_le _⟩) hS (fun r18 H locs hq19 V hS => ?_)
  obtain ⟨hq19, ghq19⟩ := hq19
  replace hG := gLt_e hG ghq19
  refine lv_if_ne (tgt := 15) hx hb dX13_sync_5 (by decide) (fun c20 => ?_) (fun c20 => ?_)
  · replace hG := gIf_n hG c20
    have hb9 : 0 ≤ b ∧ b < 24 := by rcases hq19 with z | z; exact ⟨z.2.1, z.2.2.1⟩; exact absurd z.1 c20
    refine lv_iload_n hx hb dX13_sync_15 rfl (lv_at hl 2 rfl) ?_
    refine lv_iconst (v := 0) hx hb dX13_sync_16 (by decide) ?_
    refine lv_iconst (v := 4) hx hb dX13_sync_17 (by decide) ?_
    refine mGoQ (mRunS (As := [.int w, .int 0, .int 4]) (rest := []) C hml V (c_in l D cs o ad A S w 0 4  ) gM_in okM_in ⟨rfl, rfl, Nat.le_of_ble_eq_true rfl, Nat.le_of_ble_eq_true rfl⟩ hl.1 rfl (Nat.le_of_ble_eq_true rfl) dX13_sync_18 ⟨Nat.zero_le _, Nat.zero_le _⟩) hS (fun r22 H locs hq23 V hS => ?_)
    obtain ⟨hq23, ghq23⟩ := hq23
    replace hG := gLt_e hG ghq23
    refine lv_if_ne (tgt := 31) hx hb dX13_sync_21 (by decide) (fun c24 => ?_) (fun c24 => ?_)
    · replace hG := gIf_n hG c24
      refine lv_aload_n hx hb dX13_sync_31 rfl (lv_at hl 0 rfl) ?_
      refine mG28 C V dX13_sync_32 ?_
      refine lv_iload_n hx hb dX13_sync_35 rfl (lv_at hl 1 rfl) ?_
      refine mLd28 C V (vin (N := 24) rfl (hb9.1) (hb9.2)) dX13_sync_36 ?_
      refine lv_topi (fun x25 ex25 => ?_)
      replace hG := gLt_e hG ex25
      refine lv_istore_n (lv' := [(3, .int x25), (0, .ref o), (1, .int b), (2, .int w)]) hx hb dX13_sync_37 rfl hl (by decide) rfl (fun ls hl => ?_)
      refine lv_iload_n hx hb dX13_sync_38 rfl (lv_at hl 3 rfl) ?_
      refine lv_iconst (v := 2) hx hb dX13_sync_39 (by decide) ?_
      refine lv_icmp_ne (tgt := 54) hx hb dX13_sync_40 (by decide) (fun c26 => ?_) (fun c26 => ?_)
      · replace hG := gIf_n hG c26
        exact j_sync_54 l D cs o ad A S b w h1 C hml hr hlk x25  _ _ _ (by clear hG V hS hl C hts hown hx hb hml hr hlk; first | exact hb9 | exact hj54 | exact hj64) hG V hS (lv_sub hl [1, 2, 3, 0] rfl)
      · replace hG := gIf_p hG c26
        refine lv_iload_n hx hb dX13_sync_43 rfl (lv_at hl 0 rfl) ?_
        refine lv_iconst (v := 1) hx hb dX13_sync_44 (by decide) ?_
        refine lv_icmp_eq (tgt := 54) hx hb dX13_sync_45 (by decide) (fun c27 => ?_) (fun c27 => ?_)
        · replace hG := gIf_p hG c27
          exact j_sync_54 l D cs o ad A S b w h1 C hml hr hlk x25  _ _ _ (by clear hG V hS hl C hts hown hx hb hml hr hlk; first | exact hb9 | exact hj54 | exact hj64) hG V hS (lv_sub hl [1, 2, 3, 0] rfl)
        · replace hG := gIf_n hG c27
          refine lv_iload_n hx hb dX13_sync_48 rfl (lv_at hl 0 rfl) ?_
          refine lv_bipush (v := 8) hx hb dX13_sync_49 (by decide) ?_
          refine lv_icmp_ne (tgt := 74) hx hb dX13_sync_51 (by decide) (fun c28 => ?_) (fun c28 => ?_)
          · replace hG := gIf_n hG c28
            exact j_sync_74 l D cs o ad A S b w h1 C hml hr hlk   _ _ _ (trivial) hG V hS (lv_sub hl [1] rfl)
          · replace hG := gIf_p hG c28
            exact j_sync_54 l D cs o ad A S b w h1 C hml hr hlk x25  _ _ _ (by clear hG V hS hl C hts hown hx hb hml hr hlk; first | exact hb9 | exact hj54 | exact hj64) hG V hS (lv_sub hl [1, 2, 3, 0] rfl)
    · replace hG := gIf_p hG c24
      refine lv_aload_n hx hb dX13_sync_24 rfl (lv_at hl 0 rfl) ?_
      refine lv_iconst (v := 2) hx hb dX13_sync_25 (by decide) ?_
      refine mGoI (mRunV (As := [.int 2]) (rest := []) C hml V (c_refuse l D cs o ad A S 2  ) gM_refuse okM_refuse ⟨rfl, rfl, Nat.le_of_ble_eq_true rfl, Nat.le_of_ble_eq_true rfl⟩ hl.1 rfl (Nat.le_of_ble_eq_true rfl) dX13_sync_26 ⟨Nat.zero_le _, Nat.zero_le _⟩) hS (fun r30 S29 H locs hq31 V hS => ?_)
      obtain ⟨hq31, ghq31⟩ := hq31
      replace hG := gC_e hG ghq31
      refine lv_i2l hx hb dX13_sync_29 rfl ?_
      exact mRetL C hr hlk V hS (⟨pb_I h1 hq31.2 (by clear hG V hS hl C hts hown hx hb hml hr hlk; decide) (by clear hG V hS hl C hts hown hx hb hml hr hlk; decide), hG.symm⟩) dX13_sync_30
  · replace hG := gIf_p hG c20
    refine lv_aload_n hx hb dX13_sync_8 rfl (lv_at hl 0 rfl) ?_
    refine lv_iconst (v := 1) hx hb dX13_sync_9 (by decide) ?_
    refine mGoI (mRunV (As := [.int 1]) (rest := []) C hml V (c_refuse l D cs o ad A S 1  ) gM_refuse okM_refuse ⟨rfl, rfl, Nat.le_of_ble_eq_true rfl, Nat.le_of_ble_eq_true rfl⟩ hl.1 rfl (Nat.le_of_ble_eq_true rfl) dX13_sync_10 ⟨Nat.zero_le _, Nat.zero_le _⟩) hS (fun r33 S32 H locs hq34 V hS => ?_)
    obtain ⟨hq34, ghq34⟩ := hq34
    replace hG := gC_e hG ghq34
    refine lv_i2l hx hb dX13_sync_13 rfl ?_
    exact mRetL C hr hlk V hS (⟨pb_I h1 hq34.2 (by clear hG V hS hl C hts hown hx hb hml hr hlk; decide) (by clear hG V hS hl C hts hown hx hb hml hr hlk; decide), hG.symm⟩) dX13_sync_14
def G_count_J27 (S : mS) (w : Int32) : Int64 × mS := gLt (sI S 0 0 : mS) (fun S1 => if (w : Int32) = 0 then ((((Int32.toInt64 (gI S1 2)) : Int64), S1)) else (if (w : Int32) = 1 then (gLt (G_objects S1  : Int32) (fun r8 => (((Int32.toInt64 r8) : Int64), S1))) else (if (w : Int32) = 2 then ((((Int32.toInt64 (gI S1 3)) : Int64), S1)) else (if (w : Int32) = 3 then ((((gJ S1 24) : Int64), S1)) else (if (w : Int32) = 4 then ((((gJ S1 25) : Int64), S1)) else ((((Int32.toInt64 ((gA S1 28 (w - 10)) - 1)) : Int64), S1)))))))
def G_count (S : mS) (w : Int32) : Int64 × mS := gLt (G_in S w 0 4 : Int32) (fun r11 => if (r11 : Int32) = 0 then (gLt (G_in S w 10 33 : Int32) (fun r15 => if (r15 : Int32) = 0 then (gC (G_refuse S 1) (fun r19 S18 => (((Int32.toInt64 r19) : Int64), S18))) else (G_count_J27 S w  ))) else (G_count_J27 S w  ))
set_option maxHeartbeats 400000 in
set_option maxRecDepth 100000 in
theorem j_count_27 {p : Program} {e : Env} {s : State} {m : MethodId} {below : List Frame} {meth : Method} {c : Code} (l : Launch) (D : va_G) (cs : ClassId × ClassId × ClassId) (o : Nat) (ad : Nat → Nat) (A : Nat → Prop) (S : mS) (w : Int32)  (h1 : mInv S) (C : mC p s m ([.ref o, .int w] : List Value).toArray c cX13_count D cs) (hml : c.maxLocals = 2) (hr : meth.sig.returnType = (some .long)) (hlk : meth.locks = false)   (H : Heap) (locs : List Loc) (ls : Array Slot) (hj27 : (0 ≤ w ∧ w ≤ 4) ∨ (0 ≤ w - 10 ∧ w - 10 < 24)) (hG : G_count S w = G_count_J27 S w ) (V : mV D cs o ad A S H) (hS : va_S A s.heap H locs) (hl : lv_has ls 2 [(0, .ref o), (1, .int w)]) : W p l e ({ frames := 1, cells := 0, slots := 0, locals := 22 } : Room) s m ([.ref o, .int w] : List Value).toArray below meth c H locs 0 0 (MQ below (va_Ql (fun r9 S9 => (mInv S9 ∧ gI S9 2 = gI S 2) ∧ (r9, S9) = G_count S w) (mB D cs o ad A) A) ([.ref o, .int w] : List Value).toArray s 0 0 A) (F0 m 27 ls []) := by
  have hx := C.1
  have hb := C.2.1
  have hown := C.2.2.1
  have hts := C.2.2.2.1
  rw [G_count_J27] at hG
  refine lv_aload_n hx hb dX13_count_27 rfl (lv_at hl 0 rfl) ?_
  refine lv_iconst (v := 0) hx hb dX13_count_28 (by decide) ?_
  refine mP0 C V hS dX13_count_29 (fun S1 H locs eS1 V hS => ?_)
  replace hG := gLt_e hG eS1
  have p1 := pb_I h1 eS1 (by decide) (by decide)
  refine lv_iload_n hx hb dX13_count_32 rfl (lv_at hl 1 rfl) ?_
  refine lv_if_ne (tgt := 42) hx hb dX13_count_33 (by decide) (fun c2 => ?_) (fun c2 => ?_)
  · replace hG := gIf_n hG c2
    refine lv_iload_n hx hb dX13_count_42 rfl (lv_at hl 1 rfl) ?_
    refine lv_iconst (v := 1) hx hb dX13_count_43 (by decide) ?_
    refine lv_icmp_ne (tgt := 53) hx hb dX13_count_44 (by decide) (fun c3 => ?_) (fun c3 => ?_)
    · replace hG := gIf_n hG c3
      refine lv_iload_n hx hb dX13_count_53 rfl (lv_at hl 1 rfl) ?_
      refine lv_iconst (v := 2) hx hb dX13_count_54 (by decide) ?_
      refine lv_icmp_ne (tgt := 64) hx hb dX13_count_55 (by decide) (fun c4 => ?_) (fun c4 => ?_)
      · replace hG := gIf_n hG c4
        refine lv_iload_n hx hb dX13_count_64 rfl (lv_at hl 1 rfl) ?_
        refine lv_iconst (v := 3) hx hb dX13_count_65 (by decide) ?_
        refine lv_icmp_ne (tgt := 74) hx hb dX13_count_66 (by decide) (fun c5 => ?_) (fun c5 => ?_)
        · replace hG := gIf_n hG c5
          refine lv_iload_n hx hb dX13_count_74 rfl (lv_at hl 1 rfl) ?_
          refine lv_iconst (v := 4) hx hb dX13_count_75 (by decide) ?_
          refine lv_icmp_ne (tgt := 86) hx hb dX13_count_76 (by decide) (fun c6 => ?_) (fun c6 => ?_)
          · replace hG := gIf_n hG c6
            have w9 : 0 ≤ w - 10 ∧ w - 10 < 24 := by rcases hj27 with q | q; exact absurd (a_c5 q c2 c3 c4 c5 c6) id; exact q
            refine lv_aload_n hx hb dX13_count_86 rfl (lv_at hl 0 rfl) ?_
            refine mG28 C V dX13_count_87 ?_
            refine lv_iload_n hx hb dX13_count_90 rfl (lv_at hl 1 rfl) ?_
            refine lv_bipush (v := 10) hx hb dX13_count_91 (by decide) ?_
            refine lv_isub hx hb dX13_count_93 ?_
            refine mLd28 C V (vin (N := 24) rfl (w9.1) (w9.2)) dX13_count_94 ?_
            refine lv_iconst (v := 1) hx hb dX13_count_95 (by decide) ?_
            refine lv_isub hx hb dX13_count_96 ?_
            refine lv_i2l hx hb dX13_count_97 rfl ?_
            exact mRetL C hr hlk V hS (⟨p1, hG.symm⟩) dX13_count_98
          · replace hG := gIf_p hG c6
            refine lv_aload_n hx hb dX13_count_79 rfl (lv_at hl 0 rfl) ?_
            refine mG25 C V dX13_count_80 ?_
            refine lv_goto (tgt := 98) hx hb dX13_count_83 (by decide) ?_
            exact mRetL C hr hlk V hS (⟨p1, hG.symm⟩) dX13_count_98
        · replace hG := gIf_p hG c5
          refine lv_aload_n hx hb dX13_count_69 rfl (lv_at hl 0 rfl) ?_
          refine mG24 C V dX13_count_70 ?_
          exact mRetL C hr hlk V hS (⟨p1, hG.symm⟩) dX13_count_73
      · replace hG := gIf_p hG c4
        refine lv_aload_n hx hb dX13_count_58 rfl (lv_at hl 0 rfl) ?_
        refine mG3 C V dX13_count_59 ?_
        refine lv_i2l hx hb dX13_count_62 rfl ?_
        exact mRetL C hr hlk V hS (⟨p1, hG.symm⟩) dX13_count_63
    · replace hG := gIf_p hG c3
      refine lv_aload_n hx hb dX13_count_47 rfl (lv_at hl 0 rfl) ?_
      refine mGoQ (mRunV (As := []) (rest := []) C hml V (c_objects l D cs o ad A S1   ) gM_objects okM_objects ⟨rfl, rfl, Nat.le_of_ble_eq_true rfl, Nat.le_of_ble_eq_true rfl⟩ hl.1 rfl (Nat.le_of_ble_eq_true rfl) dX13_count_48 ⟨Nat.zero_le _, Nat.zero_le _⟩) hS (fun r8 H locs hq9 V hS => ?_)
      obtain ⟨hq9, ghq9⟩ := hq9
      replace hG := gLt_e hG ghq9
      refine lv_i2l hx hb dX13_count_51 rfl ?_
      exact mRetL C hr hlk V hS (⟨p1, hG.symm⟩) dX13_count_52
  · replace hG := gIf_p hG c2
    refine lv_aload_n hx hb dX13_count_36 rfl (lv_at hl 0 rfl) ?_
    refine mG2 C V dX13_count_37 ?_
    refine lv_i2l hx hb dX13_count_40 rfl ?_
    exact mRetL C hr hlk V hS (⟨p1, hG.symm⟩) dX13_count_41
set_option maxHeartbeats 400000 in
set_option maxRecDepth 100000 in
theorem c_count (l : Launch) (D : va_G) (cs : ClassId × ClassId × ClassId) (o : Nat) (ad : Nat → Nat) (A : Nat → Prop) (S : mS) (w : Int32)  (h1 : mInv S) : Met l yX13_count (Cond.code yX13_count cX13_count 2 (some .long) :: tM) ({ frames := 1, cells := 0, slots := 0, locals := 22 }) (va_Pc [.ref o, .int w] (mB D cs o ad A S)) (va_Ql (fun r9 S9 => (mInv S9 ∧ gI S9 2 = gI S 2) ∧ (r9, S9) = G_count S w) (mB D cs o ad A) A) 0 0 A := by
  refine mMet (by decide) rfl (Nat.le_of_ble_eq_true rfl) ?_
  intro p e s m below meth c ls C hml hr hlk V hl
  have hx := C.1
  have hb := C.2.1
  have hown := C.2.2.1
  have hts := C.2.2.2.1
  have hS : va_S A s.heap s.heap [] := va_S.rf
  have hl : lv_has ls 2 [(0, .ref o), (1, .int w)] := hl
  have hG := G_count.eq_1 S w
  refine lv_iload_n hx hb dX13_count_0 rfl (lv_at hl 1 rfl) ?_
  refine lv_iconst (v := 0) hx hb dX13_count_1 (by decide) ?_
  refine lv_iconst (v := 4) hx hb dX13_count_2 (by decide) ?_
  refine mGoQ (mRunS (As := [.int w, .int 0, .int 4]) (rest := []) C hml V (c_in l D cs o ad A S w 0 4  ) gM_in okM_in ⟨rfl, rfl, Nat.le_of_ble_eq_true rfl, Nat.le_of_ble_eq_true rfl⟩ hl.1 rfl (Nat.le_of_ble_eq_true rfl) dX13_count_3 ⟨Nat.zero_le _, Nat.zero_le _⟩) hS (fun r11 H locs hq12 V hS => ?_)
  obtain ⟨hq12, ghq12⟩ := hq12
  replace hG := gLt_e hG ghq12
  refine lv_if_ne (tgt := 27) hx hb dX13_count_6 (by decide) (fun c13 => ?_) (fun c13 => ?_)
  · replace hG := gIf_n hG c13
    exact j_count_27 l D cs o ad A S w h1 C hml hr hlk   _ _ _ (by clear hG V hS hl C hts hown hx hb hml hr hlk; first | exact Or.inl (in_y hq12 c13) | exact Or.inr (a_cnt nope9 nope9)) hG V hS (lv_sub hl [0, 1] rfl)
  · replace hG := gIf_p hG c13
    refine lv_iload_n hx hb dX13_count_9 rfl (lv_at hl 1 rfl) ?_
    refine lv_bipush (v := 10) hx hb dX13_count_10 (by decide) ?_
    refine lv_bipush (v := 33) hx hb dX13_count_12 (by decide) ?_
    refine mGoQ (mRunS (As := [.int w, .int 10, .int 33]) (rest := []) C hml V (c_in l D cs o ad A S w 10 33  ) gM_in okM_in ⟨rfl, rfl, Nat.le_of_ble_eq_true rfl, Nat.le_of_ble_eq_true rfl⟩ hl.1 rfl (Nat.le_of_ble_eq_true rfl) dX13_count_14 ⟨Nat.zero_le _, Nat.zero_le _⟩) hS (fun r15 H locs hq16 V hS => ?_)
    obtain ⟨hq16, ghq16⟩ := hq16
    replace hG := gLt_e hG ghq16
    refine lv_if_ne (tgt := 27) hx hb dX13_count_17 (by decide) (fun c17 => ?_) (fun c17 => ?_)
    · replace hG := gIf_n hG c17
      exact j_count_27 l D cs o ad A S w h1 C hml hr hlk   _ _ _ (by clear hG V hS hl C hts hown hx hb hml hr hlk; first | exact Or.inl (in_y hq12 c13) | exact Or.inr (a_cnt hq16 c17)) hG V hS (lv_sub hl [0, 1] rfl)
    · replace hG := gIf_p hG c17
      refine lv_aload_n hx hb dX13_count_20 rfl (lv_at hl 0 rfl) ?_
      refine lv_iconst (v := 1) hx hb dX13_count_21 (by decide) ?_
      refine mGoI (mRunV (As := [.int 1]) (rest := []) C hml V (c_refuse l D cs o ad A S 1  ) gM_refuse okM_refuse ⟨rfl, rfl, Nat.le_of_ble_eq_true rfl, Nat.le_of_ble_eq_true rfl⟩ hl.1 rfl (Nat.le_of_ble_eq_true rfl) dX13_count_22 ⟨Nat.zero_le _, Nat.zero_le _⟩) hS (fun r19 S18 H locs hq20 V hS => ?_)
      obtain ⟨hq20, ghq20⟩ := hq20
      replace hG := gC_e hG ghq20
      refine lv_i2l hx hb dX13_count_25 rfl ?_
      exact mRetL C hr hlk V hS (⟨pb_I h1 hq20.2 (by clear hG V hS hl C hts hown hx hb hml hr hlk; decide) (by clear hG V hS hl C hts hown hx hb hml hr hlk; decide), hG.symm⟩) dX13_count_26

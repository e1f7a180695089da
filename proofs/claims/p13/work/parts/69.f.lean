/-! the law: its cases -/
/-- how large a COUNT may be behind j calls -/
abbrev lB (j : Nat) : Int32 := nI (8000 + 32000 * j)
theorem lB_s (j : Nat) : lB (j + 1) = lB j + 32000 := by
  show nI (8000 + 32000 * (j + 1)) = nI (8000 + 32000 * j) + 32000
  rw [show (32000 : Int32) = nI 32000 by decide, nI_plus]
  exact congrArg nI (by omega)
theorem lB_b {j : Nat} (h : j < 512) : 8000 ≤ lB j ∧ lB j ≤ 900000000 := by
  rw [Int32.le_iff_toInt_le, Int32.le_iff_toInt_le, nI_toInt (by omega)]
  have e1 : (8000 : Int32).toInt = 8000 := by decide
  have e2 : (900000000 : Int32).toInt = 900000000 := by decide
  rw [e1, e2]
  omega
theorem lB_0 {x : Int32} (h : 8000 ≤ x ∧ x ≤ 900000000) : x ≤ x + 32000 ∧ x + 8 ≤ x + 32000 ∧ 1 ≤ x ∧ x ≤ 1000000000 ∧ 0 ≤ x := by grind
/-- between two rounds of the loop -/
def lI (D : va_G) (ks : kS) (cs : ClassId × ClassId × ClassId) (n0 h1 h2 ox om : Nat) (ad : Nat → Nat) (j : Nat) (H : Heap) : Prop := ∃ (τ : Nat → Nat) (L : List Nat) (ψ : Int32) (f : Nat → va_E) (g : Nat → Int64) (S : mS) (aX : adT), lW D ks cs n0 h1 h2 τ L ψ f g om ad S H ∧ Sim aX (lB j) S (view f) ∧ aX 8 0 = ox ∧ ty τ L ox 9 ∧ ∀ a b, ty τ L a 8 → ty τ L b 8 → a = b
abbrev lL (b ox om h2 j : Nat) : List (Nat × Value) := [(0, .ref b), (1, .ref ox), (2, .ref om), (3, .ref h2), (4, .int (nI (6 * j)))]
/-- both sides of a call -/
theorem l_both {α : Type} {aX : adT} {B : Int32} {G : α × mS} {F : Int32 × α × xS} {cv : α → Int64} {r : Int32} {f1 : Nat → va_E} {g1 : Nat → Int64} {r1 : α} {S1 : mS} (h : Both aX B G F) (hp : hPo cv F r f1 g1) (hq : (r1, S1) = G) : gI S1 0 = r ∧ (r = 0 → g1 0 = cv r1) ∧ Sim aX B S1 (view f1) := by
  obtain ⟨v, e, hv⟩ := hp
  subst e
  subst hq
  exact ⟨h.1.symm, fun z => by rw [hv z, show v = r1 from h.2.1 z], h.2.2⟩
theorem l_fin {D : va_G} {ks : kS} {cs : ClassId × ClassId × ClassId} {n0 h1 h2 ox om j : Nat} {τ : Nat → Nat} {L : List Nat} {ψ : Int32} {f : Nat → va_E} {g : Nat → Int64} {ad : Nat → Nat} {S : mS} {H : Heap} {aX : adT} {B : Int32} (X : lW D ks cs n0 h1 h2 τ L ψ f g om ad S H) (hs : Sim aX B S (view f)) (hB : B ≤ lB (j + 1)) (ha : aX 8 0 = ox) (ht : ty τ L ox 9) (hu : ∀ a b, ty τ L a 8 → ty τ L b 8 → a = b) : lI D ks cs n0 h1 h2 ox om ad (j + 1) H := ⟨τ, L, ψ, f, g, S, aX, X, s_mono hs hB, ha, ht, hu⟩
theorem l_cnt {α : Type} {aX : adT} {B : Int32} {G : α × mS} {F : Int32 × α × xS} {cv : α → Int64} {r : Int32} {f1 : Nat → va_E} {g1 : Nat → Int64} {r1 : α} {S1 : mS} (h : Sim aX B G.2 F.2.2) (hp : hPo cv F r f1 g1) (hq : (r1, S1) = G) : Sim aX B S1 (view f1) := by
  obtain ⟨v, e, hv⟩ := hp
  subst e
  subst hq
  exact h
theorem l_deadP {aX : adT} {B : Int32} {X Y : xS} {G : Int32 × mS} {F : Int32 × xS} {r r1 : Int32} {S1 : mS} (h : F = (G.1, X) ∧ Sim aX B G.2 X) (hp : (r, Y) = F) (hq : (r1, S1) = G) : r = r1 ∧ Sim aX B S1 Y := by
  obtain ⟨e, hs⟩ := h
  subst hq
  have e1 := hp.trans e
  exact ⟨(Prod.mk.inj e1).1, by rw [(Prod.mk.inj e1).2]; exact hs⟩
/-- make, on both sides -/
theorem lz_make {ks : kS} {τ : Nat → Nat} {L : List Nat} {ψ : Int32} {f : Nat → va_E} {aX : adT} {B k x r r1 : Int32} {S S1 : mS} {y : nX × (Nat → Int64)} (h : Sim aX B S (view f)) (I : cI ks τ L ψ f) (I8 : cI ks y.1.2.1 y.1.2.2 ψ y.1.1) (t : ty τ L (aX 8 0) 9) (hB : 0 ≤ B) (hp : hMk τ L f (aX 8 0) k x r y) (hq : (r1, S1) = G_make S k x) : gI S1 0 = r ∧ (r = 0 → y.2 0 = Int32.toInt64 r1) ∧ ∃ aY : adT, aY 8 0 = aX 8 0 ∧ Sim aY B S1 (view y.1.1) := by
  obtain ⟨-, hp⟩ := hp
  have q1 : r1 = (G_make S k x).1 := congrArg Prod.fst hq
  have q2 : S1 = (G_make S k x).2 := congrArg Prod.snd hq
  rcases hp with ⟨e, v, hv, hz, r0, f6, f9, y9, a9, e6, w, o, ea, e8⟩ | ⟨e, hz, e8⟩ | ⟨e, hz, r8, hr, e8⟩
  · obtain ⟨z1, z2, z3⟩ := t_make I I8 t h hB hz r0 e6 w o ea e8
    rw [q2, q1, z1, e]
    exact ⟨z2, fun _ => hv, z3⟩
  · rcases make_e (k := k) (x := x) h with ⟨-, -, c⟩ | ⟨-, c, -⟩
    · rw [q2, c, e]
      exact ⟨by simp [gI_sI], fun z => absurd z (by decide), aX, rfl, by rw [e8]; exact s_I h (by decide)⟩
    · exact absurd (c.symm.trans hz) (by decide)
  · rcases make_e (k := k) (x := x) h with ⟨-, c, -⟩ | ⟨-, -, c | ⟨b, b0, b1, -, c, -⟩⟩
    · exact absurd c hz
    · rw [q2, c.2, e]
      have e9 : view y.1.1 = view f := (Prod.mk.inj (e8.trans c.1)).2
      exact ⟨by simp [gI_sI], fun z => absurd z (by decide), aX, rfl, by rw [e9]; exact s_I h (by decide)⟩
    · have e9 : r8 = b := (Prod.mk.inj (e8.trans c)).1
      subst e9
      rcases hr with z | z
      · exact absurd (Int32.lt_of_lt_of_le z b0) Int32.lt_irrefl
      · exact absurd (Int32.lt_of_lt_of_le b1 z) Int32.lt_irrefl
theorem uq_g {τ τ1 : Nat → Nat} {L L1 : List Nat} (hu : ∀ a b, ty τ L a 8 → ty τ L b 8 → a = b) (h : (∀ b, b ∈ L → b ∈ L1 ∧ τ1 b = τ b) ∧ ∀ b, b ∈ L1 → b ∉ L → τ1 b ≠ 8) : ∀ a b, ty τ1 L1 a 8 → ty τ1 L1 b 8 → a = b := by
  have key : ∀ a, ty τ1 L1 a 8 → ty τ L a 8 := fun a ha => by
    by_cases z : a ∈ L
    · exact ⟨z, (h.1 a z).2.symm.trans ha.2⟩
    · exact absurd ha.2 (h.2 a ha.1 z)
  exact fun a b ha hb => hu a b (key a ha) (key b hb)
theorem lg_self (x : Int64) : lg_cmp x x = 0 := by simp [lg_cmp]
set_option maxHeartbeats 400000 in
set_option maxRecDepth 100000 in
theorem l_feed (l : Launch) (hlt : l.stackTraces = false) {p : Program} {e : Env} {s : State} {m : MethodId} {below : List Frame} {meth : Method} {c : Code} {b Ls : Nat} {xs : Nat → Int32} {D : va_G} {ks : kS} {cs : ClassId × ClassId × ClassId} {κ : kC} {h1 h2 ox om j : Nat} {ad : Nat → Nat} {H : Heap} {locs : List Loc} {ls : Array Slot}
    (C : lC p s m c b D ks cs κ) (hX : va_X b Ls xs s s.heap) (hbl : b < s.heap.size) (hn : s.heap.size ≤ h1 ∧ h1 ≤ h2) (hj : 6 * j + 6 ≤ Ls) (hLs : Ls ≤ 3072) (I : lI D ks cs s.heap.size h1 h2 ox om ad j H) (hS : va_S (l0 s.heap.size) s.heap H locs) (hl : lv_has ls 8 (lL b ox om h2 j))
    (kk : ∀ (H1 : Heap) (locs1 : List Loc) (ls1 : Array Slot), lI D ks cs s.heap.size h1 h2 ox om ad (j + 1) H1 → va_S (l0 s.heap.size) s.heap H1 locs1 → lv_has ls1 8 (lL b ox om h2 j) → W p l e room_1 s m #[Value.ref b] below meth c H1 locs1 (50 + 5 * (j + 1)) (10789 + 116 * (j + 1)) (lw_Z below #[Value.ref b] s) (F0 m 580 ls1 [])) : W p l e room_1 s m #[Value.ref b] below meth c H locs (50 + 5 * j) (10789 + 116 * j) (lw_Z below #[Value.ref b] s) (F0 m 108 ls []) := by
  obtain ⟨hx, hb, hown, hml, hts, -⟩ := id C
  obtain ⟨τ, L, ψ, f, g, S, aX, X, hs, ha, ht, hu⟩ := I
  have hI : mInv S := hs.1
  have hbA : ¬ l0 s.heap.size b := Nat.not_le.mpr hbl
  have hno : ¬ lA s.heap.size h1 h2 h2 := by rintro (z | z) <;> omega
  have hj5 : j < 512 := by omega
  have hb5 := lB_b hj5
  have hb6 := lB_0 hb5
  have hb7 := lB_s j
  have hb8 : lB j ≤ lB (j + 1) := by rw [hb7]; exact hb6.1
  refine lv_aload_n hx hb dL_law_108 rfl (lv_at hl 1 rfl) ?_
  refine lv_aload_n hx hb dL_law_109 rfl (lv_at hl 0 rfl) ?_
  refine lv_iload hx hb dL_law_110 (lv_at hl 4 rfl) ?_
  refine lv_iconst (v := 1) hx hb dL_law_112 (by decide) ?_
  refine lv_iadd hx hb dL_law_113 ?_
  refine va_sld hx hb hX hbl hbA hS (show vp_in (nI (6 * j) + 1) Ls from s_inl 1 (by decide) hj hLs) dL_law_114 ?_
  refine lv_aload_n hx hb dL_law_115 rfl (lv_at hl 0 rfl) ?_
  refine lv_iload hx hb dL_law_116 (lv_at hl 4 rfl) ?_
  refine lv_iconst (v := 2) hx hb dL_law_118 (by decide) ?_
  refine lv_iadd hx hb dL_law_119 ?_
  refine va_sld hx hb hX hbl hbA hS (show vp_in (nI (6 * j) + 2) Ls from s_inl 2 (by decide) hj hLs) dL_law_120 ?_
  refine lv_aload_n hx hb dL_law_121 rfl (lv_at hl 0 rfl) ?_
  refine lv_iload hx hb dL_law_122 (lv_at hl 4 rfl) ?_
  refine lv_iconst (v := 3) hx hb dL_law_124 (by decide) ?_
  refine lv_iadd hx hb dL_law_125 ?_
  refine va_sld hx hb hX hbl hbA hS (show vp_in (nI (6 * j) + 3) Ls from s_inl 3 (by decide) hj hLs) dL_law_126 ?_
  refine lv_aload_n hx hb dL_law_127 rfl (lv_at hl 0 rfl) ?_
  refine lv_iload hx hb dL_law_128 (lv_at hl 4 rfl) ?_
  refine lv_iconst (v := 4) hx hb dL_law_130 (by decide) ?_
  refine lv_iadd hx hb dL_law_131 ?_
  refine va_sld hx hb hX hbl hbA hS (show vp_in (nI (6 * j) + 4) Ls from s_inl 4 (by decide) hj hLs) dL_law_132 ?_
  refine lv_aload_n hx hb dL_law_133 rfl (lv_at hl 0 rfl) ?_
  refine lv_iload hx hb dL_law_134 (lv_at hl 4 rfl) ?_
  refine lv_iconst (v := 5) hx hb dL_law_136 (by decide) ?_
  refine lv_iadd hx hb dL_law_137 ?_
  refine va_sld hx hb hX hbl hbA hS (show vp_in (nI (6 * j) + 5) Ls from s_inl 5 (by decide) hj hLs) dL_law_138 ?_
  refine lv_aload_n hx hb dL_law_139 rfl (lv_at hl 3 rfl) ?_
  refine lHelp (As := [.ref ox, .int (xs (nI (6 * j) + 1).toNatClampNeg), .int (xs (nI (6 * j) + 2).toNatClampNeg), .int (xs (nI (6 * j) + 3).toNatClampNeg), .int (xs (nI (6 * j) + 4).toNatClampNeg), .int (xs (nI (6 * j) + 5).toNatClampNeg), .ref h2]) (rest := []) C hn X hS (c_L_feed l D ks τ L (lA s.heap.size h1 h2) κ hlt cs.2.1 h2 hno ψ f g ox (xs (nI (6 * j) + 1).toNatClampNeg) (xs (nI (6 * j) + 2).toNatClampNeg) (xs (nI (6 * j) + 3).toNatClampNeg) (xs (nI (6 * j) + 4).toNatClampNeg) (xs (nI (6 * j) + 5).toNatClampNeg) ht hu) lG_66 lK_66 ⟨rfl, rfl, Nat.le_of_ble_eq_true rfl, Nat.le_of_ble_eq_true rfl⟩ hl.1 rfl (Nat.le_of_ble_eq_true rfl) dL_law_140 ⟨show 50 + 5 * j + 1 ≤ 601024 by omega, show 10789 + 116 * j + 6 ≤ 7293034 by omega⟩ (fun r ψ1 f1 g1 H locs hp X hS => ?_)
  refine lv_istore (lv' := [(5, .int r), (0, .ref b), (1, .ref ox), (2, .ref om), (3, .ref h2), (4, .int (nI (6 * j)))]) hx hb dL_law_143 hl (by decide) rfl (fun ls hl => ?_)
  refine lv_aload_n hx hb dL_law_145 rfl (lv_at hl 3 rfl) ?_
  refine lv_aload_n hx hb dL_law_146 rfl (lv_at hl 1 rfl) ?_
  refine lv_iload hx hb dL_law_147 (lv_at hl 5 rfl) ?_
  refine lv_iconst (v := 1) hx hb dL_law_149 (by decide) ?_
  refine lv_iadd hx hb dL_law_150 ?_
  refine va_sld hx hb hX hbl hbA hS (show vp_in (nI (6 * j) + 1) Ls from s_inl 1 (by decide) hj hLs) dL_law_151 ?_
  refine lv_aload_n hx hb dL_law_152 rfl (lv_at hl 1 rfl) ?_
  refine lv_iload hx hb dL_law_153 (lv_at hl 5 rfl) ?_
  refine lv_iconst (v := 2) hx hb dL_law_155 (by decide) ?_
  refine lv_iadd hx hb dL_law_156 ?_
  refine va_sld hx hb hX hbl hbA hS (show vp_in (nI (6 * j) + 2) Ls from s_inl 2 (by decide) hj hLs) dL_law_157 ?_
  refine lv_aload_n hx hb dL_law_158 rfl (lv_at hl 1 rfl) ?_
  refine lv_iload hx hb dL_law_159 (lv_at hl 5 rfl) ?_
  refine lv_iconst (v := 3) hx hb dL_law_161 (by decide) ?_
  refine lv_iadd hx hb dL_law_162 ?_
  refine va_sld hx hb hX hbl hbA hS (show vp_in (nI (6 * j) + 3) Ls from s_inl 3 (by decide) hj hLs) dL_law_163 ?_
  refine lv_aload_n hx hb dL_law_164 rfl (lv_at hl 1 rfl) ?_
  refine lv_iload hx hb dL_law_165 (lv_at hl 5 rfl) ?_
  refine lv_iconst (v := 4) hx hb dL_law_167 (by decide) ?_
  refine lv_iadd hx hb dL_law_168 ?_
  refine va_sld hx hb hX hbl hbA hS (show vp_in (nI (6 * j) + 4) Ls from s_inl 4 (by decide) hj hLs) dL_law_169 ?_
  refine lv_aload_n hx hb dL_law_170 rfl (lv_at hl 1 rfl) ?_
  refine lv_iload hx hb dL_law_171 (lv_at hl 5 rfl) ?_
  refine lv_iconst (v := 5) hx hb dL_law_173 (by decide) ?_
  refine lv_iadd hx hb dL_law_174 ?_
  refine va_sld hx hb hX hbl hbA hS (show vp_in (nI (6 * j) + 5) Ls from s_inl 5 (by decide) hj hLs) dL_law_175 ?_
  refine lModI (As := [.int (xs (nI (6 * j) + 1).toNatClampNeg), .int (xs (nI (6 * j) + 2).toNatClampNeg), .int (xs (nI (6 * j) + 3).toNatClampNeg), .int (xs (nI (6 * j) + 4).toNatClampNeg), .int (xs (nI (6 * j) + 5).toNatClampNeg)]) (rest := []) C hn X hS (c_feed l D cs om ad (lMm h1 h2) S (xs (nI (6 * j) + 1).toNatClampNeg) (xs (nI (6 * j) + 2).toNatClampNeg) (xs (nI (6 * j) + 3).toNatClampNeg) (xs (nI (6 * j) + 4).toNatClampNeg) (xs (nI (6 * j) + 5).toNatClampNeg) ⟨hI.1.1, hI.1.2.1⟩) lG_71 lK_71 ⟨rfl, rfl, Nat.le_of_ble_eq_true rfl, Nat.le_of_ble_eq_true rfl⟩ hl.1 rfl (Nat.le_of_ble_eq_true rfl) dL_law_176 ⟨show 50 + 5 * j + 1 ≤ 601024 by omega, show 10789 + 116 * j + 6 ≤ 7293034 by omega⟩ (fun r1 S1 H locs hq X hS => ?_)
  refine lv_istore (lv' := [(6, .int r1), (5, .int r), (0, .ref b), (1, .ref ox), (2, .ref om), (3, .ref h2), (4, .int (nI (6 * j)))]) hx hb dL_law_179 hl (by decide) rfl (fun ls hl => ?_)
  rw [← ha] at hp
  have hz := l_both (t_feed (a0 := xs (nI (6 * j) + 1).toNatClampNeg) (a1 := xs (nI (6 * j) + 2).toNatClampNeg) (a2 := xs (nI (6 * j) + 3).toNatClampNeg) (a3 := xs (nI (6 * j) + 4).toNatClampNeg) (a4 := xs (nI (6 * j) + 5).toNatClampNeg) hs) hp hq.2
  refine lv_goto (tgt := 580) hx hb dL_law_181 (by decide) ?_
  refine cWd (mc := 50 + 5 * (j + 1)) (ms := 10789 + 116 * (j + 1)) ⟨by omega, by omega⟩ ?_
  exact kk _ _ _ (l_fin X hz.2.2 hb8 ha ht hu) hS (lv_sub hl [2, 3, 4, 5, 6] rfl)
set_option maxHeartbeats 400000 in
set_option maxRecDepth 100000 in
theorem l_end (l : Launch) (hlt : l.stackTraces = false) {p : Program} {e : Env} {s : State} {m : MethodId} {below : List Frame} {meth : Method} {c : Code} {b Ls : Nat} {xs : Nat → Int32} {D : va_G} {ks : kS} {cs : ClassId × ClassId × ClassId} {κ : kC} {h1 h2 ox om j : Nat} {ad : Nat → Nat} {H : Heap} {locs : List Loc} {ls : Array Slot}
    (C : lC p s m c b D ks cs κ) (hX : va_X b Ls xs s s.heap) (hbl : b < s.heap.size) (hn : s.heap.size ≤ h1 ∧ h1 ≤ h2) (hj : 6 * j + 6 ≤ Ls) (hLs : Ls ≤ 3072) (I : lI D ks cs s.heap.size h1 h2 ox om ad j H) (hS : va_S (l0 s.heap.size) s.heap H locs) (hl : lv_has ls 8 (lL b ox om h2 j))
    (kk : ∀ (H1 : Heap) (locs1 : List Loc) (ls1 : Array Slot), lI D ks cs s.heap.size h1 h2 ox om ad (j + 1) H1 → va_S (l0 s.heap.size) s.heap H1 locs1 → lv_has ls1 8 (lL b ox om h2 j) → W p l e room_1 s m #[Value.ref b] below meth c H1 locs1 (50 + 5 * (j + 1)) (10789 + 116 * (j + 1)) (lw_Z below #[Value.ref b] s) (F0 m 580 ls1 [])) : W p l e room_1 s m #[Value.ref b] below meth c H locs (50 + 5 * j) (10789 + 116 * j) (lw_Z below #[Value.ref b] s) (F0 m 184 ls []) := by
  obtain ⟨hx, hb, hown, hml, hts, -⟩ := id C
  obtain ⟨τ, L, ψ, f, g, S, aX, X, hs, ha, ht, hu⟩ := I
  have hI : mInv S := hs.1
  have hbA : ¬ l0 s.heap.size b := Nat.not_le.mpr hbl
  have hno : ¬ lA s.heap.size h1 h2 h2 := by rintro (z | z) <;> omega
  have hj5 : j < 512 := by omega
  have hb5 := lB_b hj5
  have hb6 := lB_0 hb5
  have hb7 := lB_s j
  have hb8 : lB j ≤ lB (j + 1) := by rw [hb7]; exact hb6.1
  refine lv_aload_n hx hb dL_law_184 rfl (lv_at hl 1 rfl) ?_
  refine lv_aload_n hx hb dL_law_185 rfl (lv_at hl 0 rfl) ?_
  refine lv_iload hx hb dL_law_186 (lv_at hl 4 rfl) ?_
  refine lv_iconst (v := 1) hx hb dL_law_188 (by decide) ?_
  refine lv_iadd hx hb dL_law_189 ?_
  refine va_sld hx hb hX hbl hbA hS (show vp_in (nI (6 * j) + 1) Ls from s_inl 1 (by decide) hj hLs) dL_law_190 ?_
  refine lv_aload_n hx hb dL_law_191 rfl (lv_at hl 3 rfl) ?_
  refine lHelp (As := [.ref ox, .int (xs (nI (6 * j) + 1).toNatClampNeg), .ref h2]) (rest := []) C hn X hS (c_L_end l D ks τ L (lA s.heap.size h1 h2) κ hlt cs.2.1 h2 hno ψ f g ox (xs (nI (6 * j) + 1).toNatClampNeg) ht hu) lG_72 lK_72 ⟨rfl, rfl, Nat.le_of_ble_eq_true rfl, Nat.le_of_ble_eq_true rfl⟩ hl.1 rfl (Nat.le_of_ble_eq_true rfl) dL_law_192 ⟨show 50 + 5 * j + 1 ≤ 601024 by omega, show 10789 + 116 * j + 6 ≤ 7293034 by omega⟩ (fun r ψ1 f1 g1 H locs hp X hS => ?_)
  refine lv_istore (lv' := [(5, .int r), (0, .ref b), (1, .ref ox), (2, .ref om), (3, .ref h2), (4, .int (nI (6 * j)))]) hx hb dL_law_195 hl (by decide) rfl (fun ls hl => ?_)
  refine lv_aload_n hx hb dL_law_197 rfl (lv_at hl 3 rfl) ?_
  refine lv_aload_n hx hb dL_law_198 rfl (lv_at hl 1 rfl) ?_
  refine lv_iload hx hb dL_law_199 (lv_at hl 5 rfl) ?_
  refine lv_iconst (v := 1) hx hb dL_law_201 (by decide) ?_
  refine lv_iadd hx hb dL_law_202 ?_
  refine va_sld hx hb hX hbl hbA hS (show vp_in (nI (6 * j) + 1) Ls from s_inl 1 (by decide) hj hLs) dL_law_203 ?_
  refine lModI (As := [.int (xs (nI (6 * j) + 1).toNatClampNeg)]) (rest := []) C hn X hS (c_end l D cs om ad (lMm h1 h2) S (xs (nI (6 * j) + 1).toNatClampNeg) ) lG_75 lK_75 ⟨rfl, rfl, Nat.le_of_ble_eq_true rfl, Nat.le_of_ble_eq_true rfl⟩ hl.1 rfl (Nat.le_of_ble_eq_true rfl) dL_law_204 ⟨show 50 + 5 * j + 1 ≤ 601024 by omega, show 10789 + 116 * j + 6 ≤ 7293034 by omega⟩ (fun r1 S1 H locs hq X hS => ?_)
  refine lv_istore (lv' := [(6, .int r1), (5, .int r), (0, .ref b), (1, .ref ox), (2, .ref om), (3, .ref h2), (4, .int (nI (6 * j)))]) hx hb dL_law_207 hl (by decide) rfl (fun ls hl => ?_)
  rw [← ha] at hp
  have hz := l_both (t_end (n := xs (nI (6 * j) + 1).toNatClampNeg) hs) hp hq.2
  refine lv_goto (tgt := 580) hx hb dL_law_209 (by decide) ?_
  refine cWd (mc := 50 + 5 * (j + 1)) (ms := 10789 + 116 * (j + 1)) ⟨by omega, by omega⟩ ?_
  exact kk _ _ _ (l_fin X hz.2.2 hb8 ha ht hu) hS (lv_sub hl [2, 3, 4, 5, 6] rfl)
set_option maxHeartbeats 400000 in
set_option maxRecDepth 100000 in
theorem l_make (l : Launch) (hlt : l.stackTraces = false) {p : Program} {e : Env} {s : State} {m : MethodId} {below : List Frame} {meth : Method} {c : Code} {b Ls : Nat} {xs : Nat → Int32} {D : va_G} {ks : kS} {cs : ClassId × ClassId × ClassId} {κ : kC} {h1 h2 ox om j : Nat} {ad : Nat → Nat} {H : Heap} {locs : List Loc} {ls : Array Slot}
    (C : lC p s m c b D ks cs κ) (hX : va_X b Ls xs s s.heap) (hbl : b < s.heap.size) (hn : s.heap.size ≤ h1 ∧ h1 ≤ h2) (hj : 6 * j + 6 ≤ Ls) (hLs : Ls ≤ 3072) (I : lI D ks cs s.heap.size h1 h2 ox om ad j H) (hS : va_S (l0 s.heap.size) s.heap H locs) (hl : lv_has ls 8 (lL b ox om h2 j))
    (kk : ∀ (H1 : Heap) (locs1 : List Loc) (ls1 : Array Slot), lI D ks cs s.heap.size h1 h2 ox om ad (j + 1) H1 → va_S (l0 s.heap.size) s.heap H1 locs1 → lv_has ls1 8 (lL b ox om h2 j) → W p l e room_1 s m #[Value.ref b] below meth c H1 locs1 (50 + 5 * (j + 1)) (10789 + 116 * (j + 1)) (lw_Z below #[Value.ref b] s) (F0 m 580 ls1 [])) : W p l e room_1 s m #[Value.ref b] below meth c H locs (50 + 5 * j) (10789 + 116 * j) (lw_Z below #[Value.ref b] s) (F0 m 212 ls []) := by
  obtain ⟨hx, hb, hown, hml, hts, -⟩ := id C
  obtain ⟨τ, L, ψ, f, g, S, aX, X, hs, ha, ht, hu⟩ := I
  have hI : mInv S := hs.1
  have hbA : ¬ l0 s.heap.size b := Nat.not_le.mpr hbl
  have hno : ¬ lA s.heap.size h1 h2 h2 := by rintro (z | z) <;> omega
  have hj5 : j < 512 := by omega
  have hb5 := lB_b hj5
  have hb6 := lB_0 hb5
  have hb7 := lB_s j
  have hb8 : lB j ≤ lB (j + 1) := by rw [hb7]; exact hb6.1
  refine lv_aload_n hx hb dL_law_212 rfl (lv_at hl 1 rfl) ?_
  refine lv_aload_n hx hb dL_law_213 rfl (lv_at hl 0 rfl) ?_
  refine lv_iload hx hb dL_law_214 (lv_at hl 4 rfl) ?_
  refine lv_iconst (v := 1) hx hb dL_law_216 (by decide) ?_
  refine lv_iadd hx hb dL_law_217 ?_
  refine va_sld hx hb hX hbl hbA hS (show vp_in (nI (6 * j) + 1) Ls from s_inl 1 (by decide) hj hLs) dL_law_218 ?_
  refine lv_aload_n hx hb dL_law_219 rfl (lv_at hl 0 rfl) ?_
  refine lv_iload hx hb dL_law_220 (lv_at hl 4 rfl) ?_
  refine lv_iconst (v := 2) hx hb dL_law_222 (by decide) ?_
  refine lv_iadd hx hb dL_law_223 ?_
  refine va_sld hx hb hX hbl hbA hS (show vp_in (nI (6 * j) + 2) Ls from s_inl 2 (by decide) hj hLs) dL_law_224 ?_
  refine lv_aload_n hx hb dL_law_225 rfl (lv_at hl 3 rfl) ?_
  have hIc := X.2.1
  refine lHelpN (As := [.ref ox, .int (xs (nI (6 * j) + 1).toNatClampNeg), .int (xs (nI (6 * j) + 2).toNatClampNeg), .ref h2]) (rest := []) C hn X hS (c_L_make l D ks τ L (lA s.heap.size h1 h2) κ hlt cs.2.1 h2 hno ψ f g ox (xs (nI (6 * j) + 1).toNatClampNeg) (xs (nI (6 * j) + 2).toNatClampNeg) ht ) lG_76 lK_76 ⟨rfl, rfl, Nat.le_of_ble_eq_true rfl, Nat.le_of_ble_eq_true rfl⟩ hl.1 rfl (Nat.le_of_ble_eq_true rfl) dL_law_226 ⟨show 50 + 5 * j + 5 ≤ 601024 by omega, show 10789 + 116 * j + 116 ≤ 7293034 by omega⟩ (fun r f1 τ1 L1 g1 H locs hp X hS => ?_)
  refine lv_istore (lv' := [(5, .int r), (0, .ref b), (1, .ref ox), (2, .ref om), (3, .ref h2), (4, .int (nI (6 * j)))]) hx hb dL_law_229 hl (by decide) rfl (fun ls hl => ?_)
  refine lv_aload_n hx hb dL_law_231 rfl (lv_at hl 3 rfl) ?_
  refine lv_aload_n hx hb dL_law_232 rfl (lv_at hl 1 rfl) ?_
  refine lv_iload hx hb dL_law_233 (lv_at hl 5 rfl) ?_
  refine lv_iconst (v := 1) hx hb dL_law_235 (by decide) ?_
  refine lv_iadd hx hb dL_law_236 ?_
  refine va_sld hx hb hX hbl hbA hS (show vp_in (nI (6 * j) + 1) Ls from s_inl 1 (by decide) hj hLs) dL_law_237 ?_
  refine lv_aload_n hx hb dL_law_238 rfl (lv_at hl 1 rfl) ?_
  refine lv_iload hx hb dL_law_239 (lv_at hl 5 rfl) ?_
  refine lv_iconst (v := 2) hx hb dL_law_241 (by decide) ?_
  refine lv_iadd hx hb dL_law_242 ?_
  refine va_sld hx hb hX hbl hbA hS (show vp_in (nI (6 * j) + 2) Ls from s_inl 2 (by decide) hj hLs) dL_law_243 ?_
  refine lModI (As := [.int (xs (nI (6 * j) + 1).toNatClampNeg), .int (xs (nI (6 * j) + 2).toNatClampNeg)]) (rest := []) C hn X hS (c_make l D cs om ad (lMm h1 h2) S (xs (nI (6 * j) + 1).toNatClampNeg) (xs (nI (6 * j) + 2).toNatClampNeg) hI) lG_79 lK_79 ⟨rfl, rfl, Nat.le_of_ble_eq_true rfl, Nat.le_of_ble_eq_true rfl⟩ hl.1 rfl (Nat.le_of_ble_eq_true rfl) dL_law_244 ⟨show 50 + 5 * j + 5 ≤ 601024 by omega, show 10789 + 116 * j + 116 ≤ 7293034 by omega⟩ (fun r1 S1 H locs hq X hS => ?_)
  refine lv_istore (lv' := [(6, .int r1), (5, .int r), (0, .ref b), (1, .ref ox), (2, .ref om), (3, .ref h2), (4, .int (nI (6 * j)))]) hx hb dL_law_247 hl (by decide) rfl (fun ls hl => ?_)
  have hz := lz_make (ks := ks) (y := ((f1, τ1, L1), g1)) hs hIc X.2.1 (by rw [ha]; exact ht) hb6.2.2.2.2 (by rw [ha]; exact hp) hq.2
  obtain ⟨aY, hy1, hy2⟩ := hz.2.2
  refine lv_goto (tgt := 580) hx hb dL_law_249 (by decide) ?_
  refine cWd (mc := 50 + 5 * (j + 1)) (ms := 10789 + 116 * (j + 1)) ⟨by omega, by omega⟩ ?_
  exact kk _ _ _ (l_fin X hy2 hb8 (hy1.trans ha) ⟨(hp.1.1 ox ht.1).1, (hp.1.1 ox ht.1).2.trans ht.2⟩ (uq_g hu hp.1)) hS (lv_sub hl [2, 3, 4, 5, 6] rfl)
set_option maxHeartbeats 400000 in
set_option maxRecDepth 100000 in
theorem l_drop (l : Launch) (hlt : l.stackTraces = false) {p : Program} {e : Env} {s : State} {m : MethodId} {below : List Frame} {meth : Method} {c : Code} {b Ls : Nat} {xs : Nat → Int32} {D : va_G} {ks : kS} {cs : ClassId × ClassId × ClassId} {κ : kC} {h1 h2 ox om j : Nat} {ad : Nat → Nat} {H : Heap} {locs : List Loc} {ls : Array Slot}
    (C : lC p s m c b D ks cs κ) (hX : va_X b Ls xs s s.heap) (hbl : b < s.heap.size) (hn : s.heap.size ≤ h1 ∧ h1 ≤ h2) (hj : 6 * j + 6 ≤ Ls) (hLs : Ls ≤ 3072) (I : lI D ks cs s.heap.size h1 h2 ox om ad j H) (hS : va_S (l0 s.heap.size) s.heap H locs) (hl : lv_has ls 8 (lL b ox om h2 j))
    (kk : ∀ (H1 : Heap) (locs1 : List Loc) (ls1 : Array Slot), lI D ks cs s.heap.size h1 h2 ox om ad (j + 1) H1 → va_S (l0 s.heap.size) s.heap H1 locs1 → lv_has ls1 8 (lL b ox om h2 j) → W p l e room_1 s m #[Value.ref b] below meth c H1 locs1 (50 + 5 * (j + 1)) (10789 + 116 * (j + 1)) (lw_Z below #[Value.ref b] s) (F0 m 580 ls1 [])) : W p l e room_1 s m #[Value.ref b] below meth c H locs (50 + 5 * j) (10789 + 116 * j) (lw_Z below #[Value.ref b] s) (F0 m 252 ls []) := by
  obtain ⟨hx, hb, hown, hml, hts, -⟩ := id C
  obtain ⟨τ, L, ψ, f, g, S, aX, X, hs, ha, ht, hu⟩ := I
  have hI : mInv S := hs.1
  have hbA : ¬ l0 s.heap.size b := Nat.not_le.mpr hbl
  have hno : ¬ lA s.heap.size h1 h2 h2 := by rintro (z | z) <;> omega
  have hj5 : j < 512 := by omega
  have hb5 := lB_b hj5
  have hb6 := lB_0 hb5
  have hb7 := lB_s j
  have hb8 : lB j ≤ lB (j + 1) := by rw [hb7]; exact hb6.1
  refine lv_aload_n hx hb dL_law_252 rfl (lv_at hl 1 rfl) ?_
  refine lv_aload_n hx hb dL_law_253 rfl (lv_at hl 0 rfl) ?_
  refine lv_iload hx hb dL_law_254 (lv_at hl 4 rfl) ?_
  refine lv_iconst (v := 1) hx hb dL_law_256 (by decide) ?_
  refine lv_iadd hx hb dL_law_257 ?_
  refine va_sld hx hb hX hbl hbA hS (show vp_in (nI (6 * j) + 1) Ls from s_inl 1 (by decide) hj hLs) dL_law_258 ?_
  refine lv_aload_n hx hb dL_law_259 rfl (lv_at hl 3 rfl) ?_
  refine lHelp (As := [.ref ox, .int (xs (nI (6 * j) + 1).toNatClampNeg), .ref h2]) (rest := []) C hn X hS (c_L_drop l D ks τ L (lA s.heap.size h1 h2) κ hlt cs.2.1 h2 hno ψ f g ox (xs (nI (6 * j) + 1).toNatClampNeg) ht ) lG_80 lK_80 ⟨rfl, rfl, Nat.le_of_ble_eq_true rfl, Nat.le_of_ble_eq_true rfl⟩ hl.1 rfl (Nat.le_of_ble_eq_true rfl) dL_law_260 ⟨show 50 + 5 * j + 1 ≤ 601024 by omega, show 10789 + 116 * j + 6 ≤ 7293034 by omega⟩ (fun r ψ1 f1 g1 H locs hp X hS => ?_)
  refine lv_istore (lv' := [(5, .int r), (0, .ref b), (1, .ref ox), (2, .ref om), (3, .ref h2), (4, .int (nI (6 * j)))]) hx hb dL_law_263 hl (by decide) rfl (fun ls hl => ?_)
  refine lv_aload_n hx hb dL_law_265 rfl (lv_at hl 3 rfl) ?_
  refine lv_aload_n hx hb dL_law_266 rfl (lv_at hl 1 rfl) ?_
  refine lv_iload hx hb dL_law_267 (lv_at hl 5 rfl) ?_
  refine lv_iconst (v := 1) hx hb dL_law_269 (by decide) ?_
  refine lv_iadd hx hb dL_law_270 ?_
  refine va_sld hx hb hX hbl hbA hS (show vp_in (nI (6 * j) + 1) Ls from s_inl 1 (by decide) hj hLs) dL_law_271 ?_
  refine lModI (As := [.int (xs (nI (6 * j) + 1).toNatClampNeg)]) (rest := []) C hn X hS (c_drop l D cs om ad (lMm h1 h2) S (xs (nI (6 * j) + 1).toNatClampNeg) hI) lG_82 lK_82 ⟨rfl, rfl, Nat.le_of_ble_eq_true rfl, Nat.le_of_ble_eq_true rfl⟩ hl.1 rfl (Nat.le_of_ble_eq_true rfl) dL_law_272 ⟨show 50 + 5 * j + 1 ≤ 601024 by omega, show 10789 + 116 * j + 6 ≤ 7293034 by omega⟩ (fun r1 S1 H locs hq X hS => ?_)
  refine lv_istore (lv' := [(6, .int r1), (5, .int r), (0, .ref b), (1, .ref ox), (2, .ref om), (3, .ref h2), (4, .int (nI (6 * j)))]) hx hb dL_law_275 hl (by decide) rfl (fun ls hl => ?_)
  rw [← ha] at hp
  have hz := l_both (t_drop (i := xs (nI (6 * j) + 1).toNatClampNeg) hs) hp hq.2
  refine lv_goto (tgt := 580) hx hb dL_law_277 (by decide) ?_
  refine cWd (mc := 50 + 5 * (j + 1)) (ms := 10789 + 116 * (j + 1)) ⟨by omega, by omega⟩ ?_
  exact kk _ _ _ (l_fin X hz.2.2 hb8 ha ht hu) hS (lv_sub hl [2, 3, 4, 5, 6] rfl)
set_option maxHeartbeats 400000 in
set_option maxRecDepth 100000 in
theorem l_thread (l : Launch) (hlt : l.stackTraces = false) {p : Program} {e : Env} {s : State} {m : MethodId} {below : List Frame} {meth : Method} {c : Code} {b Ls : Nat} {xs : Nat → Int32} {D : va_G} {ks : kS} {cs : ClassId × ClassId × ClassId} {κ : kC} {h1 h2 ox om j : Nat} {ad : Nat → Nat} {H : Heap} {locs : List Loc} {ls : Array Slot}
    (C : lC p s m c b D ks cs κ) (hX : va_X b Ls xs s s.heap) (hbl : b < s.heap.size) (hn : s.heap.size ≤ h1 ∧ h1 ≤ h2) (hj : 6 * j + 6 ≤ Ls) (hLs : Ls ≤ 3072) (I : lI D ks cs s.heap.size h1 h2 ox om ad j H) (hS : va_S (l0 s.heap.size) s.heap H locs) (hl : lv_has ls 8 (lL b ox om h2 j))
    (kk : ∀ (H1 : Heap) (locs1 : List Loc) (ls1 : Array Slot), lI D ks cs s.heap.size h1 h2 ox om ad (j + 1) H1 → va_S (l0 s.heap.size) s.heap H1 locs1 → lv_has ls1 8 (lL b ox om h2 j) → W p l e room_1 s m #[Value.ref b] below meth c H1 locs1 (50 + 5 * (j + 1)) (10789 + 116 * (j + 1)) (lw_Z below #[Value.ref b] s) (F0 m 580 ls1 [])) : W p l e room_1 s m #[Value.ref b] below meth c H locs (50 + 5 * j) (10789 + 116 * j) (lw_Z below #[Value.ref b] s) (F0 m 280 ls []) := by
  obtain ⟨hx, hb, hown, hml, hts, -⟩ := id C
  obtain ⟨τ, L, ψ, f, g, S, aX, X, hs, ha, ht, hu⟩ := I
  have hI : mInv S := hs.1
  have hbA : ¬ l0 s.heap.size b := Nat.not_le.mpr hbl
  have hno : ¬ lA s.heap.size h1 h2 h2 := by rintro (z | z) <;> omega
  have hj5 : j < 512 := by omega
  have hb5 := lB_b hj5
  have hb6 := lB_0 hb5
  have hb7 := lB_s j
  have hb8 : lB j ≤ lB (j + 1) := by rw [hb7]; exact hb6.1
  refine lv_aload_n hx hb dL_law_280 rfl (lv_at hl 1 rfl) ?_
  refine lv_aload_n hx hb dL_law_281 rfl (lv_at hl 3 rfl) ?_
  refine lHelp (As := [.ref ox, .ref h2]) (rest := []) C hn X hS (c_L_thread l D ks τ L (lA s.heap.size h1 h2) κ hlt cs.2.1 h2 hno ψ f g ox  ht hu) lG_83 lK_83 ⟨rfl, rfl, Nat.le_of_ble_eq_true rfl, Nat.le_of_ble_eq_true rfl⟩ hl.1 rfl (Nat.le_of_ble_eq_true rfl) dL_law_282 ⟨show 50 + 5 * j + 1 ≤ 601024 by omega, show 10789 + 116 * j + 6 ≤ 7293034 by omega⟩ (fun r ψ1 f1 g1 H locs hp X hS => ?_)
  refine lv_istore (lv' := [(5, .int r), (0, .ref b), (1, .ref ox), (2, .ref om), (3, .ref h2), (4, .int (nI (6 * j)))]) hx hb dL_law_285 hl (by decide) rfl (fun ls hl => ?_)
  refine lv_aload_n hx hb dL_law_287 rfl (lv_at hl 3 rfl) ?_
  refine lModI (As := []) (rest := []) C hn X hS (c_thread l D cs om ad (lMm h1 h2) S  hI) lG_86 lK_86 ⟨rfl, rfl, Nat.le_of_ble_eq_true rfl, Nat.le_of_ble_eq_true rfl⟩ hl.1 rfl (Nat.le_of_ble_eq_true rfl) dL_law_288 ⟨show 50 + 5 * j + 1 ≤ 601024 by omega, show 10789 + 116 * j + 6 ≤ 7293034 by omega⟩ (fun r1 S1 H locs hq X hS => ?_)
  refine lv_istore (lv' := [(6, .int r1), (5, .int r), (0, .ref b), (1, .ref ox), (2, .ref om), (3, .ref h2), (4, .int (nI (6 * j)))]) hx hb dL_law_291 hl (by decide) rfl (fun ls hl => ?_)
  rw [← ha] at hp
  have hz := l_both (t_thread hs) hp hq.2
  refine lv_goto (tgt := 580) hx hb dL_law_293 (by decide) ?_
  refine cWd (mc := 50 + 5 * (j + 1)) (ms := 10789 + 116 * (j + 1)) ⟨by omega, by omega⟩ ?_
  exact kk _ _ _ (l_fin X hz.2.2 hb8 ha ht hu) hS (lv_sub hl [2, 3, 4, 5, 6] rfl)
set_option maxHeartbeats 400000 in
set_option maxRecDepth 100000 in
theorem l_step (l : Launch) (hlt : l.stackTraces = false) {p : Program} {e : Env} {s : State} {m : MethodId} {below : List Frame} {meth : Method} {c : Code} {b Ls : Nat} {xs : Nat → Int32} {D : va_G} {ks : kS} {cs : ClassId × ClassId × ClassId} {κ : kC} {h1 h2 ox om j : Nat} {ad : Nat → Nat} {H : Heap} {locs : List Loc} {ls : Array Slot}
    (C : lC p s m c b D ks cs κ) (hX : va_X b Ls xs s s.heap) (hbl : b < s.heap.size) (hn : s.heap.size ≤ h1 ∧ h1 ≤ h2) (hj : 6 * j + 6 ≤ Ls) (hLs : Ls ≤ 3072) (I : lI D ks cs s.heap.size h1 h2 ox om ad j H) (hS : va_S (l0 s.heap.size) s.heap H locs) (hl : lv_has ls 8 (lL b ox om h2 j))
    (kk : ∀ (H1 : Heap) (locs1 : List Loc) (ls1 : Array Slot), lI D ks cs s.heap.size h1 h2 ox om ad (j + 1) H1 → va_S (l0 s.heap.size) s.heap H1 locs1 → lv_has ls1 8 (lL b ox om h2 j) → W p l e room_1 s m #[Value.ref b] below meth c H1 locs1 (50 + 5 * (j + 1)) (10789 + 116 * (j + 1)) (lw_Z below #[Value.ref b] s) (F0 m 580 ls1 [])) : W p l e room_1 s m #[Value.ref b] below meth c H locs (50 + 5 * j) (10789 + 116 * j) (lw_Z below #[Value.ref b] s) (F0 m 296 ls []) := by
  obtain ⟨hx, hb, hown, hml, hts, -⟩ := id C
  obtain ⟨τ, L, ψ, f, g, S, aX, X, hs, ha, ht, hu⟩ := I
  have hI : mInv S := hs.1
  have hbA : ¬ l0 s.heap.size b := Nat.not_le.mpr hbl
  have hno : ¬ lA s.heap.size h1 h2 h2 := by rintro (z | z) <;> omega
  have hj5 : j < 512 := by omega
  have hb5 := lB_b hj5
  have hb6 := lB_0 hb5
  have hb7 := lB_s j
  have hb8 : lB j ≤ lB (j + 1) := by rw [hb7]; exact hb6.1
  refine lv_aload_n hx hb dL_law_296 rfl (lv_at hl 1 rfl) ?_
  refine lv_aload_n hx hb dL_law_297 rfl (lv_at hl 0 rfl) ?_
  refine lv_iload hx hb dL_law_298 (lv_at hl 4 rfl) ?_
  refine lv_iconst (v := 1) hx hb dL_law_300 (by decide) ?_
  refine lv_iadd hx hb dL_law_301 ?_
  refine va_sld hx hb hX hbl hbA hS (show vp_in (nI (6 * j) + 1) Ls from s_inl 1 (by decide) hj hLs) dL_law_302 ?_
  refine lv_aload_n hx hb dL_law_303 rfl (lv_at hl 3 rfl) ?_
  refine lHelp (As := [.ref ox, .int (xs (nI (6 * j) + 1).toNatClampNeg), .ref h2]) (rest := []) C hn X hS (c_L_step l D ks τ L (lA s.heap.size h1 h2) κ hlt cs.2.1 h2 hno ψ f g ox (xs (nI (6 * j) + 1).toNatClampNeg) ht ) lG_87 lK_87 ⟨rfl, rfl, Nat.le_of_ble_eq_true rfl, Nat.le_of_ble_eq_true rfl⟩ hl.1 rfl (Nat.le_of_ble_eq_true rfl) dL_law_304 ⟨show 50 + 5 * j + 1 ≤ 601024 by omega, show 10789 + 116 * j + 6 ≤ 7293034 by omega⟩ (fun r ψ1 f1 g1 H locs hp X hS => ?_)
  refine lv_istore (lv' := [(5, .int r), (0, .ref b), (1, .ref ox), (2, .ref om), (3, .ref h2), (4, .int (nI (6 * j)))]) hx hb dL_law_307 hl (by decide) rfl (fun ls hl => ?_)
  refine lv_aload_n hx hb dL_law_309 rfl (lv_at hl 3 rfl) ?_
  refine lv_aload_n hx hb dL_law_310 rfl (lv_at hl 1 rfl) ?_
  refine lv_iload hx hb dL_law_311 (lv_at hl 5 rfl) ?_
  refine lv_iconst (v := 1) hx hb dL_law_313 (by decide) ?_
  refine lv_iadd hx hb dL_law_314 ?_
  refine va_sld hx hb hX hbl hbA hS (show vp_in (nI (6 * j) + 1) Ls from s_inl 1 (by decide) hj hLs) dL_law_315 ?_
  refine lModI (As := [.int (xs (nI (6 * j) + 1).toNatClampNeg)]) (rest := []) C hn X hS (c_step l D cs om ad (lMm h1 h2) S (xs (nI (6 * j) + 1).toNatClampNeg) hI) lG_89 lK_89 ⟨rfl, rfl, Nat.le_of_ble_eq_true rfl, Nat.le_of_ble_eq_true rfl⟩ hl.1 rfl (Nat.le_of_ble_eq_true rfl) dL_law_316 ⟨show 50 + 5 * j + 1 ≤ 601024 by omega, show 10789 + 116 * j + 6 ≤ 7293034 by omega⟩ (fun r1 S1 H locs hq X hS => ?_)
  refine lv_istore (lv' := [(6, .int r1), (5, .int r), (0, .ref b), (1, .ref ox), (2, .ref om), (3, .ref h2), (4, .int (nI (6 * j)))]) hx hb dL_law_319 hl (by decide) rfl (fun ls hl => ?_)
  rw [← ha] at hp
  have hz := l_both (t_step (i := xs (nI (6 * j) + 1).toNatClampNeg) hs ⟨hb6.2.2.1, hb6.2.2.2.1⟩) hp hq.2
  refine lv_goto (tgt := 580) hx hb dL_law_321 (by decide) ?_
  refine cWd (mc := 50 + 5 * (j + 1)) (ms := 10789 + 116 * (j + 1)) ⟨by omega, by omega⟩ ?_
  exact kk _ _ _ (l_fin X hz.2.2 (by rw [hb7]; exact hb6.2.1) ha ht hu) hS (lv_sub hl [2, 3, 4, 5, 6] rfl)
set_option maxHeartbeats 400000 in
set_option maxRecDepth 100000 in
theorem l_run (l : Launch) (hlt : l.stackTraces = false) {p : Program} {e : Env} {s : State} {m : MethodId} {below : List Frame} {meth : Method} {c : Code} {b Ls : Nat} {xs : Nat → Int32} {D : va_G} {ks : kS} {cs : ClassId × ClassId × ClassId} {κ : kC} {h1 h2 ox om j : Nat} {ad : Nat → Nat} {H : Heap} {locs : List Loc} {ls : Array Slot}
    (C : lC p s m c b D ks cs κ) (hX : va_X b Ls xs s s.heap) (hbl : b < s.heap.size) (hn : s.heap.size ≤ h1 ∧ h1 ≤ h2) (hj : 6 * j + 6 ≤ Ls) (hLs : Ls ≤ 3072) (I : lI D ks cs s.heap.size h1 h2 ox om ad j H) (hS : va_S (l0 s.heap.size) s.heap H locs) (hl : lv_has ls 8 (lL b ox om h2 j))
    (kk : ∀ (H1 : Heap) (locs1 : List Loc) (ls1 : Array Slot), lI D ks cs s.heap.size h1 h2 ox om ad (j + 1) H1 → va_S (l0 s.heap.size) s.heap H1 locs1 → lv_has ls1 8 (lL b ox om h2 j) → W p l e room_1 s m #[Value.ref b] below meth c H1 locs1 (50 + 5 * (j + 1)) (10789 + 116 * (j + 1)) (lw_Z below #[Value.ref b] s) (F0 m 580 ls1 [])) : W p l e room_1 s m #[Value.ref b] below meth c H locs (50 + 5 * j) (10789 + 116 * j) (lw_Z below #[Value.ref b] s) (F0 m 324 ls []) := by
  obtain ⟨hx, hb, hown, hml, hts, -⟩ := id C
  obtain ⟨τ, L, ψ, f, g, S, aX, X, hs, ha, ht, hu⟩ := I
  have hI : mInv S := hs.1
  have hbA : ¬ l0 s.heap.size b := Nat.not_le.mpr hbl
  have hno : ¬ lA s.heap.size h1 h2 h2 := by rintro (z | z) <;> omega
  have hj5 : j < 512 := by omega
  have hb5 := lB_b hj5
  have hb6 := lB_0 hb5
  have hb7 := lB_s j
  have hb8 : lB j ≤ lB (j + 1) := by rw [hb7]; exact hb6.1
  refine lv_aload_n hx hb dL_law_324 rfl (lv_at hl 1 rfl) ?_
  refine lv_aload_n hx hb dL_law_325 rfl (lv_at hl 0 rfl) ?_
  refine lv_iload hx hb dL_law_326 (lv_at hl 4 rfl) ?_
  refine lv_iconst (v := 1) hx hb dL_law_328 (by decide) ?_
  refine lv_iadd hx hb dL_law_329 ?_
  refine va_sld hx hb hX hbl hbA hS (show vp_in (nI (6 * j) + 1) Ls from s_inl 1 (by decide) hj hLs) dL_law_330 ?_
  refine lv_aload_n hx hb dL_law_331 rfl (lv_at hl 0 rfl) ?_
  refine lv_iload hx hb dL_law_332 (lv_at hl 4 rfl) ?_
  refine lv_iconst (v := 2) hx hb dL_law_334 (by decide) ?_
  refine lv_iadd hx hb dL_law_335 ?_
  refine va_sld hx hb hX hbl hbA hS (show vp_in (nI (6 * j) + 2) Ls from s_inl 2 (by decide) hj hLs) dL_law_336 ?_
  refine lv_aload_n hx hb dL_law_337 rfl (lv_at hl 0 rfl) ?_
  refine lv_iload hx hb dL_law_338 (lv_at hl 4 rfl) ?_
  refine lv_iconst (v := 3) hx hb dL_law_340 (by decide) ?_
  refine lv_iadd hx hb dL_law_341 ?_
  refine va_sld hx hb hX hbl hbA hS (show vp_in (nI (6 * j) + 3) Ls from s_inl 3 (by decide) hj hLs) dL_law_342 ?_
  refine lv_aload_n hx hb dL_law_343 rfl (lv_at hl 3 rfl) ?_
  refine lHelp (As := [.ref ox, .int (xs (nI (6 * j) + 1).toNatClampNeg), .int (xs (nI (6 * j) + 2).toNatClampNeg), .int (xs (nI (6 * j) + 3).toNatClampNeg), .ref h2]) (rest := []) C hn X hS (c_L_run l D ks τ L (lA s.heap.size h1 h2) κ hlt cs.2.1 h2 hno ψ f g ox (xs (nI (6 * j) + 1).toNatClampNeg) (xs (nI (6 * j) + 2).toNatClampNeg) (xs (nI (6 * j) + 3).toNatClampNeg) ht ) lG_90 lK_90 ⟨rfl, rfl, Nat.le_of_ble_eq_true rfl, Nat.le_of_ble_eq_true rfl⟩ hl.1 rfl (Nat.le_of_ble_eq_true rfl) dL_law_344 ⟨show 50 + 5 * j + 1 ≤ 601024 by omega, show 10789 + 116 * j + 6 ≤ 7293034 by omega⟩ (fun r ψ1 f1 g1 H locs hp X hS => ?_)
  refine lv_istore (lv' := [(5, .int r), (0, .ref b), (1, .ref ox), (2, .ref om), (3, .ref h2), (4, .int (nI (6 * j)))]) hx hb dL_law_347 hl (by decide) rfl (fun ls hl => ?_)
  refine lv_aload_n hx hb dL_law_349 rfl (lv_at hl 3 rfl) ?_
  refine lv_aload_n hx hb dL_law_350 rfl (lv_at hl 1 rfl) ?_
  refine lv_iload hx hb dL_law_351 (lv_at hl 5 rfl) ?_
  refine lv_iconst (v := 1) hx hb dL_law_353 (by decide) ?_
  refine lv_iadd hx hb dL_law_354 ?_
  refine va_sld hx hb hX hbl hbA hS (show vp_in (nI (6 * j) + 1) Ls from s_inl 1 (by decide) hj hLs) dL_law_355 ?_
  refine lv_aload_n hx hb dL_law_356 rfl (lv_at hl 1 rfl) ?_
  refine lv_iload hx hb dL_law_357 (lv_at hl 5 rfl) ?_
  refine lv_iconst (v := 2) hx hb dL_law_359 (by decide) ?_
  refine lv_iadd hx hb dL_law_360 ?_
  refine va_sld hx hb hX hbl hbA hS (show vp_in (nI (6 * j) + 2) Ls from s_inl 2 (by decide) hj hLs) dL_law_361 ?_
  refine lv_aload_n hx hb dL_law_362 rfl (lv_at hl 1 rfl) ?_
  refine lv_iload hx hb dL_law_363 (lv_at hl 5 rfl) ?_
  refine lv_iconst (v := 3) hx hb dL_law_365 (by decide) ?_
  refine lv_iadd hx hb dL_law_366 ?_
  refine va_sld hx hb hX hbl hbA hS (show vp_in (nI (6 * j) + 3) Ls from s_inl 3 (by decide) hj hLs) dL_law_367 ?_
  refine lModI (As := [.int (xs (nI (6 * j) + 1).toNatClampNeg), .int (xs (nI (6 * j) + 2).toNatClampNeg), .int (xs (nI (6 * j) + 3).toNatClampNeg)]) (rest := []) C hn X hS (c_run l D cs om ad (lMm h1 h2) S (xs (nI (6 * j) + 1).toNatClampNeg) (xs (nI (6 * j) + 2).toNatClampNeg) (xs (nI (6 * j) + 3).toNatClampNeg) hI) lG_93 lK_93 ⟨rfl, rfl, Nat.le_of_ble_eq_true rfl, Nat.le_of_ble_eq_true rfl⟩ hl.1 rfl (Nat.le_of_ble_eq_true rfl) dL_law_368 ⟨show 50 + 5 * j + 1 ≤ 601024 by omega, show 10789 + 116 * j + 6 ≤ 7293034 by omega⟩ (fun r1 S1 H locs hq X hS => ?_)
  refine lv_istore (lv' := [(6, .int r1), (5, .int r), (0, .ref b), (1, .ref ox), (2, .ref om), (3, .ref h2), (4, .int (nI (6 * j)))]) hx hb dL_law_371 hl (by decide) rfl (fun ls hl => ?_)
  rw [← ha] at hp
  have hz := l_both (t_run (how := xs (nI (6 * j) + 1).toNatClampNeg) (z := xs (nI (6 * j) + 2).toNatClampNeg) (n := xs (nI (6 * j) + 3).toNatClampNeg) hs hb5) hp hq.2
  refine lv_goto (tgt := 580) hx hb dL_law_373 (by decide) ?_
  refine cWd (mc := 50 + 5 * (j + 1)) (ms := 10789 + 116 * (j + 1)) ⟨by omega, by omega⟩ ?_
  exact kk _ _ _ (l_fin X hz.2.2 (by rw [hb7]; exact Int32.le_refl _) ha ht hu) hS (lv_sub hl [2, 3, 4, 5, 6] rfl)
set_option maxHeartbeats 400000 in
set_option maxRecDepth 100000 in
theorem l_tick (l : Launch) (hlt : l.stackTraces = false) {p : Program} {e : Env} {s : State} {m : MethodId} {below : List Frame} {meth : Method} {c : Code} {b Ls : Nat} {xs : Nat → Int32} {D : va_G} {ks : kS} {cs : ClassId × ClassId × ClassId} {κ : kC} {h1 h2 ox om j : Nat} {ad : Nat → Nat} {H : Heap} {locs : List Loc} {ls : Array Slot}
    (C : lC p s m c b D ks cs κ) (hX : va_X b Ls xs s s.heap) (hbl : b < s.heap.size) (hn : s.heap.size ≤ h1 ∧ h1 ≤ h2) (hj : 6 * j + 6 ≤ Ls) (hLs : Ls ≤ 3072) (I : lI D ks cs s.heap.size h1 h2 ox om ad j H) (hS : va_S (l0 s.heap.size) s.heap H locs) (hl : lv_has ls 8 (lL b ox om h2 j))
    (kk : ∀ (H1 : Heap) (locs1 : List Loc) (ls1 : Array Slot), lI D ks cs s.heap.size h1 h2 ox om ad (j + 1) H1 → va_S (l0 s.heap.size) s.heap H1 locs1 → lv_has ls1 8 (lL b ox om h2 j) → W p l e room_1 s m #[Value.ref b] below meth c H1 locs1 (50 + 5 * (j + 1)) (10789 + 116 * (j + 1)) (lw_Z below #[Value.ref b] s) (F0 m 580 ls1 [])) : W p l e room_1 s m #[Value.ref b] below meth c H locs (50 + 5 * j) (10789 + 116 * j) (lw_Z below #[Value.ref b] s) (F0 m 376 ls []) := by
  obtain ⟨hx, hb, hown, hml, hts, -⟩ := id C
  obtain ⟨τ, L, ψ, f, g, S, aX, X, hs, ha, ht, hu⟩ := I
  have hI : mInv S := hs.1
  have hbA : ¬ l0 s.heap.size b := Nat.not_le.mpr hbl
  have hno : ¬ lA s.heap.size h1 h2 h2 := by rintro (z | z) <;> omega
  have hj5 : j < 512 := by omega
  have hb5 := lB_b hj5
  have hb6 := lB_0 hb5
  have hb7 := lB_s j
  have hb8 : lB j ≤ lB (j + 1) := by rw [hb7]; exact hb6.1
  refine lv_aload_n hx hb dL_law_376 rfl (lv_at hl 1 rfl) ?_
  refine lv_aload_n hx hb dL_law_377 rfl (lv_at hl 0 rfl) ?_
  refine lv_iload hx hb dL_law_378 (lv_at hl 4 rfl) ?_
  refine lv_iconst (v := 1) hx hb dL_law_380 (by decide) ?_
  refine lv_iadd hx hb dL_law_381 ?_
  refine va_sld hx hb hX hbl hbA hS (show vp_in (nI (6 * j) + 1) Ls from s_inl 1 (by decide) hj hLs) dL_law_382 ?_
  refine lv_aload_n hx hb dL_law_383 rfl (lv_at hl 3 rfl) ?_
  refine lHelp (As := [.ref ox, .int (xs (nI (6 * j) + 1).toNatClampNeg), .ref h2]) (rest := []) C hn X hS (c_L_tick l D ks τ L (lA s.heap.size h1 h2) κ hlt cs.2.1 h2 hno ψ f g ox (xs (nI (6 * j) + 1).toNatClampNeg) ht ) lG_94 lK_94 ⟨rfl, rfl, Nat.le_of_ble_eq_true rfl, Nat.le_of_ble_eq_true rfl⟩ hl.1 rfl (Nat.le_of_ble_eq_true rfl) dL_law_384 ⟨show 50 + 5 * j + 1 ≤ 601024 by omega, show 10789 + 116 * j + 6 ≤ 7293034 by omega⟩ (fun r ψ1 f1 g1 H locs hp X hS => ?_)
  refine lv_istore (lv' := [(5, .int r), (0, .ref b), (1, .ref ox), (2, .ref om), (3, .ref h2), (4, .int (nI (6 * j)))]) hx hb dL_law_387 hl (by decide) rfl (fun ls hl => ?_)
  refine lv_aload_n hx hb dL_law_389 rfl (lv_at hl 3 rfl) ?_
  refine lv_aload_n hx hb dL_law_390 rfl (lv_at hl 1 rfl) ?_
  refine lv_iload hx hb dL_law_391 (lv_at hl 5 rfl) ?_
  refine lv_iconst (v := 1) hx hb dL_law_393 (by decide) ?_
  refine lv_iadd hx hb dL_law_394 ?_
  refine va_sld hx hb hX hbl hbA hS (show vp_in (nI (6 * j) + 1) Ls from s_inl 1 (by decide) hj hLs) dL_law_395 ?_
  refine lModI (As := [.int (xs (nI (6 * j) + 1).toNatClampNeg)]) (rest := []) C hn X hS (c_tick l D cs om ad (lMm h1 h2) S (xs (nI (6 * j) + 1).toNatClampNeg) hI) lG_96 lK_96 ⟨rfl, rfl, Nat.le_of_ble_eq_true rfl, Nat.le_of_ble_eq_true rfl⟩ hl.1 rfl (Nat.le_of_ble_eq_true rfl) dL_law_396 ⟨show 50 + 5 * j + 1 ≤ 601024 by omega, show 10789 + 116 * j + 6 ≤ 7293034 by omega⟩ (fun r1 S1 H locs hq X hS => ?_)
  refine lv_istore (lv' := [(6, .int r1), (5, .int r), (0, .ref b), (1, .ref ox), (2, .ref om), (3, .ref h2), (4, .int (nI (6 * j)))]) hx hb dL_law_399 hl (by decide) rfl (fun ls hl => ?_)
  rw [← ha] at hp
  have hz := l_both (t_tick (n := xs (nI (6 * j) + 1).toNatClampNeg) hs) hp hq.2
  refine lv_goto (tgt := 580) hx hb dL_law_401 (by decide) ?_
  refine cWd (mc := 50 + 5 * (j + 1)) (ms := 10789 + 116 * (j + 1)) ⟨by omega, by omega⟩ ?_
  exact kk _ _ _ (l_fin X hz.2.2 hb8 ha ht hu) hS (lv_sub hl [2, 3, 4, 5, 6] rfl)
set_option maxHeartbeats 400000 in
set_option maxRecDepth 100000 in
theorem l_interrupt (l : Launch) (hlt : l.stackTraces = false) {p : Program} {e : Env} {s : State} {m : MethodId} {below : List Frame} {meth : Method} {c : Code} {b Ls : Nat} {xs : Nat → Int32} {D : va_G} {ks : kS} {cs : ClassId × ClassId × ClassId} {κ : kC} {h1 h2 ox om j : Nat} {ad : Nat → Nat} {H : Heap} {locs : List Loc} {ls : Array Slot}
    (C : lC p s m c b D ks cs κ) (hX : va_X b Ls xs s s.heap) (hbl : b < s.heap.size) (hn : s.heap.size ≤ h1 ∧ h1 ≤ h2) (hj : 6 * j + 6 ≤ Ls) (hLs : Ls ≤ 3072) (I : lI D ks cs s.heap.size h1 h2 ox om ad j H) (hS : va_S (l0 s.heap.size) s.heap H locs) (hl : lv_has ls 8 (lL b ox om h2 j))
    (kk : ∀ (H1 : Heap) (locs1 : List Loc) (ls1 : Array Slot), lI D ks cs s.heap.size h1 h2 ox om ad (j + 1) H1 → va_S (l0 s.heap.size) s.heap H1 locs1 → lv_has ls1 8 (lL b ox om h2 j) → W p l e room_1 s m #[Value.ref b] below meth c H1 locs1 (50 + 5 * (j + 1)) (10789 + 116 * (j + 1)) (lw_Z below #[Value.ref b] s) (F0 m 580 ls1 [])) : W p l e room_1 s m #[Value.ref b] below meth c H locs (50 + 5 * j) (10789 + 116 * j) (lw_Z below #[Value.ref b] s) (F0 m 404 ls []) := by
  obtain ⟨hx, hb, hown, hml, hts, -⟩ := id C
  obtain ⟨τ, L, ψ, f, g, S, aX, X, hs, ha, ht, hu⟩ := I
  have hI : mInv S := hs.1
  have hbA : ¬ l0 s.heap.size b := Nat.not_le.mpr hbl
  have hno : ¬ lA s.heap.size h1 h2 h2 := by rintro (z | z) <;> omega
  have hj5 : j < 512 := by omega
  have hb5 := lB_b hj5
  have hb6 := lB_0 hb5
  have hb7 := lB_s j
  have hb8 : lB j ≤ lB (j + 1) := by rw [hb7]; exact hb6.1
  refine lv_aload_n hx hb dL_law_404 rfl (lv_at hl 1 rfl) ?_
  refine lv_aload_n hx hb dL_law_405 rfl (lv_at hl 0 rfl) ?_
  refine lv_iload hx hb dL_law_406 (lv_at hl 4 rfl) ?_
  refine lv_iconst (v := 1) hx hb dL_law_408 (by decide) ?_
  refine lv_iadd hx hb dL_law_409 ?_
  refine va_sld hx hb hX hbl hbA hS (show vp_in (nI (6 * j) + 1) Ls from s_inl 1 (by decide) hj hLs) dL_law_410 ?_
  refine lv_aload_n hx hb dL_law_411 rfl (lv_at hl 3 rfl) ?_
  refine lHelp (As := [.ref ox, .int (xs (nI (6 * j) + 1).toNatClampNeg), .ref h2]) (rest := []) C hn X hS (c_L_interrupt l D ks τ L (lA s.heap.size h1 h2) κ hlt cs.2.1 h2 hno ψ f g ox (xs (nI (6 * j) + 1).toNatClampNeg) ht ) lG_97 lK_97 ⟨rfl, rfl, Nat.le_of_ble_eq_true rfl, Nat.le_of_ble_eq_true rfl⟩ hl.1 rfl (Nat.le_of_ble_eq_true rfl) dL_law_412 ⟨show 50 + 5 * j + 1 ≤ 601024 by omega, show 10789 + 116 * j + 6 ≤ 7293034 by omega⟩ (fun r ψ1 f1 g1 H locs hp X hS => ?_)
  refine lv_istore (lv' := [(5, .int r), (0, .ref b), (1, .ref ox), (2, .ref om), (3, .ref h2), (4, .int (nI (6 * j)))]) hx hb dL_law_415 hl (by decide) rfl (fun ls hl => ?_)
  refine lv_aload_n hx hb dL_law_417 rfl (lv_at hl 3 rfl) ?_
  refine lv_aload_n hx hb dL_law_418 rfl (lv_at hl 1 rfl) ?_
  refine lv_iload hx hb dL_law_419 (lv_at hl 5 rfl) ?_
  refine lv_iconst (v := 1) hx hb dL_law_421 (by decide) ?_
  refine lv_iadd hx hb dL_law_422 ?_
  refine va_sld hx hb hX hbl hbA hS (show vp_in (nI (6 * j) + 1) Ls from s_inl 1 (by decide) hj hLs) dL_law_423 ?_
  refine lModI (As := [.int (xs (nI (6 * j) + 1).toNatClampNeg)]) (rest := []) C hn X hS (c_interrupt l D cs om ad (lMm h1 h2) S (xs (nI (6 * j) + 1).toNatClampNeg) hI) lG_99 lK_99 ⟨rfl, rfl, Nat.le_of_ble_eq_true rfl, Nat.le_of_ble_eq_true rfl⟩ hl.1 rfl (Nat.le_of_ble_eq_true rfl) dL_law_424 ⟨show 50 + 5 * j + 1 ≤ 601024 by omega, show 10789 + 116 * j + 6 ≤ 7293034 by omega⟩ (fun r1 S1 H locs hq X hS => ?_)
  refine lv_istore (lv' := [(6, .int r1), (5, .int r), (0, .ref b), (1, .ref ox), (2, .ref om), (3, .ref h2), (4, .int (nI (6 * j)))]) hx hb dL_law_427 hl (by decide) rfl (fun ls hl => ?_)
  rw [← ha] at hp
  have hz := l_both (t_int (i := xs (nI (6 * j) + 1).toNatClampNeg) hs ⟨hb6.2.2.1, hb6.2.2.2.1⟩) hp hq.2
  refine lv_goto (tgt := 580) hx hb dL_law_429 (by decide) ?_
  refine cWd (mc := 50 + 5 * (j + 1)) (ms := 10789 + 116 * (j + 1)) ⟨by omega, by omega⟩ ?_
  exact kk _ _ _ (l_fin X hz.2.2 hb8 ha ht hu) hS (lv_sub hl [2, 3, 4, 5, 6] rfl)
set_option maxHeartbeats 400000 in
set_option maxRecDepth 100000 in
theorem l_look (l : Launch) (hlt : l.stackTraces = false) {p : Program} {e : Env} {s : State} {m : MethodId} {below : List Frame} {meth : Method} {c : Code} {b Ls : Nat} {xs : Nat → Int32} {D : va_G} {ks : kS} {cs : ClassId × ClassId × ClassId} {κ : kC} {h1 h2 ox om j : Nat} {ad : Nat → Nat} {H : Heap} {locs : List Loc} {ls : Array Slot}
    (C : lC p s m c b D ks cs κ) (hX : va_X b Ls xs s s.heap) (hbl : b < s.heap.size) (hn : s.heap.size ≤ h1 ∧ h1 ≤ h2) (hj : 6 * j + 6 ≤ Ls) (hLs : Ls ≤ 3072) (I : lI D ks cs s.heap.size h1 h2 ox om ad j H) (hS : va_S (l0 s.heap.size) s.heap H locs) (hl : lv_has ls 8 (lL b ox om h2 j))
    (kk : ∀ (H1 : Heap) (locs1 : List Loc) (ls1 : Array Slot), lI D ks cs s.heap.size h1 h2 ox om ad (j + 1) H1 → va_S (l0 s.heap.size) s.heap H1 locs1 → lv_has ls1 8 (lL b ox om h2 j) → W p l e room_1 s m #[Value.ref b] below meth c H1 locs1 (50 + 5 * (j + 1)) (10789 + 116 * (j + 1)) (lw_Z below #[Value.ref b] s) (F0 m 580 ls1 [])) : W p l e room_1 s m #[Value.ref b] below meth c H locs (50 + 5 * j) (10789 + 116 * j) (lw_Z below #[Value.ref b] s) (F0 m 432 ls []) := by
  obtain ⟨hx, hb, hown, hml, hts, -⟩ := id C
  obtain ⟨τ, L, ψ, f, g, S, aX, X, hs, ha, ht, hu⟩ := I
  have hI : mInv S := hs.1
  have hbA : ¬ l0 s.heap.size b := Nat.not_le.mpr hbl
  have hno : ¬ lA s.heap.size h1 h2 h2 := by rintro (z | z) <;> omega
  have hj5 : j < 512 := by omega
  have hb5 := lB_b hj5
  have hb6 := lB_0 hb5
  have hb7 := lB_s j
  have hb8 : lB j ≤ lB (j + 1) := by rw [hb7]; exact hb6.1
  refine lv_aload_n hx hb dL_law_432 rfl (lv_at hl 1 rfl) ?_
  refine lv_aload_n hx hb dL_law_433 rfl (lv_at hl 0 rfl) ?_
  refine lv_iload hx hb dL_law_434 (lv_at hl 4 rfl) ?_
  refine lv_iconst (v := 1) hx hb dL_law_436 (by decide) ?_
  refine lv_iadd hx hb dL_law_437 ?_
  refine va_sld hx hb hX hbl hbA hS (show vp_in (nI (6 * j) + 1) Ls from s_inl 1 (by decide) hj hLs) dL_law_438 ?_
  refine lv_aload_n hx hb dL_law_439 rfl (lv_at hl 0 rfl) ?_
  refine lv_iload hx hb dL_law_440 (lv_at hl 4 rfl) ?_
  refine lv_iconst (v := 2) hx hb dL_law_442 (by decide) ?_
  refine lv_iadd hx hb dL_law_443 ?_
  refine va_sld hx hb hX hbl hbA hS (show vp_in (nI (6 * j) + 2) Ls from s_inl 2 (by decide) hj hLs) dL_law_444 ?_
  refine lv_aload_n hx hb dL_law_445 rfl (lv_at hl 3 rfl) ?_
  refine lHelp (As := [.ref ox, .int (xs (nI (6 * j) + 1).toNatClampNeg), .int (xs (nI (6 * j) + 2).toNatClampNeg), .ref h2]) (rest := []) C hn X hS (c_L_look l D ks τ L (lA s.heap.size h1 h2) κ hlt cs.2.1 h2 hno ψ f g ox (xs (nI (6 * j) + 1).toNatClampNeg) (xs (nI (6 * j) + 2).toNatClampNeg) ht ) lG_100 lK_100 ⟨rfl, rfl, Nat.le_of_ble_eq_true rfl, Nat.le_of_ble_eq_true rfl⟩ hl.1 rfl (Nat.le_of_ble_eq_true rfl) dL_law_446 ⟨show 50 + 5 * j + 2 ≤ 601024 by omega, show 10789 + 116 * j + 12 ≤ 7293034 by omega⟩ (fun r ψ1 f1 g1 H locs hp X hS => ?_)
  refine lv_istore (lv' := [(5, .int r), (0, .ref b), (1, .ref ox), (2, .ref om), (3, .ref h2), (4, .int (nI (6 * j)))]) hx hb dL_law_449 hl (by decide) rfl (fun ls hl => ?_)
  refine lv_aload_n hx hb dL_law_451 rfl (lv_at hl 3 rfl) ?_
  refine lv_aload_n hx hb dL_law_452 rfl (lv_at hl 1 rfl) ?_
  refine lv_iload hx hb dL_law_453 (lv_at hl 5 rfl) ?_
  refine lv_iconst (v := 1) hx hb dL_law_455 (by decide) ?_
  refine lv_iadd hx hb dL_law_456 ?_
  refine va_sld hx hb hX hbl hbA hS (show vp_in (nI (6 * j) + 1) Ls from s_inl 1 (by decide) hj hLs) dL_law_457 ?_
  refine lv_aload_n hx hb dL_law_458 rfl (lv_at hl 1 rfl) ?_
  refine lv_iload hx hb dL_law_459 (lv_at hl 5 rfl) ?_
  refine lv_iconst (v := 2) hx hb dL_law_461 (by decide) ?_
  refine lv_iadd hx hb dL_law_462 ?_
  refine va_sld hx hb hX hbl hbA hS (show vp_in (nI (6 * j) + 2) Ls from s_inl 2 (by decide) hj hLs) dL_law_463 ?_
  refine lModI (As := [.int (xs (nI (6 * j) + 1).toNatClampNeg), .int (xs (nI (6 * j) + 2).toNatClampNeg)]) (rest := []) C hn X hS (c_look l D cs om ad (lMm h1 h2) S (xs (nI (6 * j) + 1).toNatClampNeg) (xs (nI (6 * j) + 2).toNatClampNeg) hI) lG_102 lK_102 ⟨rfl, rfl, Nat.le_of_ble_eq_true rfl, Nat.le_of_ble_eq_true rfl⟩ hl.1 rfl (Nat.le_of_ble_eq_true rfl) dL_law_464 ⟨show 50 + 5 * j + 2 ≤ 601024 by omega, show 10789 + 116 * j + 12 ≤ 7293034 by omega⟩ (fun r1 S1 H locs hq X hS => ?_)
  refine lv_istore (lv' := [(6, .int r1), (5, .int r), (0, .ref b), (1, .ref ox), (2, .ref om), (3, .ref h2), (4, .int (nI (6 * j)))]) hx hb dL_law_467 hl (by decide) rfl (fun ls hl => ?_)
  rw [← ha] at hp
  have hz := l_both (t_look (i := xs (nI (6 * j) + 1).toNatClampNeg) (w := xs (nI (6 * j) + 2).toNatClampNeg) hs) hp hq.2
  refine lv_goto (tgt := 580) hx hb dL_law_469 (by decide) ?_
  refine cWd (mc := 50 + 5 * (j + 1)) (ms := 10789 + 116 * (j + 1)) ⟨by omega, by omega⟩ ?_
  exact kk _ _ _ (l_fin X hz.2.2 hb8 ha ht hu) hS (lv_sub hl [2, 3, 4, 5, 6] rfl)
set_option maxHeartbeats 400000 in
set_option maxRecDepth 100000 in
theorem l_dead (l : Launch) (hlt : l.stackTraces = false) {p : Program} {e : Env} {s : State} {m : MethodId} {below : List Frame} {meth : Method} {c : Code} {b Ls : Nat} {xs : Nat → Int32} {D : va_G} {ks : kS} {cs : ClassId × ClassId × ClassId} {κ : kC} {h1 h2 ox om j : Nat} {ad : Nat → Nat} {H : Heap} {locs : List Loc} {ls : Array Slot}
    (C : lC p s m c b D ks cs κ) (hX : va_X b Ls xs s s.heap) (hbl : b < s.heap.size) (hn : s.heap.size ≤ h1 ∧ h1 ≤ h2) (hj : 6 * j + 6 ≤ Ls) (hLs : Ls ≤ 3072) (I : lI D ks cs s.heap.size h1 h2 ox om ad j H) (hS : va_S (l0 s.heap.size) s.heap H locs) (hl : lv_has ls 8 (lL b ox om h2 j))
    (kk : ∀ (H1 : Heap) (locs1 : List Loc) (ls1 : Array Slot), lI D ks cs s.heap.size h1 h2 ox om ad (j + 1) H1 → va_S (l0 s.heap.size) s.heap H1 locs1 → lv_has ls1 8 (lL b ox om h2 j) → W p l e room_1 s m #[Value.ref b] below meth c H1 locs1 (50 + 5 * (j + 1)) (10789 + 116 * (j + 1)) (lw_Z below #[Value.ref b] s) (F0 m 580 ls1 [])) : W p l e room_1 s m #[Value.ref b] below meth c H locs (50 + 5 * j) (10789 + 116 * j) (lw_Z below #[Value.ref b] s) (F0 m 472 ls []) := by
  obtain ⟨hx, hb, hown, hml, hts, -⟩ := id C
  obtain ⟨τ, L, ψ, f, g, S, aX, X, hs, ha, ht, hu⟩ := I
  have hI : mInv S := hs.1
  have hbA : ¬ l0 s.heap.size b := Nat.not_le.mpr hbl
  have hno : ¬ lA s.heap.size h1 h2 h2 := by rintro (z | z) <;> omega
  have hj5 : j < 512 := by omega
  have hb5 := lB_b hj5
  have hb6 := lB_0 hb5
  have hb7 := lB_s j
  have hb8 : lB j ≤ lB (j + 1) := by rw [hb7]; exact hb6.1
  refine lv_aload_n hx hb dL_law_472 rfl (lv_at hl 1 rfl) ?_
  refine lDead C hn X hS ht ⟨Nat.le_of_ble_eq_true rfl, Nat.le_of_ble_eq_true rfl⟩ hl.1 rfl dL_law_473 ⟨show 50 + 5 * j ≤ 601024 by omega, show 10789 + 116 * j ≤ 7293034 by omega⟩ (fun r ψ1 f1 H locs hp X hS => ?_)
  refine lv_pop hx hb dL_law_476 rfl ?_
  refine lv_aload_n hx hb dL_law_477 rfl (lv_at hl 2 rfl) ?_
  refine lModI (As := []) (rest := []) C hn X hS (c_dead l D cs om ad (lMm h1 h2) S  hI) lG_106 lK_106 ⟨rfl, rfl, Nat.le_of_ble_eq_true rfl, Nat.le_of_ble_eq_true rfl⟩ hl.1 rfl (Nat.le_of_ble_eq_true rfl) dL_law_478 ⟨show 50 + 5 * j ≤ 601024 by omega, show 10789 + 116 * j ≤ 7293034 by omega⟩ (fun r1 S1 H locs hq X hS => ?_)
  refine lv_pop hx hb dL_law_481 rfl ?_
  rw [← ha] at hp
  have hz := l_deadP (t_dead hs) hp hq.2
  refine lv_goto (tgt := 580) hx hb dL_law_482 (by decide) ?_
  refine cWd (mc := 50 + 5 * (j + 1)) (ms := 10789 + 116 * (j + 1)) ⟨by omega, by omega⟩ ?_
  exact kk _ _ _ (l_fin X hz.2 hb8 ha ht hu) hS (lv_sub hl [0, 1, 2, 3, 4] rfl)
set_option maxHeartbeats 400000 in
set_option maxRecDepth 100000 in
theorem l_sync (l : Launch) (hlt : l.stackTraces = false) {p : Program} {e : Env} {s : State} {m : MethodId} {below : List Frame} {meth : Method} {c : Code} {b Ls : Nat} {xs : Nat → Int32} {D : va_G} {ks : kS} {cs : ClassId × ClassId × ClassId} {κ : kC} {h1 h2 ox om j : Nat} {ad : Nat → Nat} {H : Heap} {locs : List Loc} {ls : Array Slot}
    (C : lC p s m c b D ks cs κ) (hX : va_X b Ls xs s s.heap) (hbl : b < s.heap.size) (hn : s.heap.size ≤ h1 ∧ h1 ≤ h2) (hj : 6 * j + 6 ≤ Ls) (hLs : Ls ≤ 3072) (I : lI D ks cs s.heap.size h1 h2 ox om ad j H) (hS : va_S (l0 s.heap.size) s.heap H locs) (hl : lv_has ls 8 (lL b ox om h2 j))
    (kk : ∀ (H1 : Heap) (locs1 : List Loc) (ls1 : Array Slot), lI D ks cs s.heap.size h1 h2 ox om ad (j + 1) H1 → va_S (l0 s.heap.size) s.heap H1 locs1 → lv_has ls1 8 (lL b ox om h2 j) → W p l e room_1 s m #[Value.ref b] below meth c H1 locs1 (50 + 5 * (j + 1)) (10789 + 116 * (j + 1)) (lw_Z below #[Value.ref b] s) (F0 m 580 ls1 [])) : W p l e room_1 s m #[Value.ref b] below meth c H locs (50 + 5 * j) (10789 + 116 * j) (lw_Z below #[Value.ref b] s) (F0 m 485 ls []) := by
  obtain ⟨hx, hb, hown, hml, hts, -⟩ := id C
  obtain ⟨τ, L, ψ, f, g, S, aX, X, hs, ha, ht, hu⟩ := I
  have hI : mInv S := hs.1
  have hbA : ¬ l0 s.heap.size b := Nat.not_le.mpr hbl
  have hno : ¬ lA s.heap.size h1 h2 h2 := by rintro (z | z) <;> omega
  have hj5 : j < 512 := by omega
  have hb5 := lB_b hj5
  have hb6 := lB_0 hb5
  have hb7 := lB_s j
  have hb8 : lB j ≤ lB (j + 1) := by rw [hb7]; exact hb6.1
  refine lv_aload_n hx hb dL_law_485 rfl (lv_at hl 1 rfl) ?_
  refine lv_aload_n hx hb dL_law_486 rfl (lv_at hl 0 rfl) ?_
  refine lv_iload hx hb dL_law_487 (lv_at hl 4 rfl) ?_
  refine lv_iconst (v := 1) hx hb dL_law_489 (by decide) ?_
  refine lv_iadd hx hb dL_law_490 ?_
  refine va_sld hx hb hX hbl hbA hS (show vp_in (nI (6 * j) + 1) Ls from s_inl 1 (by decide) hj hLs) dL_law_491 ?_
  refine lv_aload_n hx hb dL_law_492 rfl (lv_at hl 0 rfl) ?_
  refine lv_iload hx hb dL_law_493 (lv_at hl 4 rfl) ?_
  refine lv_iconst (v := 2) hx hb dL_law_495 (by decide) ?_
  refine lv_iadd hx hb dL_law_496 ?_
  refine va_sld hx hb hX hbl hbA hS (show vp_in (nI (6 * j) + 2) Ls from s_inl 2 (by decide) hj hLs) dL_law_497 ?_
  refine lv_aload_n hx hb dL_law_498 rfl (lv_at hl 3 rfl) ?_
  refine lHelp (As := [.ref ox, .int (xs (nI (6 * j) + 1).toNatClampNeg), .int (xs (nI (6 * j) + 2).toNatClampNeg), .ref h2]) (rest := []) C hn X hS (c_L_sync l D ks τ L (lA s.heap.size h1 h2) κ hlt cs.2.1 h2 hno ψ f g ox (xs (nI (6 * j) + 1).toNatClampNeg) (xs (nI (6 * j) + 2).toNatClampNeg) ht ) lG_107 lK_107 ⟨rfl, rfl, Nat.le_of_ble_eq_true rfl, Nat.le_of_ble_eq_true rfl⟩ hl.1 rfl (Nat.le_of_ble_eq_true rfl) dL_law_499 ⟨show 50 + 5 * j + 1 ≤ 601024 by omega, show 10789 + 116 * j + 6 ≤ 7293034 by omega⟩ (fun r ψ1 f1 g1 H locs hp X hS => ?_)
  refine lv_istore (lv' := [(5, .int r), (0, .ref b), (1, .ref ox), (2, .ref om), (3, .ref h2), (4, .int (nI (6 * j)))]) hx hb dL_law_502 hl (by decide) rfl (fun ls hl => ?_)
  refine lv_aload_n hx hb dL_law_504 rfl (lv_at hl 3 rfl) ?_
  refine lv_aload_n hx hb dL_law_505 rfl (lv_at hl 1 rfl) ?_
  refine lv_iload hx hb dL_law_506 (lv_at hl 5 rfl) ?_
  refine lv_iconst (v := 1) hx hb dL_law_508 (by decide) ?_
  refine lv_iadd hx hb dL_law_509 ?_
  refine va_sld hx hb hX hbl hbA hS (show vp_in (nI (6 * j) + 1) Ls from s_inl 1 (by decide) hj hLs) dL_law_510 ?_
  refine lv_aload_n hx hb dL_law_511 rfl (lv_at hl 1 rfl) ?_
  refine lv_iload hx hb dL_law_512 (lv_at hl 5 rfl) ?_
  refine lv_iconst (v := 2) hx hb dL_law_514 (by decide) ?_
  refine lv_iadd hx hb dL_law_515 ?_
  refine va_sld hx hb hX hbl hbA hS (show vp_in (nI (6 * j) + 2) Ls from s_inl 2 (by decide) hj hLs) dL_law_516 ?_
  refine lModL (As := [.int (xs (nI (6 * j) + 1).toNatClampNeg), .int (xs (nI (6 * j) + 2).toNatClampNeg)]) (rest := []) C hn X hS (c_sync l D cs om ad (lMm h1 h2) S (xs (nI (6 * j) + 1).toNatClampNeg) (xs (nI (6 * j) + 2).toNatClampNeg) hI) lG_109 lK_109 ⟨rfl, rfl, Nat.le_of_ble_eq_true rfl, Nat.le_of_ble_eq_true rfl⟩ hl.1 rfl (Nat.le_of_ble_eq_true rfl) dL_law_517 ⟨show 50 + 5 * j + 1 ≤ 601024 by omega, show 10789 + 116 * j + 6 ≤ 7293034 by omega⟩ (fun r1 S1 H locs hq X hS => ?_)
  refine lv_lstore (lv' := [(6, .long r1), (5, .int r), (0, .ref b), (1, .ref ox), (2, .ref om), (3, .ref h2), (4, .int (nI (6 * j)))]) hx hb dL_law_520 hl (by decide) rfl (fun ls hl => ?_)
  rw [← ha] at hp
  have hz := l_both (t_sync (i := xs (nI (6 * j) + 1).toNatClampNeg) (w := xs (nI (6 * j) + 2).toNatClampNeg) hs) hp hq.2
  refine lv_aload_n hx hb dL_law_522 rfl (lv_at hl 4 rfl) ?_
  refine lModI (As := []) (rest := []) C hn X hS (c_thrown l D cs om ad (lMm h1 h2) S1) lG_110 lK_110 ⟨rfl, rfl, Nat.le_of_ble_eq_true rfl, Nat.le_of_ble_eq_true rfl⟩ hl.1 rfl (Nat.le_of_ble_eq_true rfl) dL_law_523 ⟨show 50 + 5 * j + 1 ≤ 601024 by omega, show 10789 + 116 * j + 6 ≤ 7293034 by omega⟩ (fun rt S2 H locs ht2 X hS => ?_)
  obtain ⟨⟨eS, hrt⟩, -⟩ := ht2
  rw [eS] at X
  refine lv_iload hx hb dL_law_526 (lv_at hl 1 rfl) ?_
  refine lv_icmp_eq (tgt := 533) hx hb dL_law_528 (by decide) (fun _ => ?_) (fun h => absurd (hrt.trans hz.1) h)
  refine lv_iload hx hb dL_law_533 (lv_at hl 1 rfl) ?_
  refine lv_if_ne (tgt := 549) hx hb dL_law_535 (by decide) (fun _ => ?_) (fun hr0 => ?_)
  · refine lv_goto (tgt := 580) hx hb dL_law_549 (by decide) ?_
    refine cWd (mc := 50 + 5 * (j + 1)) (ms := 10789 + 116 * (j + 1)) ⟨by omega, by omega⟩ ?_
    exact kk _ _ _ (l_fin X hz.2.2 hb8 ha ht hu) hS (lv_sub hl [2, 3, 4, 5, 6] rfl)
  · have e4 : g1 0 = _ := hz.2.1 hr0
    refine lv_aload_n hx hb dL_law_538 rfl (lv_at hl 5 rfl) ?_
    refine lv_iconst (v := 0) hx hb dL_law_539 (by decide) ?_
    refine va_lald hx hb (C.2.2.2.2.2.2.1) X.2.2.1 0 1 rfl rfl (show vp_in 0 1 by unfold vp_in; decide) dL_law_540 ?_
    refine lv_lload hx hb dL_law_541 (lv_at hl 0 rfl) ?_
    refine W.lcmp hx hb dL_law_543 ?_
    refine lv_if_eq (tgt := 549) hx hb dL_law_544 (by decide) (fun _ => ?_) (fun h => absurd ?_ h)
    rotate_left
    · show lg_cmp (g1 0) _ = 0; rw [e4]; exact lg_self _
    refine lv_goto (tgt := 580) hx hb dL_law_549 (by decide) ?_
    refine cWd (mc := 50 + 5 * (j + 1)) (ms := 10789 + 116 * (j + 1)) ⟨by omega, by omega⟩ ?_
    exact kk _ _ _ (l_fin X hz.2.2 hb8 ha ht hu) hS (lv_sub hl [2, 3, 4, 5, 6] rfl)
set_option maxHeartbeats 400000 in
set_option maxRecDepth 100000 in
theorem l_count (l : Launch) (hlt : l.stackTraces = false) {p : Program} {e : Env} {s : State} {m : MethodId} {below : List Frame} {meth : Method} {c : Code} {b Ls : Nat} {xs : Nat → Int32} {D : va_G} {ks : kS} {cs : ClassId × ClassId × ClassId} {κ : kC} {h1 h2 ox om j : Nat} {ad : Nat → Nat} {H : Heap} {locs : List Loc} {ls : Array Slot}
    (C : lC p s m c b D ks cs κ) (hX : va_X b Ls xs s s.heap) (hbl : b < s.heap.size) (hn : s.heap.size ≤ h1 ∧ h1 ≤ h2) (hj : 6 * j + 6 ≤ Ls) (hLs : Ls ≤ 3072) (I : lI D ks cs s.heap.size h1 h2 ox om ad j H) (hS : va_S (l0 s.heap.size) s.heap H locs) (hl : lv_has ls 8 (lL b ox om h2 j))
    (kk : ∀ (H1 : Heap) (locs1 : List Loc) (ls1 : Array Slot), lI D ks cs s.heap.size h1 h2 ox om ad (j + 1) H1 → va_S (l0 s.heap.size) s.heap H1 locs1 → lv_has ls1 8 (lL b ox om h2 j) → W p l e room_1 s m #[Value.ref b] below meth c H1 locs1 (50 + 5 * (j + 1)) (10789 + 116 * (j + 1)) (lw_Z below #[Value.ref b] s) (F0 m 580 ls1 [])) : W p l e room_1 s m #[Value.ref b] below meth c H locs (50 + 5 * j) (10789 + 116 * j) (lw_Z below #[Value.ref b] s) (F0 m 552 ls []) := by
  obtain ⟨hx, hb, hown, hml, hts, -⟩ := id C
  obtain ⟨τ, L, ψ, f, g, S, aX, X, hs, ha, ht, hu⟩ := I
  have hI : mInv S := hs.1
  have hbA : ¬ l0 s.heap.size b := Nat.not_le.mpr hbl
  have hno : ¬ lA s.heap.size h1 h2 h2 := by rintro (z | z) <;> omega
  have hj5 : j < 512 := by omega
  have hb5 := lB_b hj5
  have hb6 := lB_0 hb5
  have hb7 := lB_s j
  have hb8 : lB j ≤ lB (j + 1) := by rw [hb7]; exact hb6.1
  refine lv_aload_n hx hb dL_law_552 rfl (lv_at hl 1 rfl) ?_
  refine lv_aload_n hx hb dL_law_553 rfl (lv_at hl 0 rfl) ?_
  refine lv_iload hx hb dL_law_554 (lv_at hl 4 rfl) ?_
  refine lv_iconst (v := 1) hx hb dL_law_556 (by decide) ?_
  refine lv_iadd hx hb dL_law_557 ?_
  refine va_sld hx hb hX hbl hbA hS (show vp_in (nI (6 * j) + 1) Ls from s_inl 1 (by decide) hj hLs) dL_law_558 ?_
  refine lv_aload_n hx hb dL_law_559 rfl (lv_at hl 3 rfl) ?_
  refine lHelp (As := [.ref ox, .int (xs (nI (6 * j) + 1).toNatClampNeg), .ref h2]) (rest := []) C hn X hS (c_L_count l D ks τ L (lA s.heap.size h1 h2) κ hlt cs.2.1 h2 hno ψ f g ox (xs (nI (6 * j) + 1).toNatClampNeg) ht ) lG_113 lK_113 ⟨rfl, rfl, Nat.le_of_ble_eq_true rfl, Nat.le_of_ble_eq_true rfl⟩ hl.1 rfl (Nat.le_of_ble_eq_true rfl) dL_law_560 ⟨show 50 + 5 * j + 1 ≤ 601024 by omega, show 10789 + 116 * j + 6 ≤ 7293034 by omega⟩ (fun r ψ1 f1 g1 H locs hp X hS => ?_)
  refine lv_istore (lv' := [(5, .int r), (0, .ref b), (1, .ref ox), (2, .ref om), (3, .ref h2), (4, .int (nI (6 * j)))]) hx hb dL_law_563 hl (by decide) rfl (fun ls hl => ?_)
  refine lv_aload_n hx hb dL_law_565 rfl (lv_at hl 3 rfl) ?_
  refine lv_aload_n hx hb dL_law_566 rfl (lv_at hl 1 rfl) ?_
  refine lv_iload hx hb dL_law_567 (lv_at hl 5 rfl) ?_
  refine lv_iconst (v := 1) hx hb dL_law_569 (by decide) ?_
  refine lv_iadd hx hb dL_law_570 ?_
  refine va_sld hx hb hX hbl hbA hS (show vp_in (nI (6 * j) + 1) Ls from s_inl 1 (by decide) hj hLs) dL_law_571 ?_
  refine lModL (As := [.int (xs (nI (6 * j) + 1).toNatClampNeg)]) (rest := []) C hn X hS (c_count l D cs om ad (lMm h1 h2) S (xs (nI (6 * j) + 1).toNatClampNeg) hI) lG_115 lK_115 ⟨rfl, rfl, Nat.le_of_ble_eq_true rfl, Nat.le_of_ble_eq_true rfl⟩ hl.1 rfl (Nat.le_of_ble_eq_true rfl) dL_law_572 ⟨show 50 + 5 * j + 1 ≤ 601024 by omega, show 10789 + 116 * j + 6 ≤ 7293034 by omega⟩ (fun r1 S1 H locs hq X hS => ?_)
  refine lv_lstore (lv' := [(6, .long r1), (5, .int r), (0, .ref b), (1, .ref ox), (2, .ref om), (3, .ref h2), (4, .int (nI (6 * j)))]) hx hb dL_law_575 hl (by decide) rfl (fun ls hl => ?_)
  rw [← ha] at hp
  have hz := l_cnt (t_count (w := xs (nI (6 * j) + 1).toNatClampNeg) hs) hp hq.2
  refine lv_goto (tgt := 580) hx hb dL_law_577 (by decide) ?_
  refine cWd (mc := 50 + 5 * (j + 1)) (ms := 10789 + 116 * (j + 1)) ⟨by omega, by omega⟩ ?_
  exact kk _ _ _ (l_fin X hz hb8 ha ht hu) hS (lv_sub hl [2, 3, 4, 5, 6] rfl)

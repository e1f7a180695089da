/-! reading a PROGRAM, both side by side: an INSTRUCTION whole -/
theorem xA_w {Y : xS} {a5 a : Nat} {p s v : Int32} : xA (xwA (xwI Y a5 5 p) a s v) a s = v := by rw [xA_A, if_pos ⟨rfl, rfl⟩]
theorem xA_o {Y : xS} {a5 a : Nat} {p s t v : Int32} (hs : 0 ≤ s) (ht : 0 ≤ t) (h : t ≠ s) : xA (xwA (xwI Y a5 5 p) a s v) a t = xA Y a t := by
  rw [xA_A, if_neg (fun z => h (tn_inj ht hs z.2)), xA_I]
theorem nx_f {ad : adT} {T : mS} {X : xS} {p : Int32} (hs : St ad T X p) : (∀ k, k ≠ 8 → k ≠ 9 → gI (G_next T) k = gI T k) ∧ (∀ k i, gA (G_next T) k i = gA T k i) := by
  obtain ⟨h, h5, pb, hp, hk, hT, h10⟩ := hs
  have q0 : 0 ≤ gI T 8 := Int32.le_trans pb.1 hk.1
  have er := tk_r hT q0 hk.2.1 h.2.2.2.2.1.2
  have z := p_next T ⟨Int32.le_trans q0 er.1, er.2.1, h.2.2.2.2.1.2⟩ (G_next T) rfl
  exact ⟨z.2.2.2.2.2.2.1, z.2.2.2.2.2.2.2.2.1⟩
theorem s_0 {s : Int32} : s + 1 + nI 0 = s + 1 := by rw [show nI 0 = 0 by decide]; grind
theorem s_1 {s : Int32} : s + 1 + nI 1 = s + 2 := by rw [show nI 1 = 1 by decide]; grind
theorem s_2 {s : Int32} : s + 1 + nI 2 = s + 3 := by rw [show nI 2 = 2 by decide]; grind
theorem sd {s : Int32} (h : 0 ≤ s ∧ s ≤ 236) : (0 ≤ s + 1 ∧ 0 ≤ s + 2 ∧ 0 ≤ s + 3) ∧ s ≠ s + 1 ∧ s ≠ s + 2 ∧ s ≠ s + 3 ∧ s + 1 ≠ s + 2 ∧ s + 1 ≠ s + 3 ∧ s + 2 ≠ s + 3 := by grind
theorem frT_s {ad : adT} {s p v : Int32} {j : Nat} {X : xS} (h : 0 ≤ s ∧ s ≤ 236) (hj : j ≤ 2) : frT ad s 4 X (xwA (xwI X (ad 9 0) 5 p) (ad 10 0) (s + 1 + nI j) v) :=
  frT_tr (frT_I (by simp)) (frT_A (sl_b h hj).1.1 (sl_b h hj).2)
section NS
variable {ad : adT} {T : mS} {X : xS} {p i m : Int32} {u k : Nat}
abbrev rngOk (c lo hi : Int32) : Prop := ∀ (Y : xS) (v : Int32), -999999999 ≤ v → v ≤ 999999999 → (FC_X10_inRange Y c v = 0 ↔ ¬ (lo ≤ v ∧ v ≤ hi))
theorem nums0 (hs : St ad T X p) (h6 : gI T 6 = i) (hi : 0 ≤ i ∧ i < 60) (hk : k < 34) (c0 : xA X (ad 10 0) (4 * i) = toC (nI k)) (hn : sLn.getD (34 + u) 0 = 0) (hk6 : k = 6 ∨ k = 33) (hG : GT (nI k) T = G_line_J166 (nI k) m 0 0 0 T) : LnR ad T i X (FC_X10_readInstruction_L90 (ad 9 0) (4 * i) u (sLn.getD (34 + u) 0 + 1) (nI 0) X) (GT (nI k) T) := by
  have eL := L90_e (ad := ad) (i := 4 * i) (u := u) (N := 0) (X := X)
  rw [hn] at eL ⊢
  rw [eL, hG]
  refine J_St hs h6 hi (fun _ => rfl) frT_rf hk c0 ?_ ?_ ?_
  · intro a b; rcases hk6 with rfl | rfl
    · exact absurd rfl a
    · exact absurd rfl b
  · intro a; exfalso; rcases hk6 with rfl | rfl <;> revert a <;> decide
  · intro a; exfalso; rcases hk6 with rfl | rfl <;> revert a <;> decide
theorem L90_f {F N j : Nat} (hF : F = N + 1) (hj : sLn.getD (34 + u) 0 = j) : FC_X10_readInstruction_L90 (ad 9 0) i u F (nI j) X = (1, X) := by
  rw [hF, ← hj]; exact L90_e
theorem st_n2 {lo hi c sl : Int32} {j : Nat} (hs : St ad T X p) (hu : u < 34) (hj : j < sLn.getD (34 + u) 0) (hc : (sBy.getD (34 + u) []).getD j 0 = c) (hR : rngOk c lo hi) (hi4 : 0 ≤ i ∧ i ≤ 236) {N F F2 j2 : Nat} (hF : F = N + 2) (hF2 : F2 = N + 1) (hj2 : j2 = j + 1) (hsl : i + 1 + nI j = sl) :
    (∃ v X2 p2, FC_X10_readInstruction_L90 (ad 9 0) i u F (nI j) X = FC_X10_readInstruction_L90 (ad 9 0) i u F2 (nI j2) X2 ∧ G_number T lo hi = (v, G_next T) ∧ St ad (G_next T) X2 p2 ∧ frT ad i 4 X X2 ∧ xA X2 (ad 10 0) sl = v ∧ (∀ t, 0 ≤ t → t ≠ sl → xA X2 (ad 10 0) t = xA X (ad 10 0) t)) ∨
    ((∀ v T1, G_number T lo hi = (v, T1) → 0 ≤ gI T1 10) ∧ BR ad T i X (FC_X10_readInstruction_L90 (ad 9 0) i u F (nI j) X)) := by
  subst hF hF2 hj2 hsl
  have hl3 := sLn_le.2 (34 + u) (by omega)
  rcases st_num hs hu hj hc hR hi4 N with ⟨v, p2, e1, e2, e3⟩ | ⟨b1, b2⟩
  · exact Or.inl ⟨v, _, p2, e1, e2, e3, frT_s hi4 (by omega), xA_w, fun t t0 t1 => xA_o (sl_b hi4 (by omega)).1.1 t0 t1⟩
  · refine Or.inr ⟨fun v T1 e => ?_, b2⟩
    rw [e] at b1; exact b1
theorem nums1 {lo hi c : Int32} (hs : St ad T X p) (h6 : gI T 6 = i) (hi9 : 0 ≤ i ∧ i < 60) (hk : k < 34) (hu : u < 34) (c0 : xA X (ad 10 0) (4 * i) = toC (nI k)) (hn : sLn.getD (34 + u) 0 = 1) (hc : (sBy.getD (34 + u) []).getD 0 0 = c) (hR : rngOk c lo hi) (hk6 : nI k ≠ 15 ∧ nI k ≠ 16 ∧ nI k ≠ 17 ∧ nI k ≠ 18) (hG : ∀ v T1, G_number T lo hi = (v, T1) → GT (nI k) T = G_line_J166 (nI k) m v 0 0 T1) {F : Nat} (hF : F = 0 + 2) : LnR ad T i X (FC_X10_readInstruction_L90 (ad 9 0) (4 * i) u F (nI 0) X) (GT (nI k) T) := by
  have s4 := i4 hi9
  have dd := sd s4
  have nf := nx_f hs
  rcases st_n2 hs hu (by rw [hn]; decide) hc hR s4 hF rfl rfl s_0 with ⟨v, X2, p2, e1, e2, e3, fX, w1, w2⟩ | ⟨b1, b2⟩
  · rw [e1, L90_f rfl hn, hG _ _ e2]
    refine J_St e3 ((nf.1 6 (by decide) (by decide)).trans h6) hi9 (nf.2 5) fX hk ?_ ?_ ?_ ?_
    · rw [w2 _ s4.1 dd.2.1]; exact c0
    · intro _ _; exact w1
    · intro a; rcases a with a | a | a | a
      · exact absurd a hk6.1
      · exact absurd a hk6.2.1
      · exact absurd a hk6.2.2.1
      · exact absurd a hk6.2.2.2
    · intro a; exact absurd a hk6.2.1
  · rcases hN : G_number T lo hi with ⟨v1, T1⟩
    exact Or.inr ⟨by rw [hG _ _ hN, J166_10]; exact b1 _ _ hN, b2⟩
theorem nums2 {lo hi c lo2 hi2 c2 : Int32} (hs : St ad T X p) (h6 : gI T 6 = i) (hi9 : 0 ≤ i ∧ i < 60) (hk : k < 34) (hu : u < 34) (c0 : xA X (ad 10 0) (4 * i) = toC (nI k)) (hn : sLn.getD (34 + u) 0 = 2) (hc : (sBy.getD (34 + u) []).getD 0 0 = c) (hR : rngOk c lo hi) (hc2 : (sBy.getD (34 + u) []).getD 1 0 = c2) (hR2 : rngOk c2 lo2 hi2) (hk6 : nI k ≠ 16) (hG : ∀ v T1 v2 T2, G_number T lo hi = (v, T1) → G_number T1 lo2 hi2 = (v2, T2) → GT (nI k) T = G_line_J166 (nI k) m v v2 0 T2) {F : Nat} (hF : F = 1 + 2) : LnR ad T i X (FC_X10_readInstruction_L90 (ad 9 0) (4 * i) u F (nI 0) X) (GT (nI k) T) := by
  have s4 := i4 hi9
  have dd := sd s4
  have nf := nx_f hs
  rcases st_n2 (F2 := 2) (j2 := 1) hs hu (by rw [hn]; decide) hc hR s4 hF rfl rfl s_0 with ⟨v, X2, p2, e1, e2, e3, fX, w1, w2⟩ | ⟨b1, b2⟩
  · have nf2 := nx_f e3
    rw [e1]
    rcases st_n2 (F := 2) (N := 0) (F2 := 1) (j := 1) (j2 := 2) e3 hu (by rw [hn]; decide) hc2 hR2 s4 rfl rfl rfl s_1 with ⟨v2, X3, p3, g1, g2, g3, fY, y1, y2⟩ | ⟨d1, d2⟩
    · rw [g1, L90_f (N := 0) rfl hn, hG _ _ _ _ e2 g2]
      refine J_St g3 ((nf2.1 6 (by decide) (by decide)).trans ((nf.1 6 (by decide) (by decide)).trans h6)) hi9 (fun x => (nf2.2 5 x).trans (nf.2 5 x)) (frT_tr fX fY) hk ?_ ?_ ?_ ?_
      · rw [y2 _ s4.1 dd.2.2.1, w2 _ s4.1 dd.2.1]; exact c0
      · intro _ _; rw [y2 _ dd.1.1 dd.2.2.2.2.1]; exact w1
      · intro _; exact y1
      · intro a; exact absurd a hk6
    · rcases hN : G_number (G_next T) lo2 hi2 with ⟨v2, T2⟩
      exact Or.inr ⟨by rw [hG _ _ _ _ e2 hN, J166_10]; exact d1 _ _ hN, BR_tr fX (BR_S (nf.1 7 (by decide) (by decide)) (nf.2 1) d2)⟩
  · rcases hN : G_number T lo hi with ⟨v1, T1⟩
    have b := b1 _ _ hN
    exact Or.inr ⟨by rw [hG _ _ _ _ hN (num_b b), J166_10]; exact b, b2⟩
theorem nums3 {lo hi c lo2 hi2 c2 : Int32} (hs : St ad T X p) (h6 : gI T 6 = i) (hi9 : 0 ≤ i ∧ i < 60) (hk : k < 34) (hu : u < 34) (c0 : xA X (ad 10 0) (4 * i) = toC (nI k)) (hn : sLn.getD (34 + u) 0 = 3) (hc : (sBy.getD (34 + u) []).getD 0 0 = c) (hR : rngOk c lo hi) (hc2 : (sBy.getD (34 + u) []).getD 1 0 = c2) (hc3 : (sBy.getD (34 + u) []).getD 2 0 = c2) (hR2 : rngOk c2 lo2 hi2) (hG : ∀ v T1 v2 T2 v3 T3, G_number T lo hi = (v, T1) → G_number T1 lo2 hi2 = (v2, T2) → G_number T2 lo2 hi2 = (v3, T3) → GT (nI k) T = G_line_J166 (nI k) m v v2 v3 T3) {F : Nat} (hF : F = 2 + 2) : LnR ad T i X (FC_X10_readInstruction_L90 (ad 9 0) (4 * i) u F (nI 0) X) (GT (nI k) T) := by
  have s4 := i4 hi9
  have dd := sd s4
  have nf := nx_f hs
  rcases st_n2 (F2 := 3) (j2 := 1) hs hu (by rw [hn]; decide) hc hR s4 hF rfl rfl s_0 with ⟨v, X2, p2, e1, e2, e3, fX, w1, w2⟩ | ⟨b1, b2⟩
  · have nf2 := nx_f e3
    rw [e1]
    rcases st_n2 (F := 3) (N := 1) (F2 := 2) (j := 1) (j2 := 2) e3 hu (by rw [hn]; decide) hc2 hR2 s4 rfl rfl rfl s_1 with ⟨v2, X3, p3, g1, g2, g3, fY, y1, y2⟩ | ⟨d1, d2⟩
    · have nf3 := nx_f g3
      rw [g1]
      rcases st_n2 (F := 2) (N := 0) (F2 := 1) (j := 2) (j2 := 3) g3 hu (by rw [hn]; decide) hc3 hR2 s4 rfl rfl rfl s_2 with ⟨v3, X4, p4, r1, r2, r3, fZ, z1, z2⟩ | ⟨m1, m2⟩
      · rw [r1, L90_f (N := 0) rfl hn, hG _ _ _ _ _ _ e2 g2 r2]
        refine J_St r3 ((nf3.1 6 (by decide) (by decide)).trans ((nf2.1 6 (by decide) (by decide)).trans ((nf.1 6 (by decide) (by decide)).trans h6))) hi9 (fun x => (nf3.2 5 x).trans ((nf2.2 5 x).trans (nf.2 5 x))) (frT_tr fX (frT_tr fY fZ)) hk ?_ ?_ ?_ ?_
        · rw [z2 _ s4.1 dd.2.2.2.1, y2 _ s4.1 dd.2.2.1, w2 _ s4.1 dd.2.1]; exact c0
        · intro _ _; rw [z2 _ dd.1.1 dd.2.2.2.2.2.1, y2 _ dd.1.1 dd.2.2.2.2.1]; exact w1
        · intro _; rw [z2 _ dd.1.2.1 dd.2.2.2.2.2.2]; exact y1
        · intro _; exact z1
      · rcases hN : G_number (G_next (G_next T)) lo2 hi2 with ⟨v3, T3⟩
        exact Or.inr ⟨by rw [hG _ _ _ _ _ _ e2 g2 hN, J166_10]; exact m1 _ _ hN, BR_tr fX (BR_S (nf.1 7 (by decide) (by decide)) (nf.2 1) (BR_tr fY (BR_S (nf2.1 7 (by decide) (by decide)) (nf2.2 1) m2)))⟩
    · rcases hN : G_number (G_next T) lo2 hi2 with ⟨v2, T2⟩
      have b := d1 _ _ hN
      exact Or.inr ⟨by rw [hG _ _ _ _ _ _ e2 hN (num_b b), J166_10]; exact b, BR_tr fX (BR_S (nf.1 7 (by decide) (by decide)) (nf.2 1) d2)⟩
  · rcases hN : G_number T lo hi with ⟨v1, T1⟩
    have b := b1 _ _ hN
    exact Or.inr ⟨by rw [hG _ _ _ _ _ _ hN (num_b b) (num_b b), J166_10]; exact b, b2⟩
theorem cl_a : ∀ k, k < 34 → (k = 6 ∨ k = 33) → sLn.getD (34 + tcN k) 0 = 0 := by decide +kernel
theorem cl_b : ∀ k, k < 34 → (k = 0 ∨ k = 1 ∨ k = 5) → sLn.getD (34 + tcN k) 0 = 1 ∧ (sBy.getD (34 + tcN k) []).getD 0 0 = 110 := by decide +kernel
theorem cl_c : ∀ k, k < 34 → (k = 2 ∨ k = 3 ∨ k = 4) → sLn.getD (34 + tcN k) 0 = 1 ∧ (sBy.getD (34 + tcN k) []).getD 0 0 = 107 := by decide +kernel
theorem cl_d1 : ∀ k, k < 34 → 7 ≤ k → k ≤ 32 → (sBy.getD (34 + tcN k) []).getD 0 0 = 111 := by decide +kernel
theorem cl_d2 : ∀ k, k < 34 → 7 ≤ k → k ≤ 32 → (k ≠ 15 ∧ k ≠ 16 ∧ k ≠ 17 ∧ k ≠ 18) → sLn.getD (34 + tcN k) 0 = 1 := by decide +kernel
theorem cl_d {k : Nat} (hk : k < 34) (h7 : 7 ≤ k) (h3 : k ≤ 32) (h : k ≠ 15 ∧ k ≠ 16 ∧ k ≠ 17 ∧ k ≠ 18) : (sBy.getD (34 + tcN k) []).getD 0 0 = 111 ∧ nI k ≠ 15 ∧ nI k ≠ 16 ∧ nI k ≠ 17 ∧ nI k ≠ 18 ∧ sLn.getD (34 + tcN k) 0 = 1 :=
  ⟨cl_d1 k hk h7 h3, fun z => h.1 (nI_inj31 (b := 15) (by omega) (by decide) z), fun z => h.2.1 (nI_inj31 (b := 16) (by omega) (by decide) z), fun z => h.2.2.1 (nI_inj31 (b := 17) (by omega) (by decide) z), fun z => h.2.2.2 (nI_inj31 (b := 18) (by omega) (by decide) z), cl_d2 k hk h7 h3 h⟩
theorem cls9 : ∀ k, k < 34 → ((k = 6 ∨ k = 33) ∧ sLn.getD (34 + tcN k) 0 = 0) ∨ ((k = 0 ∨ k = 1 ∨ k = 5) ∧ sLn.getD (34 + tcN k) 0 = 1 ∧ (sBy.getD (34 + tcN k) []).getD 0 0 = 110) ∨ ((k = 2 ∨ k = 3 ∨ k = 4) ∧ sLn.getD (34 + tcN k) 0 = 1 ∧ (sBy.getD (34 + tcN k) []).getD 0 0 = 107) ∨
    ((7 ≤ k ∧ k ≤ 32) ∧ (sBy.getD (34 + tcN k) []).getD 0 0 = 111 ∧ ((nI k ≠ 15 ∧ nI k ≠ 16 ∧ nI k ≠ 17 ∧ nI k ≠ 18 ∧ sLn.getD (34 + tcN k) 0 = 1) ∨ (k = 15 ∧ sLn.getD (34 + tcN k) 0 = 2 ∧ (sBy.getD (34 + tcN k) []).getD 1 0 = 110) ∨ (k = 16 ∧ sLn.getD (34 + tcN k) 0 = 3 ∧ (sBy.getD (34 + tcN k) []).getD 1 0 = 110 ∧ (sBy.getD (34 + tcN k) []).getD 2 0 = 110) ∨ (k = 17 ∧ sLn.getD (34 + tcN k) 0 = 2 ∧ (sBy.getD (34 + tcN k) []).getD 1 0 = 112) ∨ (k = 18 ∧ sLn.getD (34 + tcN k) 0 = 2 ∧ (sBy.getD (34 + tcN k) []).getD 1 0 = 112))) := by
  intro k hk
  rcases (show (k = 6 ∨ k = 33) ∨ (k = 0 ∨ k = 1 ∨ k = 5) ∨ (k = 2 ∨ k = 3 ∨ k = 4) ∨ (7 ≤ k ∧ k ≤ 32 ∧ k ≠ 15 ∧ k ≠ 16 ∧ k ≠ 17 ∧ k ≠ 18) ∨ k = 15 ∨ k = 16 ∨ k = 17 ∨ k = 18 by omega) with z | z | z | ⟨z1, z2, z3⟩ | rfl | rfl | rfl | rfl
  · exact Or.inl ⟨z, cl_a k hk z⟩
  · exact Or.inr (Or.inl ⟨z, cl_b k hk z⟩)
  · exact Or.inr (Or.inr (Or.inl ⟨z, cl_c k hk z⟩))
  · exact Or.inr (Or.inr (Or.inr ⟨⟨z1, z2⟩, (cl_d hk z1 z2 z3).1, Or.inl (cl_d hk z1 z2 z3).2⟩))
  · exact Or.inr (Or.inr (Or.inr ⟨by decide, by decide, Or.inr (Or.inl (by decide))⟩))
  · exact Or.inr (Or.inr (Or.inr ⟨by decide, by decide, Or.inr (Or.inr (Or.inl (by decide)))⟩))
  · exact Or.inr (Or.inr (Or.inr ⟨by decide, by decide, Or.inr (Or.inr (Or.inr (Or.inl (by decide))))⟩))
  · exact Or.inr (Or.inr (Or.inr ⟨by decide, by decide, Or.inr (Or.inr (Or.inr (Or.inr (by decide))))⟩))
theorem n_no : ∀ k, k < 15 ∨ k = 33 → nI k ≠ 15 ∧ nI k ≠ 16 ∧ nI k ≠ 17 ∧ nI k ≠ 18 := by
  have h : ∀ k, k < 34 → (k < 15 ∨ k = 33) → nI k ≠ 15 ∧ nI k ≠ 16 ∧ nI k ≠ 17 ∧ nI k ≠ 18 := by decide +kernel
  intro k z
  exact h k (by omega) z
theorem t_nums (hs : St ad T X p) (h6 : gI T 6 = i) (hi9 : 0 ≤ i ∧ i < 60) (hk : k < 34) (c0 : xA X (ad 10 0) (4 * i) = toC (nI k)) : LnR ad T i X (FC_X10_readInstruction_L90 (ad 9 0) (4 * i) (tcN k) (sLn.getD (34 + tcN k) 0 + 1) (nI 0) X) (GT (nI k) T) := by
  have hu := tcN_lt k hk
  have rO : rngOk 111 0 23 := fun _ _ _ _ => rgO
  have rK : rngOk 107 0 59 := fun _ _ _ _ => rgK
  have rP : rngOk 112 1 1000000000 := fun _ _ _ b => rgP b
  have rN : rngOk 110 (-1000000000) 1000000000 := fun _ _ a b => rgN a b
  rcases cls9 k hk with ⟨z, n⟩ | ⟨z, n, c⟩ | ⟨z, n, c⟩ | ⟨z, c, y⟩
  · exact nums0 hs h6 hi9 hk c0 n z ((GT_0 z).trans (J110_z (n_no k (by omega))))
  · exact nums1 (m := 1000000000) hs h6 hi9 hk hu c0 n c rN (n_no k (by omega)) (fun v T1 e => by rw [GT_1 z, e]; exact J110_z (n_no k (by omega))) (by rw [n])
  · exact nums1 (m := 1000000000) hs h6 hi9 hk hu c0 n c rK (n_no k (by omega)) (fun v T1 e => by rw [GT_2 z, e]; exact J110_z (n_no k (by omega))) (by rw [n])
  · have g := GT_3 (k := k) (T := T) (by omega)
    rcases y with ⟨y1, y2, y3, y4, n⟩ | ⟨e, n, c2⟩ | ⟨e, n, c2, c3⟩ | ⟨e, n, c2⟩ | ⟨e, n, c2⟩
    · exact nums1 (m := 1000000000) hs h6 hi9 hk hu c0 n c rO ⟨y1, y2, y3, y4⟩ (fun v T1 e => by rw [g, e]; exact J110_z ⟨y1, y2, y3, y4⟩) (by rw [n])
    · subst e
      refine nums2 (m := 1000000000) hs h6 hi9 hk hu c0 n c rO c2 rN (by decide) (fun v T1 v2 T2 e f => ?_) (by rw [n])
      rw [g, e, show nI 15 = 15 by decide, J110_15]
      dsimp only
      rw [f]
    · subst e
      refine nums3 (m := 1000000000) hs h6 hi9 hk hu c0 n c rO c2 c3 rN (fun v T1 v2 T2 v3 T3 e f f3 => ?_) (by rw [n])
      rw [g, e, show nI 16 = 16 by decide, J110_16]
      dsimp only
      rw [f]
      dsimp only
      rw [f3]
    · subst e
      refine nums2 (m := 1000000000) hs h6 hi9 hk hu c0 n c rO c2 rP (by decide) (fun v T1 v2 T2 e f => ?_) (by rw [n])
      rw [g, e, show nI 17 = 17 by decide, J110_17]
      dsimp only
      rw [f]
    · subst e
      refine nums2 (m := 1000000000) hs h6 hi9 hk hu c0 n c rO c2 rP (by decide) (fun v T1 v2 T2 e f => ?_) (by rw [n])
      rw [g, e, show nI 18 = 18 by decide, J110_18]
      dsimp only
      rw [f]
end NS

/-! both side by side: small moves -/
def Sim (ad : adT) (B : Int32) (S : mS) (X : xS) : Prop := mInv S ∧ jIn S B (-1) ∧ Rel ad (-1) S X
theorem mS_ext {S T : mS} (h1 : ∀ k, gI S k = gI T k) (h2 : ∀ k, gJ S k = gJ T k) (h3 : ∀ k i, gA S k i = gA T k i) (h4 : ∀ k i, gL S k i = gL T k i) : S = T := by
  obtain ⟨s1, s2, s3, s4⟩ := S
  obtain ⟨t1, t2, t3, t4⟩ := T
  have e1 : s1 = t1 := funext fun k => h1 k
  have e2 : s2 = t2 := funext fun k => h2 k
  have e3 : s3 = t3 := funext fun k => funext fun i => h3 k i
  have e4 : s4 = t4 := funext fun k => funext fun i => h4 k i
  rw [e1, e2, e3, e4]
theorem sA_self {S : mS} {k : Nat} {i v : Int32} (h : gA S k i = v) : sA S k i v = S := by
  refine mS_ext (fun _ => rfl) (fun _ => rfl) (fun l j => ?_) (fun _ _ => rfl)
  rw [gA_sA]
  by_cases q : l = k
  · subst q
    rw [if_pos rfl]
    by_cases r : j = i
    · subst r; rw [if_pos rfl]; exact h.symm
    · rw [if_neg r]
  · rw [if_neg q]
theorem sA_comm {S : mS} {k l : Nat} {i j v w : Int32} (h : k ≠ l ∨ i ≠ j) : sA (sA S k i v) l j w = sA (sA S l j w) k i v := by
  refine mS_ext (fun _ => rfl) (fun _ => rfl) (fun m q => ?_) (fun _ _ => rfl)
  simp only [gA_sA]
  grind
theorem sA_sA {S : mS} {k : Nat} {i v w : Int32} : sA (sA S k i v) k i w = sA S k i w := by
  refine mS_ext (fun _ => rfl) (fun _ => rfl) (fun m q => ?_) (fun _ _ => rfl)
  simp only [gA_sA]
  grind
theorem mInv_irr {S : mS} {k : Nat} {i v : Int32} (h : mInv S) (hk : ¬ smK k) : mInv (sA S k i v) :=
  mInv_sm h (iT_of h (fun _ => rfl)) (fun l j hl => by
    have q : l ≠ k := fun z => hk (by rw [← z]; exact hl)
    rw [gA_sA, if_neg q])
theorem j_irr {S : mS} {k : Nat} {i v B e : Int32} (h : jIn S B e) (hk : ¬ jK k) : jIn (sA S k i v) B e :=
  j_sm h (fun l j hl => by
    have q : l ≠ k := fun z => hk (by rw [← z]; exact hl)
    rw [gA_sA, if_neg q])
/-- t stands at k then, behind the last one it is ENDED -/
def gs (S : mS) (t k : Int32) : mS := sA (sA S 15 t k) 13 t (if gA S 12 t ≤ k then 4 else 1)
theorem J273_e {S : mS} {t k : Int32} (h : gA S 13 t = 1) : G_one_J273 t k S = gs S t k := by
  rw [G_one_J273, gLt, gs]
  have e : gA (sA S 15 t k) 12 t = gA S 12 t := by simp [gA_sA]
  rw [e]
  by_cases c : k < gA S 12 t
  · rw [if_pos c, if_neg (by grind)]
    exact (sA_self (by simp [gA_sA, h])).symm
  · rw [if_neg c, if_pos (by grind), gLt]
theorem goesOn_e {S : mS} {t : Int32} : G_goesOn S t = sA (sA (sA S 16 t (-1)) 15 t (gA S 15 t + 1)) 13 t (if gA S 12 t ≤ gA S 15 t + 1 then 4 else 1) := by
  rw [G_goesOn]
  simp only [gLt]
  have e1 : gA (sA (sA S 16 t (-1)) 15 t (gA (sA S 16 t (-1)) 15 t + 1)) 15 t = gA S 15 t + 1 := by simp [gA_sA]
  have e2 : gA (sA (sA S 16 t (-1)) 15 t (gA (sA S 16 t (-1)) 15 t + 1)) 12 t = gA S 12 t := by simp [gA_sA]
  have e3 : gA (sA S 16 t (-1)) 15 t = gA S 15 t := by simp [gA_sA]
  rw [e1, e2, e3]
  by_cases c : gA S 15 t + 1 < gA S 12 t
  · rw [if_pos c, if_neg (by grind)]
  · rw [if_neg c, if_pos (by grind)]
theorem goesOn_gs {S : mS} {t : Int32} : G_goesOn S t = gs (sA S 16 t (-1)) t (gA S 15 t + 1) := by
  rw [goesOn_e, gs]
  have e : gA (sA S 16 t (-1)) 12 t = gA S 12 t := by simp [gA_sA]
  rw [e]
theorem gs_o {S : mS} {t k : Int32} {l : Nat} {i : Int32} (h : l ≠ 13) (h2 : l ≠ 15) : gA (gs S t k) l i = gA S l i := by simp [gs, gA_sA, h, h2]
theorem gs_u {S : mS} {t k : Int32} {l : Nat} {i : Int32} (h : i ≠ t) : gA (gs S t k) l i = gA S l i := by simp [gs, gA_sA, h]
theorem gs_13 {S : mS} {t k : Int32} : gA (gs S t k) 13 t = 4 ∨ gA (gs S t k) 13 t = 1 := by
  simp only [gs, gA_sA, if_true]; split
  · exact Or.inl rfl
  · exact Or.inr rfl
theorem gs_13n {S : mS} {t k : Int32} : gA (gs S t k) 13 t = if gA S 12 t ≤ k then 4 else 1 := by simp [gs, gA_sA]
theorem gs_15 {S : mS} {t k : Int32} : gA (gs S t k) 15 t = k := by simp [gs, gA_sA]
theorem gs_inv {S : mS} {t k : Int32} (h : mInv S) (ht : 0 ≤ t ∧ t < 8) (hn : nR S t) (h21 : gA S 21 t = 0) (h12 : gA S 12 t ≤ 60) (hk : 0 ≤ k) : mInv (gs S t k) ∧ ∀ u, nR S u → nR (gs S t k) u := by
  refine th_inv h ht hn h21 (fun _ => rfl) (fun l i _ a1 a2 _ => gs_o a1 a2) (fun l u _ hu => gs_u hu) ?_ ?_
  · rw [gs_13n, gs_15]; intro a1 a2; split at a2
    · exact absurd a2 (by decide)
    · exact ⟨hk, by clear h hn; grind, h12⟩
  · rw [gs_13n]; intro a1; split at a1
    · exact absurd a1 (by decide)
    · exact absurd a1 (by decide)
theorem gs_j {S : mS} {B t k : Int32} (h : jIn S B (-1)) (ht : 0 ≤ t ∧ t < 8) (hn : nR S t) (h13 : gA S 13 t = 1 ∨ gA S 13 t = 2 ∨ gA S 13 t = 3) : jIn (gs S t k) B (-1) := by
  refine j_thr h hn (fun l i hl => gs_o (by omega) (by omega)) (fun l u _ hu => gs_u hu) ?_
  have w17 : gA S 17 t = 0 := by
    have z := (h.2.1 t ht.1 ht.2).2.2.1
    by_cases q : gA S 17 t = 0
    · exact q
    · have := z q; rw [this] at h13; exact absurd h13 (by decide)
  have e17 : gA (gs S t k) 17 t = 0 := by rw [gs_o (by decide) (by decide)]; exact w17
  refine ⟨?_, ?_, ?_, fun z => absurd e17 z⟩
  · rcases gs_13 (S := S) (t := t) (k := k) with y | y <;> rw [y] <;> decide
  · rcases gs_13 (S := S) (t := t) (k := k) with y | y <;> rw [y] <;> decide
  · rcases gs_13 (S := S) (t := t) (k := k) with y | y <;> rw [y] <;> decide
theorem goTo_e {X : xS} {a : Nat} {k : Int32} : FC_X8_goTo X a k = xwI (xwI X a 3 k) a 1 (if xI X a 12 ≤ k then 4 else 1) := by
  rw [FC_X8_goTo]
  simp only [gLt]
  have e : xI (xwI X a 3 k) a 12 = xI X a 12 := by simp [xI_I]
  rw [e]
  by_cases c : xI X a 12 ≤ k
  · rw [if_pos c, if_pos c]
  · rw [if_neg c, if_neg c]
theorem goOn_n {X : xS} {a : Nat} (h : xR X a 8 = none) : FC_X8_goOn X a = FC_X8_goTo (xwR (xwR X a 8 none) a 7 none) a (xI X a 3 + 1) := by
  rw [FC_X8_goOn, h]; simp only [gO, gLt, xI_R]
theorem goOn_s {X : xS} {a p : Nat} (h : xR X a 8 = some p) : FC_X8_goOn X a = FC_X8_goTo (xwR (xwR (FC_X6_remove X p a) a 8 none) a 7 none) a (xI (FC_X6_remove X p a) a 3 + 1) := by
  rw [FC_X8_goOn, h]; simp only [gO, gLt, xI_R]
theorem R_gs {ad : adT} {e : Int32} {S : mS} {X : xS} {t k : Int32} (h : Rel ad e S X) (ht : 0 ≤ t ∧ t < 8) : Rel ad e (gs S t k) (FC_X8_goTo X (ad 0 t) k) := by
  have z : xI X (ad 0 t) 12 = gA S 12 t := (h.2.2.2.1 t ht.1 ht.2).2.2.2.2.2.2.2.2.2.2.2
  rw [goTo_e, gs, z]
  exact Rel_13 (Rel_15 h)
theorem R_go {ad : adT} {S : mS} {X : xS} {t : Int32} (h : Rel ad (-1) S X) (ht : 0 ≤ t ∧ t < 8) (hn : nR S t) (h21 : gA S 21 t = 0) : Rel ad (-1) (gs S t (gA S 15 t + 1)) (FC_X8_goOn X (ad 0 t)) := by
  have z : xI X (ad 0 t) 3 = gA S 15 t := (h.2.2.2.1 t ht.1 ht.2).2.2.2.1
  have y : xR X (ad 0 t) 8 = none := (h.2.2.2.2.2.2.1 t (by grind) ht.1 ht.2 hn h21).2
  rw [goOn_n y, z]
  exact R_gs (Rel_null (Rel_wk h) ht hn h21) ht
theorem R_lg {ad : adT} {S : mS} {X : xS} {b t : Int32} (h : Rel ad (-1) S X) (hm : mInv S) (hb : 0 ≤ b ∧ b < 24) (hk : gA S 28 b ≠ 0) (hi : inR S b t) : Rel ad (-1) (G_goesOn (G_leaves S b t) t) (FC_X8_goOn X (ad 0 t)) := by
  obtain ⟨ht, t21, t13⟩ := in_row hb hm hi
  have hp := p_lv (t := t) hb hm
  obtain ⟨g1, g2, g3, g4, g5, g6, g7, g8, g9, g10, g11⟩ := lvP_f (by decide) hp
  have y : xR X (ad 0 t) 8 = some (ad 3 b) := by
    obtain ⟨i, i0, i1, i2⟩ := hi
    have := (h.2.2.2.2.2.1 b i hb.1 hb.2 i0 i1).2
    rw [i2] at this; exact this
  have r := Rel_rm1 h hm hb hk hi
  have z : xI (FC_X6_remove X (ad 3 b) (ad 0 t)) (ad 0 t) 3 = gA (G_leaves S b t) 15 t := (r.2.2.2.1 t ht.1 ht.2).2.2.2.1
  rw [goOn_s y, z, goesOn_gs]
  have x21 : gA (G_leaves S b t) 21 t = 0 := (g3 21 t (by decide) (by decide)).trans t21
  exact R_gs (Rel_16 (Rel_null r ht ((lv_inv hb hm hp).2.2 hi) x21) x21) ht
/-- one of a row, that is not after a wait, leaves it and goes on -/
theorem s_lg {ad : adT} {B : Int32} {S : mS} {X : xS} {b t : Int32} (h : Sim ad B S X) (hb : 0 ≤ b ∧ b < 24) (hi : inR S b t) (h22 : gA S 22 t = 0) : Sim ad B (G_goesOn (G_leaves S b t) t) (FC_X8_goOn X (ad 0 t)) := by
  obtain ⟨hm, hJ, hR⟩ := h
  have hk : gA S 28 b ≠ 0 := by
    obtain ⟨i, i0, i1, i2⟩ := hi
    exact (hJ.1 b hb.1 hb.2).2.2.1 (by clear hm hJ hR; grind)
  have hp := p_lv (t := t) hb hm
  exact ⟨(lg_inv hb hm hi hp goesOn_e).1.1, j_lg hb hm hJ hi h22 hp goesOn_e, R_lg hR hm hb hk hi⟩
theorem fre_at {S : mS} {t : Int32} (h : mInv S) (hf : fre S t) : 0 ≤ gA S 15 t ∧ gA S 15 t < gA S 12 t ∧ gA S 12 t ≤ 60 := at_of h hf.1 (Or.inl hf.2.1)
/-- one in no row goes on -/
theorem s_go {ad : adT} {B : Int32} {S : mS} {X : xS} {t : Int32} (h : Sim ad B S X) (hf : fre S t) : Sim ad B (gs S t (gA S 15 t + 1)) (FC_X8_goOn X (ad 0 t)) := by
  obtain ⟨hm, hJ, hR⟩ := h
  have a := fre_at hm hf
  exact ⟨(gs_inv hm hf.1 hf.2.2.2 hf.2.2.1 a.2.2 (by clear hm hJ hR hf; grind)).1, gs_j hJ hf.1 hf.2.2.2 (Or.inl hf.2.1), R_go hR hf.1 hf.2.2.2 hf.2.2.1⟩
theorem s_to {ad : adT} {B : Int32} {S : mS} {X : xS} {t k : Int32} (h : Sim ad B S X) (hf : fre S t) (hk : 0 ≤ k) : Sim ad B (gs S t k) (FC_X8_goTo X (ad 0 t) k) := by
  obtain ⟨hm, hJ, hR⟩ := h
  have a := fre_at hm hf
  exact ⟨(gs_inv hm hf.1 hf.2.2.2 hf.2.2.1 a.2.2 hk).1, gs_j hJ hf.1 hf.2.2.2 (Or.inl hf.2.1), R_gs hR hf.1⟩
theorem s_14 {ad : adT} {B : Int32} {S : mS} {X : xS} {t v : Int32} (h : Sim ad B S X) : Sim ad B (sA S 14 t v) (xwI X (ad 0 t) 2 v) :=
  ⟨mInv_irr h.1 (by simp [smK]), j_irr h.2.1 (by simp [jK]), Rel_14 h.2.2⟩
theorem s_20 {ad : adT} {B : Int32} {S : mS} {X : xS} {t v : Int32} (h : Sim ad B S X) : Sim ad B (sA S 20 t v) (xwI X (ad 0 t) 5 v) :=
  ⟨mInv_irr h.1 (by simp [smK]), j_irr h.2.1 (by simp [jK]), Rel_20 h.2.2⟩
theorem fre_14 {S : mS} {t u v : Int32} (hf : fre S t) : fre (sA S 14 u v) t := by
  obtain ⟨h1, h2, h3, h4⟩ := hf
  exact ⟨h1, by simpa [gA_sA] using h2, by simpa [gA_sA] using h3, by simpa [nR, gA_sA] using h4⟩
theorem fre_20 {S : mS} {t u v : Int32} (hf : fre S t) : fre (sA S 20 u v) t := by
  obtain ⟨h1, h2, h3, h4⟩ := hf
  exact ⟨h1, by simpa [gA_sA] using h2, by simpa [gA_sA] using h3, by simpa [nR, gA_sA] using h4⟩
/-- goOnWith -/
theorem s_gow {ad : adT} {B : Int32} {S : mS} {X : xS} {t v : Int32} (h : Sim ad B S X) (hf : fre S t) : Sim ad B (gs (sA S 14 t v) t (gA S 15 t + 1)) (FC_X8_goOnWith X (ad 0 t) v) := by
  have e : FC_X8_goOnWith X (ad 0 t) v = FC_X8_goOn (xwI X (ad 0 t) 2 v) (ad 0 t) := by rw [FC_X8_goOnWith, gLt, gLt]
  have z := s_go (s_14 (t := t) (v := v) h) (fre_14 hf)
  have e2 : gA (sA S 14 t v) 15 t = gA S 15 t := by simp [gA_sA]
  rw [e2] at z
  rw [e]; exact z

/-! both side by side: waiting, having a LOCK, freeing it, signalled -/
theorem gC_p {α β γ : Type} {a : α} {b : β} {F : α → β → γ} : gC (a, b) F = F a b := rfl
theorem gO_0 {β : Type} {n : β} {s : Nat → β} : gO none n s = n := rfl
theorem gO_1 {β : Type} {n : β} {s : Nat → β} {y : Nat} : gO (some y) n s = s y := rfl
theorem gLt_x {α β : Type} {v : α} {F : α → β} : gLt v F = F v := rfl
theorem waitFor_e {S : mS} {t b : Int32} : G_waitFor S t b = sA (sA (sA (sA S 13 t 2) 16 t b) 32 (8 * b + gA S 33 b) t) 33 b (gA S 33 b + 1) := by
  rw [G_waitFor]; simp only [gLt]; simp [gA_sA]
theorem waitFor_c {S : mS} {t b : Int32} : G_waitFor S t b = sA (sA (sA (sA S 32 (8 * b + gA S 33 b) t) 33 b (gA S 33 b + 1)) 16 t b) 13 t 2 := by
  rw [waitFor_e]
  refine mS_ext (fun _ => rfl) (fun _ => rfl) (fun m q => ?_) (fun _ _ => rfl)
  simp only [gA_sA]
  grind
theorem standIn_e {X : xS} {a p o : Nat} : FC_X8_standIn X a p o = xwI (xwR (xwR (FC_X6_add X p a) a 8 (some p)) a 7 (some o)) a 1 2 := by rw [FC_X8_standIn]; simp only [gLt]
theorem R_wF {ad : adT} {S : mS} {X : xS} {b t : Int32} (h : Rel ad t S X) (hm : mInv S) (hb : 0 ≤ b ∧ b < 24) (ht : 0 ≤ t ∧ t < 8) (hk : gA S 28 b ≠ 0) (hn : nR S t) (h21 : gA S 21 t = 0) : Rel ad (-1) (G_waitFor S t b) (FC_X8_standIn X (ad 0 t) (ad 3 b) (ad 2 b)) := by
  rw [standIn_e, waitFor_c]
  exact Rel_13 (Rel_16 (Rel_add1 h hm hb ht hk hn h21) (by simpa [gA_sA] using h21))
theorem s_wF {ad : adT} {B : Int32} {S : mS} {X : xS} {b t : Int32} (hm : mInv S) (hJ : jIn S B t) (hR : Rel ad t S X) (hb : 0 ≤ b ∧ b < 24) (ht : 0 ≤ t ∧ t < 8) (hn : nR S t) (h21 : gA S 21 t = 0) (hat : 0 ≤ gA S 15 t ∧ gA S 15 t < gA S 12 t ∧ gA S 12 t ≤ 60)
    (hk : gA S 28 b ≠ 0) (s3 : gA S 28 b = 3 → gA S 29 b ≠ 0) (s4 : gA S 28 b = 4 → gA S 33 b + 1 < gA S 29 b) (sm : jMb (gA S 28 b) (gA S 37 b) (gA S 29 b) (opM S t)) (s22 : gA S 22 t ≠ 0 → gA S 28 b = 1) (s17 : gA S 17 t = 0) : Sim ad B (G_waitFor S t b) (FC_X8_standIn X (ad 0 t) (ad 3 b) (ad 2 b)) :=
  ⟨(wF_inv hb ht hm hn h21 hat waitFor_e).1, j_wF hb ht hm hJ hn h21 hk s3 s4 sm s22 s17 waitFor_e, R_wF hR hm hb ht hk hn h21⟩
theorem n22 {S : mS} {B t : Int32} (hJ : jIn S B (-1)) (ht : 0 ≤ t ∧ t < 8) (hn : nR S t) (h21 : gA S 21 t = 0) : gA S 22 t = 0 := by
  by_cases q : gA S 22 t = 0
  · exact q
  · obtain ⟨b, b0, b1, bk, i, i0, i1, i2⟩ := hJ.2.2.2.1 t (by grind) ht.1 ht.2 q h21
    exact absurd i2 (hn b i b0 b1 i0 i1)
theorem n17 {S : mS} {B e t : Int32} (hJ : jIn S B e) (ht : 0 ≤ t ∧ t < 8) (h13 : gA S 13 t = 1 ∨ gA S 13 t = 2 ∨ gA S 13 t = 3) : gA S 17 t = 0 := by
  by_cases q : gA S 17 t = 0
  · exact q
  · have := (hJ.2.1 t ht.1 ht.2).2.2.1 q; rw [this] at h13; exact absurd h13 (by decide)
/-- how a step of t ends: it waits, or stands at k -/
def fin (t k : Int32) (p : Int32 × mS) : mS := if p.1 = 0 then p.2 else G_one_J273 t k p.2
theorem fin_0 {t k : Int32} {S : mS} : fin t k (0, S) = S := by rw [fin, if_pos rfl]
theorem fin_1 {t k : Int32} {S : mS} (h : gA S 13 t = 1) : fin t k (1, S) = gs S t k := by rw [fin, if_neg (show ¬ ((1 : Int32) = 0) by decide)]; exact J273_e h
theorem passes_e {S : mS} {t b : Int32} : G_passes S t b = if gA S 20 t = 0 then (0, G_waitFor S t b) else (1, sA (sA S 20 t 0) 14 t (-2)) := by
  rw [G_passes]; simp only [gLt, nar0]
theorem holdUp_e {X : xS} {o a : Nat} : FC_X9_holdUp X o a = if xI X a 5 = 0 then FC_X8_standIn X a ((xR X o 2).getD 0) o else FC_X8_goOn (xwI (xwI X a 5 0) a 2 (-2)) a := by
  rw [FC_X9_holdUp, FC_X8_refusesToWait]; simp only [gLt, gC]
  by_cases c : xI X a 5 = 0
  · simp [c]
  · simp [c]
theorem ob2 {ad : adT} {e : Int32} {S : mS} {X : xS} {b : Int32} (h : Rel ad e S X) (hb : 0 ≤ b ∧ b < 24) (hk : gA S 28 b ≠ 0) : xR X (ad 2 b) 2 = some (ad 3 b) := ((h.2.2.2.2.2.2.2.2.1 b hb.1 hb.2).2 hk).2.2.2.2.1
theorem s_pass {ad : adT} {B : Int32} {S : mS} {X : xS} {b t : Int32} (h : Sim ad B S X) (hf : fre S t) (hb : 0 ≤ b ∧ b < 24)
    (hk : gA S 28 b ≠ 0) (s3 : gA S 28 b = 3 → gA S 29 b ≠ 0) (s4 : gA S 28 b = 4 → gA S 33 b + 1 < gA S 29 b) (sm : jMb (gA S 28 b) (gA S 37 b) (gA S 29 b) (opM S t)) : Sim ad B (fin t (gA S 15 t + 1) (G_passes S t b)) (FC_X9_holdUp X (ad 2 b) (ad 0 t)) := by
  have h20 : xI X (ad 0 t) 5 = gA S 20 t := (h.2.2.2.2.2.1 t hf.1.1 hf.1.2).2.2.2.2.2.1
  rw [passes_e, holdUp_e, h20, ob2 h.2.2 hb hk, Option.getD_some]
  by_cases c : gA S 20 t = 0
  · rw [if_pos c, if_pos c, fin_0]
    have z := n22 h.2.1 hf.1 hf.2.2.2 hf.2.2.1
    exact s_wF h.1 (j_wk h.2.1) (Rel_wk h.2.2) hb hf.1 hf.2.2.2 hf.2.2.1 (fre_at h.1 hf) hk s3 s4 sm (fun y => absurd z y) (n17 h.2.1 hf.1 (Or.inl hf.2.1))
  · rw [if_neg c, if_neg c]
    have hf2 : fre (sA (sA S 20 t 0) 14 t (-2)) t := fre_14 (fre_20 hf)
    rw [fin_1 hf2.2.1]
    have z := s_go (s_14 (t := t) (v := -2) (s_20 (t := t) (v := 0) h)) hf2
    have e2 : gA (sA (sA S 20 t 0) 14 t (-2)) 15 t = gA S 15 t := by simp [gA_sA]
    rw [e2] at z
    exact z
/-- before one of the row, that has the LOCK b then, leaves it -/
def hs (S : mS) (b t : Int32) : mS := if gA S 22 t = 0 then sA (sA (sA S 31 b t) 29 b 1) 22 t 0 else sA (sA (sA (sA S 31 b t) 29 b (gA S 18 t)) 14 t (gA S 19 t)) 22 t 0
theorem has_e {S : mS} {b t : Int32} : G_has S b t = G_goesOn (G_leaves (hs S b t) b t) t := by
  have e1 : gA (sA S 31 b t) 22 t = gA S 22 t := by simp [gA_sA]
  have e3 : gA (sA S 31 b t) 18 t = gA S 18 t := by simp [gA_sA]
  have e4 : ∀ v, gA (sA (sA S 31 b t) 29 b v) 22 t = gA S 22 t := fun v => by simp [gA_sA]
  have e5 : ∀ v, gA (sA (sA S 31 b t) 29 b v) 19 t = gA S 19 t := fun v => by simp [gA_sA]
  by_cases c : gA S 22 t = 0
  · rw [G_has, gLt, e1, if_pos c, gLt, e4, if_pos c, gLt, nar0, G_has_J60, gLt, gLt, hs, if_pos c]
  · rw [G_has, gLt, e1, if_neg c, gLt, e3, e4, if_neg c, gLt, gLt, nar0, G_has_J60, gLt, gLt, e5, hs, if_neg c]
theorem hs_o {S : mS} {b t : Int32} {k : Nat} {i : Int32} (h1 : k ≠ 14) (h2 : k ≠ 22) (h3 : k ≠ 29) (h4 : k ≠ 31) : gA (hs S b t) k i = gA S k i := by
  unfold hs; split <;> simp [gA_sA, h1, h2, h3, h4]
theorem hs_22 {S : mS} {b t : Int32} : gA (hs S b t) 22 t = 0 := by unfold hs; split <;> simp [gA_sA]
theorem hs_stp {S : mS} {b t : Int32} (hm : mInv S) (hb : 0 ≤ b ∧ b < 24) (hk : gA S 28 b = 1) (ht : 0 ≤ t ∧ t < 8) (h21 : gA S 21 t = 0) : mInv (hs S b t) := by
  have st : ∀ v, mInv (sA (sA S 31 b t) 29 b v) := fun v => by
    refine (stp_ow (S9 := sA (sA S 31 b t) 29 b v) (b := b) hm (fun _ => rfl) ?_ (fun z => absurd (hk.symm.trans z) (by decide)) ?_ ?_).1
    · simp [gA_sA]; clear hm; grind
    · intro k q _ a1 a2 _; simp [gA_sA, a1, a2]
    · intro k d _ hd; simp [gA_sA, hd]
  unfold hs
  split
  · refine (aw_inv (S9 := sA (sA (sA S 31 b t) 29 b 1) 22 t 0) (t := t) (y := 0) (st 1) (by simpa [gA_sA] using h21) (fun _ => rfl) (fun k i _ hk => by simp [gA_sA, hk]) (fun u hu => by simp [gA_sA, hu])).1
  · refine (aw_inv (S9 := sA (sA (sA (sA S 31 b t) 29 b (gA S 18 t)) 14 t (gA S 19 t)) 22 t 0) (t := t) (y := 0) (mInv_irr (k := 14) (i := t) (v := gA S 19 t) (st (gA S 18 t)) (by simp [smK])) (by simpa [gA_sA] using h21) (fun _ => rfl) (fun k i _ hk => by simp [gA_sA, hk]) (fun u hu => by simp [gA_sA, hu])).1
theorem hs_j {S : mS} {B b t : Int32} (hJ : jIn S B (-1)) (hB : 1 ≤ B) (hb : 0 ≤ b ∧ b < 24) (hk : gA S 28 b = 1) (ht : 0 ≤ t ∧ t < 8) : jIn (hs S b t) B (-1) := by
  have st : ∀ v, 1 ≤ v → v ≤ B → jIn (sA (sA S 31 b t) 29 b v) B (-1) := fun v v1 v2 => by
    refine j_obj (b := b) hJ (fun k i hk => ?_) (fun k d hk hd => ?_) ?_ (fun z => absurd (hk.symm.trans z) (by decide))
    · have a1 : k ≠ 31 := by omega
      have a2 : k ≠ 29 := by omega
      simp [gA_sA, a1, a2]
    · simp [gA_sA, hd]
    · have z := hJ.1 b hb.1 hb.2
      have e1 : gA (sA (sA S 31 b t) 29 b v) 29 b = v := by simp [gA_sA]
      have e2 : gA (sA (sA S 31 b t) 29 b v) 30 b = gA S 30 b := by simp [gA_sA]
      have e3 : gA (sA (sA S 31 b t) 29 b v) 31 b = t := by simp [gA_sA]
      rw [e1, e2, e3, hk]
      rw [hk] at z
      unfold jOb at z ⊢
      clear hJ e1 e2 e3
      grind
  unfold hs
  split
  · exact j_22 (st 1 (by decide) hB)
  · rename_i c
    have z := (hJ.2.1 t ht.1 ht.2).2.2.2 c
    exact j_22 (j_irr (st (gA S 18 t) z.1 z.2) (by simp [jK]))
def hX (X : xS) (o a : Nat) : xS := if xI X a 9 ≤ 0 then xwI (xwI X o 3 (xI X a 0)) o 5 1 else xwI (xwI (xwI (xwI (xwI X o 3 (xI X a 0)) o 5 1) o 5 (xI X a 9)) a 2 (xI X a 10)) a 9 0
theorem have_e {X : xS} {o a : Nat} (h : a ≠ o) : FC_X4_have X o a = FC_X8_goOn (hX X o a) a := by
  rw [FC_X4_have]
  simp only [gLt]
  have e1 : xI (xwI (xwI X o 3 (xI X a 0)) o 5 1) a 9 = xI X a 9 := by simp [xI_I, h]
  have e2 : xI (xwI (xwI (xwI X o 3 (xI X a 0)) o 5 1) o 5 (xI X a 9)) a 10 = xI X a 10 := by simp [xI_I, h]
  rw [e1, e2, hX]
  by_cases c : xI X a 9 ≤ 0
  · rw [if_pos c, if_pos c]
  · rw [if_neg c, if_neg c]
theorem ad02 {ad : adT} (hj : inj ad) {t b : Int32} : ad 0 t ≠ ad 2 b := fun z => absurd (hj _ _ _ _ z).1 (by decide)
theorem R_hs {ad : adT} {S : mS} {X : xS} {b t : Int32} (h : Rel ad (-1) S X) (hk : gA S 28 b = 1) (ht : 0 ≤ t ∧ t < 8) (h21 : gA S 21 t = 0) (h18 : gA S 22 t ≠ 0 → 1 ≤ gA S 18 t) : Rel ad (-1) (hs S b t) (hX X (ad 2 b) (ad 0 t)) := by
  obtain ⟨z0, -, -, -, -, -, -, z9, z9b, z10, -⟩ := h.2.2.2.1 t ht.1 ht.2
  unfold hs hX
  rw [z0]
  by_cases c : gA S 22 t = 0
  · rw [if_pos c, z9 c, if_pos (by decide)]
    exact Rel_22n (Rel_lf (Rel_lo h hk) (by simpa [gA_sA] using hk)) (by simpa [gA_sA] using c)
  · rw [if_neg c, z9b c, if_neg (by have := h18 c; clear h z9 z9b z10; grind), z10 c h21]
    have r := Rel_lf (v := gA S 18 t) (Rel_lf (v := 1) (Rel_lo (v := t) h hk) (by simpa [gA_sA] using hk)) (by simpa [gA_sA] using hk)
    rw [sA_sA] at r
    exact Rel_22 (Rel_14 r)
theorem s_has {ad : adT} {B : Int32} {S : mS} {X : xS} {b t : Int32} (h : Sim ad B S X) (hB : 1 ≤ B) (hb : 0 ≤ b ∧ b < 24) (hk : gA S 28 b = 1) (hi : inR S b t) : Sim ad B (G_has S b t) (FC_X4_have X (ad 2 b) (ad 0 t)) := by
  obtain ⟨hm, hJ, hR⟩ := h
  obtain ⟨ht, t21, t13⟩ := in_row hb hm hi
  rw [has_e, have_e (ad02 hR.1)]
  have hi9 : inR (hs S b t) b t := by unfold inR; simp only [hs_o (show (33 : Nat) ≠ 14 by decide) (show (33 : Nat) ≠ 22 by decide) (show (33 : Nat) ≠ 29 by decide) (show (33 : Nat) ≠ 31 by decide), hs_o (show (32 : Nat) ≠ 14 by decide) (show (32 : Nat) ≠ 22 by decide) (show (32 : Nat) ≠ 29 by decide) (show (32 : Nat) ≠ 31 by decide)]; exact hi
  exact s_lg ⟨hs_stp hm hb hk ht t21, hs_j hJ hB hb hk ht, R_hs hR hk ht t21 (fun c => ((hJ.2.1 t ht.1 ht.2).2.2.2 c).1)⟩ hb hi9 hs_22
theorem first_e {X : xS} {p : Nat} : FC_X6_first X p = (if xI X p 0 ≤ 0 then none else xQ X ((xR X p 1).getD 0) 0, X) := by
  rw [FC_X6_first]; simp only [gLt]
  by_cases c : xI X p 0 ≤ 0
  · rw [if_pos c, if_pos c]
  · rw [if_neg c, if_neg c]
    cases xQ X ((xR X p 1).getD 0) 0 <;> rfl
/-- the first of the row of b -/
theorem R_first {ad : adT} {e : Int32} {S : mS} {X : xS} {b : Int32} (h : Rel ad e S X) (hb : 0 ≤ b ∧ b < 24) (hk : gA S 28 b ≠ 0) : FC_X6_first X (ad 3 b) = (if gA S 33 b ≤ 0 then none else some (ad 0 (gA S 32 (8 * b))), X) := by
  obtain ⟨z1, z2⟩ := h.2.2.2.2.2.2.2.2.2.1 b hb.1 hb.2 hk
  have z3 : xR X (ad 3 b) 1 = some (ad 4 b) := ((h.2.2.2.2.2.2.2.2.1 b hb.1 hb.2).2 hk).2.2.2.2.2.1
  rw [first_e, z1, z3, Option.getD_some]
  by_cases c : gA S 33 b ≤ 0
  · rw [if_pos c, if_pos c]
  · rw [if_neg c, if_neg c]
    have := z2 0 (by decide) (by clear z1 z2 z3 h; grind)
    rw [this, show 8 * b + 0 = 8 * b by grind]
theorem R_first2 {ad : adT} {e : Int32} {S : mS} {X : xS} {b : Int32} (h : Rel ad e S X) (hb : 0 ≤ b ∧ b < 24) (hk : gA S 28 b = 1) : FC_X6_first X (ad 5 b) = (if gA S 35 b ≤ 0 then none else some (ad 0 (gA S 34 (8 * b))), X) := by
  obtain ⟨z1, z2⟩ := h.2.2.2.2.2.2.2.2.2.2.1 b hb.1 hb.2 hk
  have z3 : xR X (ad 5 b) 1 = some (ad 6 b) := (((h.2.2.2.2.2.2.2.2.1 b hb.1 hb.2).2 (by rw [hk]; decide)).2.2.2.2.2.2.1 hk).2.2.2.2
  rw [first_e, z1, z3, Option.getD_some]
  by_cases c : gA S 35 b ≤ 0
  · rw [if_pos c, if_pos c]
  · rw [if_neg c, if_neg c]
    have := z2 0 (by decide) (by clear z1 z2 z3 h; grind)
    rw [this, show 8 * b + 0 = 8 * b by grind]
theorem freed_e {S : mS} {b : Int32} : G_freed S b = if gA S 33 b = 0 then sA (sA S 31 b (-1)) 29 b 0 else if gA S 30 b = 1 then G_has (sA (sA S 31 b (-1)) 29 b 0) b (gA S 32 (8 * b)) else sA (sA (sA (sA S 31 b (-1)) 29 b 0) 13 (gA S 32 (8 * b)) 1) 16 (gA S 32 (8 * b)) (-1) := by
  rw [G_freed]; simp only [gLt]
  have e1 : gA (sA (sA S 31 b (-1)) 29 b 0) 33 b = gA S 33 b := by simp [gA_sA]
  have e2 : gA (sA (sA S 31 b (-1)) 29 b 0) 30 b = gA S 30 b := by simp [gA_sA]
  have e3 : gA (sA (sA S 31 b (-1)) 29 b 0) 32 (8 * b) = gA S 32 (8 * b) := by simp [gA_sA]
  rw [e1, e2, e3]
theorem inR0 {S : mS} {b : Int32} (h : ¬ gA S 33 b ≤ 0) : inR S b (gA S 32 (8 * b)) := ⟨0, by decide, by grind, by rw [show 8 * b + 0 = 8 * b by grind]⟩
/-- b is freed; its COUNT is given up before -/
theorem s_freed {ad : adT} {B : Int32} {S : mS} {X : xS} {b v : Int32} (hm : mInv S) (hJ : jIn S B (-1)) (hR : Rel ad (-1) (sA S 29 b v) X) (hB : 1 ≤ B) (hb : 0 ≤ b ∧ b < 24) (hk : gA S 28 b = 1) : Sim ad B (G_freed S b) (FC_X4_free X (ad 2 b)) := by
  have e0 : sA (sA (sA S 29 b v) 31 b (-1)) 29 b 0 = sA (sA S 31 b (-1)) 29 b 0 := by rw [sA_comm (k := 29) (l := 31) (Or.inl (by decide)), sA_sA]
  have k1 : gA (sA S 29 b v) 28 b = 1 := by simpa [gA_sA] using hk
  have k2 : gA (sA (sA S 29 b v) 31 b (-1)) 28 b = 1 := by simpa [gA_sA] using hk
  have r := Rel_lf (v := 0) (Rel_lo (v := -1) hR k1) k2
  rw [e0] at r
  have k3 : gA (sA (sA S 31 b (-1)) 29 b 0) 28 b = 1 := by simpa [gA_sA] using hk
  have m2 : mInv (sA (sA S 31 b (-1)) 29 b 0) := by
    refine (stp_ow (S9 := sA (sA S 31 b (-1)) 29 b 0) (b := b) hm (fun _ => rfl) ?_ (fun z => absurd (hk.symm.trans z) (by decide)) ?_ ?_).1
    · simp [gA_sA]; try decide
    · intro k q _ a1 a2 _; simp [gA_sA, a1, a2]
    · intro k d _ hd; simp [gA_sA, hd]
  have j2 : jIn (sA (sA S 31 b (-1)) 29 b 0) B (-1) := by
    refine j_obj (b := b) hJ (fun k i hk => ?_) (fun k d hk hd => ?_) ?_ (fun z => absurd (hk.symm.trans z) (by decide))
    · have a1 : k ≠ 31 := by omega
      have a2 : k ≠ 29 := by omega
      simp [gA_sA, a1, a2]
    · simp [gA_sA, hd]
    · have z := hJ.1 b hb.1 hb.2
      have e1 : gA (sA (sA S 31 b (-1)) 29 b 0) 29 b = 0 := by simp [gA_sA]
      have e2 : gA (sA (sA S 31 b (-1)) 29 b 0) 30 b = gA S 30 b := by simp [gA_sA]
      have e3 : gA (sA (sA S 31 b (-1)) 29 b 0) 31 b = -1 := by simp [gA_sA]
      rw [e1, e2, e3, hk]
      rw [hk] at z
      unfold jOb at z ⊢
      clear hJ e1 e2 e3 hm hR m2 r
      grind
  have s2 : Sim ad B (sA (sA S 31 b (-1)) 29 b 0) (xwI (xwI X (ad 2 b) 3 (-1)) (ad 2 b) 5 0) := ⟨m2, j2, r⟩
  have a1 : gA (sA (sA S 31 b (-1)) 29 b 0) 33 b = gA S 33 b := by simp [gA_sA]
  have a2 : gA (sA (sA S 31 b (-1)) 29 b 0) 32 (8 * b) = gA S 32 (8 * b) := by simp [gA_sA]
  have a3 : gA (sA (sA S 31 b (-1)) 29 b 0) 30 b = gA S 30 b := by simp [gA_sA]
  have x4 : xI (xwI (xwI X (ad 2 b) 3 (-1)) (ad 2 b) 5 0) (ad 2 b) 4 = gA S 30 b := by
    have := (((r.2.2.2.2.2.2.2.2.1 b hb.1 hb.2).2 (by rw [k3]; decide)).2.2.2.2.2.2.1 k3).2.1
    rw [this, a3]
  rw [freed_e, FC_X4_free]
  rw [gLt_x, gLt_x, gLt_x, gLt_x, ob2 r hb (by rw [k3]; decide), Option.getD_some, R_first r hb (by rw [k3]; decide), a1, a2, gC_p]
  have l8 := pre_lv hb hm
  by_cases c : gA S 33 b ≤ 0
  · rw [if_pos c, if_pos (by clear hm hJ hR m2 j2 s2 r; grind), gO_0]
    exact s2
  · rw [if_neg c, if_neg (by clear hm hJ hR m2 j2 s2 r; grind)]
    rw [gO_1, gLt_x, x4]
    have hi : inR (sA (sA S 31 b (-1)) 29 b 0) b (gA S 32 (8 * b)) := by rw [← a2]; exact inR0 (by rw [a1]; exact c)
    obtain ⟨ht, t21, t13⟩ := in_row hb m2 hi
    have z := (hJ.1 b hb.1 hb.2)
    rw [hk] at z
    by_cases d : gA S 30 b = 1
    · rw [if_pos d, if_neg (by rw [d]; decide), gLt_x]
      exact s_has s2 hB hb k3 hi
    · rw [if_neg d, if_pos (by unfold jOb at z; clear hm hJ hR m2 j2 s2 r; grind), gLt_x]
      refine ⟨?_, j_st m2 j2 t13 (Or.inl ⟨rfl, t21⟩) rfl, ?_⟩
      · obtain ⟨i, i0, i1, i2⟩ := hi
        exact st1_inv hb m2 ⟨i0, i1⟩ i2 k3 rfl
      · exact Rel_16 (Rel_13 r) (by simpa [gA_sA] using t21)
theorem come_e {X : xS} {o a : Nat} {v : Int32} : FC_X4_comeToFirst X o a v = FC_X8_standIn (xwI (FC_X6_remove X ((xR X o 6).getD 0) a) a 10 v) a ((xR (xwI (FC_X6_remove X ((xR X o 6).getD 0) a) a 10 v) o 2).getD 0) o := by
  rw [FC_X4_comeToFirst]; simp only [gLt]
/-- t comes from the second row of b to the first -/
theorem s_sg {ad : adT} {B : Int32} {S : mS} {X : xS} {b t v : Int32} (hm : mInv S) (hJ : jIn S B t) (hR : Rel ad (-1) S X) (hb : 0 ≤ b ∧ b < 24) (hk : gA S 28 b = 1) (ht : 0 ≤ t ∧ t < 8) (h21 : gA S 21 t ≠ 0) (h16 : gA S 16 t = b) (h19 : gA S 19 t = v) :
    Sim ad B (G_waitFor (sA (lv2 S b t) 21 t 0) t b) (FC_X4_comeToFirst X (ad 2 b) (ad 0 t) v) := by
  have hp := p_l2 (t := t) hb hm
  obtain ⟨g1, g2, g3, g4, g5, g6, g7, g8, g9, g10, g11⟩ := lvP_f (by decide) hp
  have z6 : xR X (ad 2 b) 6 = some (ad 5 b) := (((hR.2.2.2.2.2.2.2.2.1 b hb.1 hb.2).2 (by rw [hk]; decide)).2.2.2.2.2.2.1 hk).2.2.2.1
  have r1 := Rel_rm2 (t := t) hR hm hb hk
  have r2 := Rel_ans (v := v) r1 (Or.inl (by rw [g3 21 t (by decide) (by decide)]; exact h21))
  have r3 := Rel_21 (Rel_wk (e := t) r2) (fun _ => by simp [xI_I, g3 19 t (by decide) (by decide), h19])
  obtain ⟨m1, m2, m3⟩ := s2_inv hb ht hm h21 h16 hp rfl
  have st2 : gA S 13 t = 2 := ((hm.2.1 t ht.1 ht.2).2.2 h21).1
  have o : ∀ k i, k ≠ 21 → k ≠ 34 → k ≠ 35 → gA (sA (lv2 S b t) 21 t 0) k i = gA S k i := fun k i a1 a2 a3 => by simp only [gA_sA, a1, if_false]; exact g3 k i a2 a3
  have k9 : gA (sA (lv2 S b t) 21 t 0) 28 b = 1 := by rw [o 28 b (by decide) (by decide) (by decide)]; exact hk
  rw [come_e, z6, Option.getD_some, ob2 r3 hb (by rw [k9]; decide), Option.getD_some]
  refine s_wF m1 (j_s2 hJ hp rfl) r3 hb ht m3 (by simp [gA_sA]) ?_ (by rw [k9]; decide) ?_ ?_ ?_ (fun _ => k9) ?_
  · rw [o 15 t (by decide) (by decide) (by decide), o 12 t (by decide) (by decide) (by decide)]
    exact at_of hm ht (Or.inr (Or.inl st2))
  · intro z; rw [k9] at z; exact absurd z (by decide)
  · intro z; rw [k9] at z; exact absurd z (by decide)
  · rw [k9]; exact ⟨fun z => absurd z (by decide), fun z => absurd z (by decide), fun z => absurd z (by decide)⟩
  · rw [o 17 t (by decide) (by decide) (by decide)]; exact n17 hJ ht (Or.inr (Or.inl st2))

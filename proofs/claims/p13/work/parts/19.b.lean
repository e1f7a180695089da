def onP (S S1 : mS) (t : Int32) : Prop := mInv S1 ∧ fre S1 t ∧ gI S1 2 = gI S 2
theorem one_0 {S S1 S2 : mS} {t : Int32} {x : Int64} (ht : 0 ≤ t ∧ t < 8) (h : mInv S) (e1 : S1 = sI S 26 t) (e2 : S2 = sJ S1 25 x) : mInv S2 ∧ gI S2 2 = gI S 2 ∧ (∀ k i, gA S2 k i = gA S k i) := by
  have g2 : gI S2 2 = gI S 2 := by rw [e2, e1]; rfl
  have gA2 : ∀ k i, gA S2 k i = gA S k i := fun k i => by rw [e2, e1]; rfl
  refine ⟨mInv_sm h ?_ (fun k i _ => gA2 k i), g2, gA2⟩
  unfold iT; rw [g2]
  have g26 : gI S2 26 = t := by rw [e2, e1]; rfl
  rw [g26]; exact ⟨h.1.1, h.1.2.1, ht⟩
theorem n21 {S : mS} {t : Int32} (h : mInv S) (ht : 0 ≤ t ∧ t < 8) (h13 : gA S 13 t ≠ 2) : gA S 21 t = 0 := by
  rcases Classical.em (gA S 21 t = 0) with q | q
  · exact q
  · exact absurd ((h.2.1 t ht.1 ht.2).2.2 q).1 h13
theorem one_f {S : mS} {t : Int32} (h : mInv S) (ht : 0 ≤ t ∧ t < 8) (h13 : gA S 13 t = 1) (hr : ∀ b i, 0 ≤ b → b < 24 → gA S 28 b = 1 → 0 ≤ i → i < gA S 33 b → gA S 32 (8 * b + i) ≠ t) : fre S t := by
  refine ⟨ht, h13, n21 h ht (by rw [h13]; decide), fun b i b0 b1 i0 i1 q => ?_⟩
  have m := h.2.2.2.2.1 b i b0 b1 i0 i1
  rw [q] at m
  rcases m.2.2.2 with z | z
  · rw [h13] at z; exact absurd z.1 (by decide)
  · exact hr b i b0 b1 z.2 i0 i1 q
/-- one that stands in the row of b waits there again -/
theorem one_w {S S1 S9 : mS} {b t : Int32} (hb : 0 ≤ b ∧ b < 24) (h : mInv S) (hi : ∃ i, 0 ≤ i ∧ i < gA S 33 b ∧ gA S 32 (8 * b + i) = t) (e1 : S1 = sA S 13 t 2) (e : S9 = sA S1 16 t b) : mInv S9 ∧ gI S9 2 = gI S 2 := by
  subst e1
  obtain ⟨⟨t0, t1⟩, t21, t13⟩ := in_row hb h hi
  obtain ⟨i, i0, i1, et⟩ := hi
  have hat := at_of h ⟨t0, t1⟩ t13
  obtain ⟨h1, h2, h3, h4, h5, h6, h7, h8⟩ := h
  have e13 : ∀ u, u ≠ t → gA S9 13 u = gA S 13 u := fun u hu => by rw [e]; simp [gA_sA, hu]
  have e16 : ∀ u, u ≠ t → gA S9 16 u = gA S 16 u := fun u hu => by rw [e]; simp [gA_sA, hu]
  have e13t : gA S9 13 t = 2 := by rw [e]; simp [gA_sA]
  have e16t : gA S9 16 t = b := by rw [e]; simp [gA_sA]
  have eo : ∀ k q, k ≠ 13 → k ≠ 16 → gA S9 k q = gA S k q := fun k q a1 a2 => by rw [e]; simp [gA_sA, a1, a2]
  have eI : ∀ k, gI S9 k = gI S k := fun k => by rw [e]; rfl
  clear e
  refine ⟨⟨?_, ?_, ?_, ?_, ?_, ?_, ?_, ?_⟩, eI 2⟩
  · unfold iT; rw [eI, eI]; exact h1
  · intro u u0 u1
    rw [eo 12 u (by decide) (by decide), eo 15 u (by decide) (by decide), eo 21 u (by decide) (by decide)]
    by_cases hu : u = t
    · subst hu
      exact ⟨fun _ _ => hat, fun _ => by rw [e16t]; exact hb, fun q => absurd t21 q⟩
    · rw [e13 u hu, e16 u hu]
      obtain ⟨a1, a2, a3⟩ := h2 u u0 u1
      refine ⟨a1, a2, fun q => ?_⟩
      obtain ⟨a4, j, a5, a6, a7⟩ := a3 q
      exact ⟨a4, j, a5, by rw [eo 35 _ (by decide) (by decide)]; exact a6, by rw [eo 34 _ (by decide) (by decide)]; exact a7⟩
  · intro u k; rw [eo 11 _ (by decide) (by decide), eo 11 _ (by decide) (by decide), eo 12 _ (by decide) (by decide)]; exact h3 u k
  · intro d; rw [eo 28 _ (by decide) (by decide), eo 29 _ (by decide) (by decide), eo 31 _ (by decide) (by decide), eo 33 _ (by decide) (by decide), eo 35 _ (by decide) (by decide), eo 37 _ (by decide) (by decide)]; exact h4 d
  · intro d j d0 d1 j0 j1
    rw [eo 33 _ (by decide) (by decide)] at j1
    rw [eo 32 _ (by decide) (by decide)]
    have m2 := h5 d j d0 d1 j0 j1
    by_cases hu : gA S 32 (8 * d + j) = t
    · have c := h6 d j b i d0 d1 j0 j1 hb.1 hb.2 i0 i1 (hu.trans et.symm)
      rw [hu]
      exact ⟨t0, t1, by rw [eo 21 _ (by decide) (by decide)]; exact t21, Or.inl ⟨e13t, by rw [e16t, c.1]⟩⟩
    · unfold mem1 at m2 ⊢
      rw [e13 _ hu, e16 _ hu, eo 21 _ (by decide) (by decide), eo 28 _ (by decide) (by decide)]
      exact m2
  · intro d j f q; rw [eo 33 _ (by decide) (by decide), eo 33 _ (by decide) (by decide), eo 32 _ (by decide) (by decide), eo 32 _ (by decide) (by decide)]; exact h6 d j f q
  · intro d j; rw [eo 35 _ (by decide) (by decide), eo 34 _ (by decide) (by decide)]
    intro d0 d1 j0 j1
    have m2 := h7 d j d0 d1 j0 j1
    have hu : gA S 34 (8 * d + j) ≠ t := fun q => by unfold mem2 at m2; rw [q] at m2; exact m2.2.2.2.2.1 t21
    unfold mem2 at m2 ⊢
    rw [e13 _ hu, e16 _ hu, eo 21 _ (by decide) (by decide), eo 22 _ (by decide) (by decide), eo 28 _ (by decide) (by decide)]
    exact m2
  · intro d d0 d1 x y; rw [eo 35 _ (by decide) (by decide), eo 34 _ (by decide) (by decide), eo 34 _ (by decide) (by decide)]; exact h8 d d0 d1 x y
theorem on_irr {S S1 S2 : mS} {t : Int32} {k : Nat} {i x : Int32} (h : onP S S1 t) (e : S2 = sA S1 k i x) (hk : ¬ smK k) : onP S S2 t := by
  have s := st_irr (stp_rf h.1) e hk
  exact ⟨s.1, fre_stp h.2.1 s, (s.2.1 2).trans h.2.2⟩
theorem on_pas {S S1 S2 : mS} {t r : Int32} (h : onP S S1 t) (hp : pas S1 S2 t r) (hr : ¬ r = 0) : onP S S2 t := by
  rcases hp.2.2.2 with q | q
  · exact ⟨hp.1, q.2.1, (hp.2.1 2).trans h.2.2⟩
  · exact absurd q hr
/-- state and place of the stepping one are set -/
theorem on_set {S S1 S2 : mS} {t : Int32} (h : onP S S1 t) (hI : ∀ k, gI S2 k = gI S1 k) (fo : ∀ k i, smK k → k ≠ 13 → k ≠ 15 → gA S2 k i = gA S1 k i) (ft : ∀ k u, k = 13 ∨ k = 15 → u ≠ t → gA S2 k u = gA S1 k u)
    (q1 : 1 ≤ gA S2 13 t → gA S2 13 t ≤ 3 → 0 ≤ gA S2 15 t ∧ gA S2 15 t < gA S1 12 t) (q2 : gA S2 13 t ≠ 2) : mInv S2 ∧ gI S2 2 = gI S 2 := by
  obtain ⟨h1, ⟨f1, f2, f3, f4⟩, h3⟩ := h
  have hat := at_of h1 f1 (Or.inl f2)
  have r := th_inv h1 f1 f4 f3 hI (fun k i a b c _ => fo k i a b c) (fun k u hk hu => by rcases hk with rfl | rfl | rfl; exact ft 13 u (by simp) hu; exact ft 15 u (by simp) hu; exact fo 16 u (by simp [smK]) (by decide) (by decide)) (fun a b => ⟨(q1 a b).1, (q1 a b).2, hat.2.2⟩) (fun q => absurd q q2)
  exact ⟨r.1, (hI 2).trans h3⟩
theorem on_nx {S S1 S2 : mS} {t x : Int32} (h : onP S S1 t) (h0 : 0 ≤ x) (e : S2 = sA S1 15 t x) (hc : x < gA S2 12 t) : mInv S2 ∧ gI S2 2 = gI S 2 := by
  have e13 : gA S2 13 t = 1 := by rw [e]; simp only [gA_sA, if_neg (show ¬ (13 = 15) by decide)]; exact h.2.1.2.1
  have e12 : gA S2 12 t = gA S1 12 t := by rw [e]; simp [gA_sA]
  refine on_set h (fun k => by rw [e]; rfl) (fun k i _ _ k15 => by rw [e, gA_sA, if_neg k15]) (fun k u _ hu => by rw [e]; simp [gA_sA, hu]) (fun _ _ => ?_) (by rw [e13]; decide)
  have e15 : gA S2 15 t = x := by rw [e]; simp [gA_sA]
  rw [e15, ← e12]; exact ⟨h0, hc⟩
theorem on_end {S S1 S2 S3 : mS} {t x : Int32} (h : onP S S1 t) (e : S2 = sA S1 15 t x) (e2 : S3 = sA S2 13 t 4) : mInv S3 ∧ gI S3 2 = gI S 2 := by
  have e13 : gA S3 13 t = 4 := by rw [e2]; simp [gA_sA]
  exact on_set h (fun k => by rw [e2, e]; rfl) (fun k i _ k13 k15 => by rw [e2, e]; simp [gA_sA, k13, k15]) (fun k u _ hu => by rw [e2, e]; simp [gA_sA, hu]) (fun _ q => by rw [e13] at q; exact absurd q (by decide)) (by rw [e13]; decide)
theorem on_st {S S1 S2 : mS} {t v : Int32} (h : onP S S1 t) (e : S2 = sA S1 13 t v) (hv : v = 3 ∨ v = 4) : mInv S2 ∧ gI S2 2 = gI S 2 := by
  have e13 : gA S2 13 t = v := by rw [e]; simp [gA_sA]
  have hat := at_of h.1 h.2.1.1 (Or.inl h.2.1.2.1)
  exact on_set h (fun k => by rw [e]; rfl) (fun k i _ k13 _ => by rw [e]; simp [gA_sA, k13]) (fun k u _ hu => by rw [e]; simp [gA_sA, hu]) (fun _ q => by rw [show gA S2 15 t = gA S1 15 t by rw [e]; simp [gA_sA]]; exact ⟨hat.1, hat.2.1⟩) (by rw [e13]; rcases hv with rfl | rfl <;> decide)
theorem on_L {S S1 S2 : mS} {k : Nat} {i : Int32} {x : Int64} (h : mInv S1 ∧ gI S1 2 = gI S 2) (e : S2 = sL S1 k i x) : mInv S2 ∧ gI S2 2 = gI S 2 :=
  ⟨mInv_sm h.1 (iT_of h.1 (fun j => by rw [e]; rfl)) (fun j q _ => by rw [e]; rfl), by rw [e]; exact h.2⟩
theorem on_jmp {S : mS} {t op x : Int32} (h : mInv S) (hf : fre S t) (e1 : op = gA S 11 (240 * t + 4 * gA S 15 t + 0)) (e2 : x = gA S 11 (240 * t + 4 * gA S 15 t + 1)) (ho : 2 ≤ op ∧ op ≤ 4) : 0 ≤ x := by
  have hat := at_of h hf.1 (Or.inl hf.2.1)
  rw [Int32.add_zero] at e1
  rw [e2]
  exact h.2.2.1 t (gA S 15 t) hf.1.1 hf.1.2 hat.1 (by clear e1 e2 h hf; grind) hat.2.1 (by rw [← e1]; exact ho.1) (by rw [← e1]; exact ho.2)
theorem on_at {S S1 : mS} {t : Int32} (h : onP S S1 t) : 0 ≤ gA S1 15 t ∧ gA S1 15 t < 60 := by
  have hat := at_of h.1 h.2.1.1 (Or.inl h.2.1.2.1)
  clear h; grind
theorem a_at {x y : Int32} (h : 0 ≤ x ∧ x < 60) (e : y = x + 1) : 0 ≤ y := by grind

def G_one_J273 (t : Int32) (j273_5 : Int32) (SJ273 : mS) : mS := gLt (sA SJ273 15 t (j273_5) : mS) (fun S1 => if (j273_5 : Int32) < (gA S1 12 t) then (S1) else (gLt (sA S1 13 t (4) : mS) (fun S3 => S3)))
def G_one_J198 (t : Int32) (j198_4 : Int32) (j198_5 : Int32) (SJ198 : mS) : mS := if (j198_4 : Int32) ≤ 0 then (G_one_J273 t j198_5 SJ198) else (gLt (sA SJ198 20 t (vp_nar .boolean 0) : mS) (fun S5 => gLt (sA S5 14 t ((-2)) : mS) (fun S6 => G_one_J273 t j198_5 S6)))
def G_one_J150 (t : Int32) (j150_4 : Int32) (SJ150 : mS) : mS := G_one_J273 t j150_4 SJ150
def G_one (S : mS) (t : Int32) : mS := gLt (sI S 26 t : mS) (fun S7 => gLt (sJ S7 25 ((gJ S7 25) + 1) : mS) (fun S8 => gLt (G_rowOf S8 t : Int32) (fun r10 => if (r10 : Int32) < 0 then (gLt (G_part S8 t 0 : Int32) (fun r14 => gLt (G_part S8 t 1 : Int32) (fun r17 => gLt (((gA S8 15 t) + 1) : Int32) (fun x19 => if (r14 : Int32) = 0 then (gLt (sA S8 14 t (r17) : mS) (fun S86 => G_one_J273 t x19 S86)) else (if (r14 : Int32) = 1 then (gLt (sA S8 14 t (((gA S8 14 t) + r17)) : mS) (fun S85 => G_one_J273 t x19 S85)) else (if (r14 : Int32) = 2 then (G_one_J150 t r17 S8) else (if (r14 : Int32) = 3 then (if ((gA S8 14 t) : Int32) = 0 then (G_one_J150 t r17 S8) else (if (r14 : Int32) = 4 then (if 0 ≤ ((gA S8 14 t) : Int32) then (if (r14 : Int32) = 5 then (if (r17 : Int32) ≤ 0 then (G_one_J198 t r17 x19 S8) else (if ((gA S8 20 t) : Int32) = 0 then (gLt (sA S8 13 t (3) : mS) (fun S83 => gLt (sL S83 23 t (((gJ S83 24) + (Int32.toInt64 r17))) : mS) (fun S84 => S84))) else (G_one_J198 t r17 x19 S8))) else (if (r14 : Int32) = 6 then (gLt (sA S8 13 t (4) : mS) (fun S80 => S80)) else (if (r14 : Int32) = 33 then (gLt (sA S8 14 t ((Int64.toInt32 (gJ S8 24))) : mS) (fun S79 => G_one_J273 t x19 S79)) else (if (r14 : Int32) ≤ 6 then (G_one_J273 t x19 S8) else (gC (G_with S8 t r14 r17) (fun r76 S75 => if (r76 : Int32) = 0 then (S75) else (G_one_J273 t x19 S75))))))) else (G_one_J150 t r17 S8)) else (if (r14 : Int32) = 5 then (if (r17 : Int32) ≤ 0 then (G_one_J198 t r17 x19 S8) else (if ((gA S8 20 t) : Int32) = 0 then (gLt (sA S8 13 t (3) : mS) (fun S68 => gLt (sL S68 23 t (((gJ S68 24) + (Int32.toInt64 r17))) : mS) (fun S69 => S69))) else (G_one_J198 t r17 x19 S8))) else (if (r14 : Int32) = 6 then (gLt (sA S8 13 t (4) : mS) (fun S65 => S65)) else (if (r14 : Int32) = 33 then (gLt (sA S8 14 t ((Int64.toInt32 (gJ S8 24))) : mS) (fun S64 => G_one_J273 t x19 S64)) else (if (r14 : Int32) ≤ 6 then (G_one_J273 t x19 S8) else (gC (G_with S8 t r14 r17) (fun r61 S60 => if (r61 : Int32) = 0 then (S60) else (G_one_J273 t x19 S60))))))))) else (if (r14 : Int32) = 4 then (if 0 ≤ ((gA S8 14 t) : Int32) then (if (r14 : Int32) = 5 then (if (r17 : Int32) ≤ 0 then (G_one_J198 t r17 x19 S8) else (if ((gA S8 20 t) : Int32) = 0 then (gLt (sA S8 13 t (3) : mS) (fun S52 => gLt (sL S52 23 t (((gJ S52 24) + (Int32.toInt64 r17))) : mS) (fun S53 => S53))) else (G_one_J198 t r17 x19 S8))) else (if (r14 : Int32) = 6 then (gLt (sA S8 13 t (4) : mS) (fun S49 => S49)) else (if (r14 : Int32) = 33 then (gLt (sA S8 14 t ((Int64.toInt32 (gJ S8 24))) : mS) (fun S48 => G_one_J273 t x19 S48)) else (if (r14 : Int32) ≤ 6 then (G_one_J273 t x19 S8) else (gC (G_with S8 t r14 r17) (fun r45 S44 => if (r45 : Int32) = 0 then (S44) else (G_one_J273 t x19 S44))))))) else (G_one_J150 t r17 S8)) else (if (r14 : Int32) = 5 then (if (r17 : Int32) ≤ 0 then (G_one_J198 t r17 x19 S8) else (if ((gA S8 20 t) : Int32) = 0 then (gLt (sA S8 13 t (3) : mS) (fun S37 => gLt (sL S37 23 t (((gJ S37 24) + (Int32.toInt64 r17))) : mS) (fun S38 => S38))) else (G_one_J198 t r17 x19 S8))) else (if (r14 : Int32) = 6 then (gLt (sA S8 13 t (4) : mS) (fun S34 => S34)) else (if (r14 : Int32) = 33 then (gLt (sA S8 14 t ((Int64.toInt32 (gJ S8 24))) : mS) (fun S33 => G_one_J273 t x19 S33)) else (if (r14 : Int32) ≤ 6 then (G_one_J273 t x19 S8) else (gC (G_with S8 t r14 r17) (fun r30 S29 => if (r30 : Int32) = 0 then (S29) else (G_one_J273 t x19 S29))))))))))))))) else (if 0 ≤ ((gA S8 31 r10) : Int32) then (gLt (sA S8 13 t (2) : mS) (fun S88 => gLt (sA S88 16 t (r10) : mS) (fun S89 => S89))) else (gLt (G_has S8 r10 t : mS) (fun S90 => S90))))))
set_option maxHeartbeats 400000 in
set_option maxRecDepth 100000 in
theorem j_one_273 {p : Program} {e : Env} {s : State} {m : MethodId} {below : List Frame} {meth : Method} {c : Code} (l : Launch) (D : va_G) (cs : ClassId × ClassId × ClassId) (o : Nat) (ad : Nat → Nat) (A : Nat → Prop) (S : mS) (t : Int32)  (h1 : 0 ≤ t ∧ t < 8) (h2 : mInv S) (h3 : gA S 13 t = 1) (C : mC p s m ([.ref o, .int t] : List Value).toArray c cX13_one D cs) (hml : c.maxLocals = 6) (hr : meth.sig.returnType = none) (hlk : meth.locks = false) (j273_5 : Int32) (SJ273 : mS) (H : Heap) (locs : List Loc) (ls : Array Slot) (hj273 : onP S SJ273 t ∧ 0 ≤ j273_5) (hG : G_one S t = G_one_J273 t j273_5 SJ273) (V : mV D cs o ad A SJ273 H) (hS : va_S A s.heap H locs) (hl : lv_has ls 6 [(0, .ref o), (1, .int t), (5, .int j273_5)]) : W p l e ({ frames := 6, cells := 0, slots := 0, locals := 142 } : Room) s m ([.ref o, .int t] : List Value).toArray below meth c H locs 0 0 (MQ below (va_Qv (fun S9 => (mInv S9 ∧ gI S9 2 = gI S 2) ∧ S9 = G_one S t) (mB D cs o ad A) A) ([.ref o, .int t] : List Value).toArray s 0 0 A) (F0 m 273 ls []) := by
  have hx := C.1
  have hb := C.2.1
  have hown := C.2.2.1
  have hts := C.2.2.2.1
  rw [G_one_J273] at hG
  refine lv_aload_n hx hb dX13_one_273 rfl (lv_at hl 0 rfl) ?_
  refine mG15 C V dX13_one_274 ?_
  refine lv_iload_n hx hb dX13_one_277 rfl (lv_at hl 1 rfl) ?_
  refine lv_iload hx hb dX13_one_278 (lv_at hl 2 rfl) ?_
  refine mSt15 C V hS (vin (N := 8) rfl (h1.1) (h1.2)) dX13_one_280 (fun S1 H locs eS1 V hS => ?_)
  replace hG := gLt_e hG eS1
  refine lv_iload hx hb dX13_one_281 (lv_at hl 2 rfl) ?_
  refine lv_aload_n hx hb dX13_one_283 rfl (lv_at hl 0 rfl) ?_
  refine mG12 C V dX13_one_284 ?_
  refine lv_iload_n hx hb dX13_one_287 rfl (lv_at hl 1 rfl) ?_
  refine mLd12 C V (vin (N := 8) rfl (h1.1) (h1.2)) dX13_one_288 ?_
  refine lv_icmp_lt (tgt := 299) hx hb dX13_one_289 (by decide) (fun c2 => ?_) (fun c2 => ?_)
  · replace hG := gIf_p hG c2
    exact mRetV C hr hlk V hS (⟨by clear hG V hS hl C hts hown hx hb hml hr hlk; first | exact on_nx hj273.1 hj273.2 eS1 c2 | exact on_end hj273.1 eS1 nope9, hG.symm⟩) dX13_one_299
  · replace hG := gIf_n hG c2
    refine lv_aload_n hx hb dX13_one_292 rfl (lv_at hl 0 rfl) ?_
    refine mG13 C V dX13_one_293 ?_
    refine lv_iload_n hx hb dX13_one_296 rfl (lv_at hl 1 rfl) ?_
    refine lv_iconst (v := 4) hx hb dX13_one_297 (by decide) ?_
    refine mSt13 C V hS (vin (N := 8) rfl (h1.1) (h1.2)) dX13_one_298 (fun S3 H locs eS3 V hS => ?_)
    replace hG := gLt_e hG eS3
    exact mRetV C hr hlk V hS (⟨by clear hG V hS hl C hts hown hx hb hml hr hlk; first | exact on_nx hj273.1 hj273.2 eS1 c2 | exact on_end hj273.1 eS1 eS3, hG.symm⟩) dX13_one_299
set_option maxHeartbeats 400000 in
set_option maxRecDepth 100000 in
theorem j_one_198 {p : Program} {e : Env} {s : State} {m : MethodId} {below : List Frame} {meth : Method} {c : Code} (l : Launch) (D : va_G) (cs : ClassId × ClassId × ClassId) (o : Nat) (ad : Nat → Nat) (A : Nat → Prop) (S : mS) (t : Int32)  (h1 : 0 ≤ t ∧ t < 8) (h2 : mInv S) (h3 : gA S 13 t = 1) (C : mC p s m ([.ref o, .int t] : List Value).toArray c cX13_one D cs) (hml : c.maxLocals = 6) (hr : meth.sig.returnType = none) (hlk : meth.locks = false) (j198_4 : Int32) (j198_5 : Int32) (SJ198 : mS) (H : Heap) (locs : List Loc) (ls : Array Slot) (hj198 : (onP S SJ198 t ∧ 0 ≤ j198_5)) (hG : G_one S t = G_one_J198 t j198_4 j198_5 SJ198) (V : mV D cs o ad A SJ198 H) (hS : va_S A s.heap H locs) (hl : lv_has ls 6 [(0, .ref o), (1, .int t), (4, .int j198_4), (5, .int j198_5)]) : W p l e ({ frames := 6, cells := 0, slots := 0, locals := 142 } : Room) s m ([.ref o, .int t] : List Value).toArray below meth c H locs 0 0 (MQ below (va_Qv (fun S9 => (mInv S9 ∧ gI S9 2 = gI S 2) ∧ S9 = G_one S t) (mB D cs o ad A) A) ([.ref o, .int t] : List Value).toArray s 0 0 A) (F0 m 198 ls []) := by
  have hx := C.1
  have hb := C.2.1
  have hown := C.2.2.1
  have hts := C.2.2.2.1
  have hj198 := And.intro hj198 trivial
  rw [G_one_J198] at hG
  refine lv_iload hx hb dX13_one_198 (lv_at hl 2 rfl) ?_
  refine lv_if_le (tgt := 273) hx hb dX13_one_200 (by decide) (fun c4 => ?_) (fun c4 => ?_)
  · replace hG := gIf_p hG c4
    exact j_one_273 l D cs o ad A S t h1 h2 h3 C hml hr hlk j198_5 SJ198 _ _ _ (by clear hG V hS hl C hts hown hx hb hml hr hlk; first | exact ⟨on_irr on nope9 (by simp [smK]), o5⟩ | exact ⟨on_irr on nope9 (by simp [smK]), o5⟩ | exact ⟨on_irr (on_irr on nope9 (by simp [smK])) nope9 (by simp [smK]), o5⟩ | exact ⟨on_irr on nope9 (by simp [smK]), o5⟩ | exact ⟨on_pas on nope9 nope9, o5⟩ | exact ⟨on, o5⟩ | exact ⟨hj150.1, hj150.2⟩ | exact hj198.1 | exact ⟨on_irr (on_irr hj198.1.1 nope9 (by simp [smK])) nope9 (by simp [smK]), hj198.1.2⟩) hG V hS (lv_sub hl [0, 1, 3] rfl)
  · replace hG := gIf_n hG c4
    refine lv_aload_n hx hb dX13_one_203 rfl (lv_at hl 0 rfl) ?_
    refine mG20 C V dX13_one_204 ?_
    refine lv_iload_n hx hb dX13_one_207 rfl (lv_at hl 1 rfl) ?_
    refine lv_iconst (v := 0) hx hb dX13_one_208 (by decide) ?_
    refine mSt20 C V hS (vin (N := 8) rfl (h1.1) (h1.2)) dX13_one_209 (fun S5 H locs eS5 V hS => ?_)
    replace hG := gLt_e hG eS5
    refine lv_aload_n hx hb dX13_one_210 rfl (lv_at hl 0 rfl) ?_
    refine mG14 C V dX13_one_211 ?_
    refine lv_iload_n hx hb dX13_one_214 rfl (lv_at hl 1 rfl) ?_
    refine lv_bipush (v := (-2)) hx hb dX13_one_215 (by decide) ?_
    refine mSt14 C V hS (vin (N := 8) rfl (h1.1) (h1.2)) dX13_one_217 (fun S6 H locs eS6 V hS => ?_)
    replace hG := gLt_e hG eS6
    refine lv_goto (tgt := 273) hx hb dX13_one_218 (by decide) ?_
    exact j_one_273 l D cs o ad A S t h1 h2 h3 C hml hr hlk j198_5 S6 _ _ _ (by clear hG V hS hl C hts hown hx hb hml hr hlk; first | exact ⟨on_irr on nope9 (by simp [smK]), o5⟩ | exact ⟨on_irr on nope9 (by simp [smK]), o5⟩ | exact ⟨on_irr (on_irr on eS5 (by simp [smK])) eS6 (by simp [smK]), o5⟩ | exact ⟨on_irr on nope9 (by simp [smK]), o5⟩ | exact ⟨on_pas on nope9 nope9, o5⟩ | exact ⟨on, o5⟩ | exact ⟨hj150.1, hj150.2⟩ | exact hj198.1 | exact ⟨on_irr (on_irr hj198.1.1 eS5 (by simp [smK])) eS6 (by simp [smK]), hj198.1.2⟩) hG V hS (lv_sub hl [0, 1, 3] rfl)
set_option maxHeartbeats 400000 in
set_option maxRecDepth 100000 in
theorem j_one_150 {p : Program} {e : Env} {s : State} {m : MethodId} {below : List Frame} {meth : Method} {c : Code} (l : Launch) (D : va_G) (cs : ClassId × ClassId × ClassId) (o : Nat) (ad : Nat → Nat) (A : Nat → Prop) (S : mS) (t : Int32)  (h1 : 0 ≤ t ∧ t < 8) (h2 : mInv S) (h3 : gA S 13 t = 1) (C : mC p s m ([.ref o, .int t] : List Value).toArray c cX13_one D cs) (hml : c.maxLocals = 6) (hr : meth.sig.returnType = none) (hlk : meth.locks = false) (j150_4 : Int32) (SJ150 : mS) (H : Heap) (locs : List Loc) (ls : Array Slot) (hj150 : onP S SJ150 t ∧ 0 ≤ j150_4) (hG : G_one S t = G_one_J150 t j150_4 SJ150) (V : mV D cs o ad A SJ150 H) (hS : va_S A s.heap H locs) (hl : lv_has ls 6 [(0, .ref o), (1, .int t), (4, .int j150_4)]) : W p l e ({ frames := 6, cells := 0, slots := 0, locals := 142 } : Room) s m ([.ref o, .int t] : List Value).toArray below meth c H locs 0 0 (MQ below (va_Qv (fun S9 => (mInv S9 ∧ gI S9 2 = gI S 2) ∧ S9 = G_one S t) (mB D cs o ad A) A) ([.ref o, .int t] : List Value).toArray s 0 0 A) (F0 m 150 ls []) := by
  have hx := C.1
  have hb := C.2.1
  have hown := C.2.2.1
  have hts := C.2.2.2.1
  rw [G_one_J150] at hG
  refine lv_iload hx hb dX13_one_150 (lv_at hl 2 rfl) ?_
  refine lv_istore (lv' := [(5, .int j150_4), (0, .ref o), (1, .int t), (4, .int j150_4)]) hx hb dX13_one_152 hl (by decide) rfl (fun ls hl => ?_)
  refine lv_goto (tgt := 273) hx hb dX13_one_154 (by decide) ?_
  exact j_one_273 l D cs o ad A S t h1 h2 h3 C hml hr hlk j150_4 SJ150 _ _ _ (by clear hG V hS hl C hts hown hx hb hml hr hlk; first | exact ⟨on_irr on nope9 (by simp [smK]), o5⟩ | exact ⟨on_irr on nope9 (by simp [smK]), o5⟩ | exact ⟨on_irr (on_irr on nope9 (by simp [smK])) nope9 (by simp [smK]), o5⟩ | exact ⟨on_irr on nope9 (by simp [smK]), o5⟩ | exact ⟨on_pas on nope9 nope9, o5⟩ | exact ⟨on, o5⟩ | exact ⟨hj150.1, hj150.2⟩ | exact hj198.1 | exact ⟨on_irr (on_irr hj198.1.1 nope9 (by simp [smK])) nope9 (by simp [smK]), hj198.1.2⟩) hG V hS (lv_sub hl [1, 2, 0] rfl)
set_option maxHeartbeats 400000 in
set_option maxRecDepth 100000 in
theorem c_one (l : Launch) (D : va_G) (cs : ClassId × ClassId × ClassId) (o : Nat) (ad : Nat → Nat) (A : Nat → Prop) (S : mS) (t : Int32)  (h1 : 0 ≤ t ∧ t < 8) (h2 : mInv S) (h3 : gA S 13 t = 1) : Met l yX13_one (Cond.code yX13_one cX13_one 6 none :: tM) ({ frames := 6, cells := 0, slots := 0, locals := 142 }) (va_Pc [.ref o, .int t] (mB D cs o ad A S)) (va_Qv (fun S9 => (mInv S9 ∧ gI S9 2 = gI S 2) ∧ S9 = G_one S t) (mB D cs o ad A) A) 0 0 A := by
  refine mMet (by decide) rfl (Nat.le_of_ble_eq_true rfl) ?_
  intro p e s m below meth c ls C hml hr hlk V hl
  have hx := C.1
  have hb := C.2.1
  have hown := C.2.2.1
  have hts := C.2.2.2.1
  have hS : va_S A s.heap s.heap [] := va_S.rf
  have hl : lv_has ls 6 [(0, .ref o), (1, .int t)] := hl
  have hG := G_one.eq_1 S t
  refine lv_aload_n hx hb dX13_one_0 rfl (lv_at hl 0 rfl) ?_
  refine lv_iload_n hx hb dX13_one_1 rfl (lv_at hl 1 rfl) ?_
  refine mP26 C V hS dX13_one_2 (fun S7 H locs eS7 V hS => ?_)
  replace hG := gLt_e hG eS7
  refine lv_aload_n hx hb dX13_one_5 rfl (lv_at hl 0 rfl) ?_
  refine lv_dup hx hb dX13_one_6 rfl ?_
  refine mG25 C V dX13_one_7 ?_
  refine lv_lconst (v := 1) hx hb dX13_one_10 (by decide) ?_
  refine lv_ladd hx hb dX13_one_11 ?_
  refine mP25 C V hS dX13_one_12 (fun S8 H locs eS8 V hS => ?_)
  replace hG := gLt_e hG eS8
  obtain ⟨a1, a2, a3⟩ := one_0 h1 h2 eS7 eS8
  have a13 : gA S8 13 t = 1 := (a3 13 t).trans h3
  refine lv_aload_n hx hb dX13_one_15 rfl (lv_at hl 0 rfl) ?_
  refine lv_iload_n hx hb dX13_one_16 rfl (lv_at hl 1 rfl) ?_
  refine mGoQ (mRunV (As := [.int t]) (rest := []) C hml V (c_rowOf l D cs o ad A S8 t  (a1)) gM_rowOf okM_rowOf ⟨rfl, rfl, Nat.le_of_ble_eq_true rfl, Nat.le_of_ble_eq_true rfl⟩ hl.1 rfl (Nat.le_of_ble_eq_true rfl) dX13_one_17 ⟨Nat.zero_le _, Nat.zero_le _⟩) hS (fun r10 H locs hq11 V hS => ?_)
  obtain ⟨hq11, ghq11⟩ := hq11
  replace hG := gLt_e hG ghq11
  refine lv_istore_n (lv' := [(2, .int r10), (0, .ref o), (1, .int t)]) hx hb dX13_one_20 rfl hl (by decide) rfl (fun ls hl => ?_)
  refine lv_iload_n hx hb dX13_one_21 rfl (lv_at hl 0 rfl) ?_
  refine lv_if_lt (tgt := 58) hx hb dX13_one_22 (by decide) (fun c12 => ?_) (fun c12 => ?_)
  · replace hG := gIf_p hG c12
    have on : onP S S8 t := ⟨a1, one_f a1 h1 a13 (by rcases hq11 with q | q; exact q.2; exact absurd q.1 (by have z9 := c12; clear a3; grind)), a2⟩
    refine lv_aload_n hx hb dX13_one_58 rfl (lv_at hl 1 rfl) ?_
    refine lv_iload_n hx hb dX13_one_59 rfl (lv_at hl 2 rfl) ?_
    refine lv_iconst (v := 0) hx hb dX13_one_60 (by decide) ?_
    refine mGoQ (mRunV (As := [.int t, .int 0]) (rest := []) C hml V (c_part l D cs o ad A S8 t 0  (h1) (on_at on) (by clear hG V hS hl C hts hown hx hb hml hr hlk; decide)) gM_part okM_part ⟨rfl, rfl, Nat.le_of_ble_eq_true rfl, Nat.le_of_ble_eq_true rfl⟩ hl.1 rfl (Nat.le_of_ble_eq_true rfl) dX13_one_61 ⟨Nat.zero_le _, Nat.zero_le _⟩) hS (fun r14 H locs hq15 V hS => ?_)
    obtain ⟨hq15, ghq15⟩ := hq15
    replace hG := gLt_e hG ghq15
    refine lv_istore_n (lv' := [(3, .int r14), (2, .int r10), (0, .ref o), (1, .int t)]) hx hb dX13_one_64 rfl hl (by decide) rfl (fun ls hl => ?_)
    refine lv_aload_n hx hb dX13_one_65 rfl (lv_at hl 2 rfl) ?_
    refine lv_iload_n hx hb dX13_one_66 rfl (lv_at hl 3 rfl) ?_
    refine lv_iconst (v := 1) hx hb dX13_one_67 (by decide) ?_
    refine mGoQ (mRunV (As := [.int t, .int 1]) (rest := []) C hml V (c_part l D cs o ad A S8 t 1  (h1) (on_at on) (by clear hG V hS hl C hts hown hx hb hml hr hlk; decide)) gM_part okM_part ⟨rfl, rfl, Nat.le_of_ble_eq_true rfl, Nat.le_of_ble_eq_true rfl⟩ hl.1 rfl (Nat.le_of_ble_eq_true rfl) dX13_one_68 ⟨Nat.zero_le _, Nat.zero_le _⟩) hS (fun r17 H locs hq18 V hS => ?_)
    obtain ⟨hq18, ghq18⟩ := hq18
    replace hG := gLt_e hG ghq18
    refine lv_istore (lv' := [(4, .int r17), (3, .int r14), (2, .int r10), (0, .ref o), (1, .int t)]) hx hb dX13_one_71 hl (by decide) rfl (fun ls hl => ?_)
    refine lv_aload_n hx hb dX13_one_73 rfl (lv_at hl 3 rfl) ?_
    refine mG15 C V dX13_one_74 ?_
    refine lv_iload_n hx hb dX13_one_77 rfl (lv_at hl 4 rfl) ?_
    refine mLd15 C V (vin (N := 8) rfl (h1.1) (h1.2)) dX13_one_78 ?_
    refine lv_iconst (v := 1) hx hb dX13_one_79 (by decide) ?_
    refine lv_iadd hx hb dX13_one_80 ?_
    refine lv_topi (fun x19 ex19 => ?_)
    replace hG := gLt_e hG ex19
    refine lv_istore (lv' := [(5, .int x19), (4, .int r17), (3, .int r14), (2, .int r10), (0, .ref o), (1, .int t)]) hx hb dX13_one_81 hl (by decide) rfl (fun ls hl => ?_)
    have o5 : 0 ≤ x19 := a_at (on_at on) ex19
    refine lv_iload_n hx hb dX13_one_83 rfl (lv_at hl 2 rfl) ?_
    refine lv_if_ne (tgt := 98) hx hb dX13_one_84 (by decide) (fun c20 => ?_) (fun c20 => ?_)
    · replace hG := gIf_n hG c20
      refine lv_iload_n hx hb dX13_one_98 rfl (lv_at hl 2 rfl) ?_
      refine lv_iconst (v := 1) hx hb dX13_one_99 (by decide) ?_
      refine lv_icmp_ne (tgt := 117) hx hb dX13_one_100 (by decide) (fun c21 => ?_) (fun c21 => ?_)
      · replace hG := gIf_n hG c21
        refine lv_iload_n hx hb dX13_one_117 rfl (lv_at hl 2 rfl) ?_
        refine lv_iconst (v := 2) hx hb dX13_one_118 (by decide) ?_
        refine lv_icmp_eq (tgt := 150) hx hb dX13_one_119 (by decide) (fun c22 => ?_) (fun c22 => ?_)
        · replace hG := gIf_p hG c22
          exact j_one_150 l D cs o ad A S t h1 h2 h3 C hml hr hlk r17 S8 _ _ _ (⟨on, on_jmp on.1 on.2.1 hq15 hq18 (by clear hG V hS hl C hts hown hx hb hml hr hlk; first | (rw [c22]; decide) | (rw [nope9]; decide) | (rw [nope9]; decide))⟩) hG V hS (lv_sub hl [4, 5, 1] rfl)
        · replace hG := gIf_n hG c22
          refine lv_iload_n hx hb dX13_one_122 rfl (lv_at hl 2 rfl) ?_
          refine lv_iconst (v := 3) hx hb dX13_one_123 (by decide) ?_
          refine lv_icmp_ne (tgt := 136) hx hb dX13_one_124 (by decide) (fun c23 => ?_) (fun c23 => ?_)
          · replace hG := gIf_n hG c23
            refine lv_iload_n hx hb dX13_one_136 rfl (lv_at hl 2 rfl) ?_
            refine lv_iconst (v := 4) hx hb dX13_one_137 (by decide) ?_
            refine lv_icmp_ne (tgt := 157) hx hb dX13_one_138 (by decide) (fun c24 => ?_) (fun c24 => ?_)
            · replace hG := gIf_n hG c24
              refine lv_iload_n hx hb dX13_one_157 rfl (lv_at hl 2 rfl) ?_
              refine lv_iconst (v := 5) hx hb dX13_one_158 (by decide) ?_
              refine lv_icmp_ne (tgt := 221) hx hb dX13_one_159 (by decide) (fun c25 => ?_) (fun c25 => ?_)
              · replace hG := gIf_n hG c25
                refine lv_iload_n hx hb dX13_one_221 rfl (lv_at hl 2 rfl) ?_
                refine lv_bipush (v := 6) hx hb dX13_one_222 (by decide) ?_
                refine lv_icmp_ne (tgt := 235) hx hb dX13_one_224 (by decide) (fun c26 => ?_) (fun c26 => ?_)
                · replace hG := gIf_n hG c26
                  refine lv_iload_n hx hb dX13_one_235 rfl (lv_at hl 2 rfl) ?_
                  refine lv_bipush (v := 33) hx hb dX13_one_236 (by decide) ?_
                  refine lv_icmp_ne (tgt := 255) hx hb dX13_one_238 (by decide) (fun c27 => ?_) (fun c27 => ?_)
                  · replace hG := gIf_n hG c27
                    refine lv_iload_n hx hb dX13_one_255 rfl (lv_at hl 2 rfl) ?_
                    refine lv_bipush (v := 6) hx hb dX13_one_256 (by decide) ?_
                    refine lv_icmp_le (tgt := 273) hx hb dX13_one_258 (by decide) (fun c28 => ?_) (fun c28 => ?_)
                    · replace hG := gIf_p hG c28
                      exact j_one_273 l D cs o ad A S t h1 h2 h3 C hml hr hlk x19 S8 _ _ _ (by clear hG V hS hl C hts hown hx hb hml hr hlk; first | exact ⟨on_irr on nope9 (by simp [smK]), o5⟩ | exact ⟨on_irr on nope9 (by simp [smK]), o5⟩ | exact ⟨on_irr (on_irr on nope9 (by simp [smK])) nope9 (by simp [smK]), o5⟩ | exact ⟨on_irr on nope9 (by simp [smK]), o5⟩ | exact ⟨on_pas on nope9 nope9, o5⟩ | exact ⟨on, o5⟩ | exact ⟨hj150.1, hj150.2⟩ | exact hj198.1 | exact ⟨on_irr (on_irr hj198.1.1 nope9 (by simp [smK])) nope9 (by simp [smK]), hj198.1.2⟩) hG V hS (lv_sub hl [4, 5, 0] rfl)
                    · replace hG := gIf_n hG c28
                      refine lv_aload_n hx hb dX13_one_261 rfl (lv_at hl 4 rfl) ?_
                      refine lv_iload_n hx hb dX13_one_262 rfl (lv_at hl 5 rfl) ?_
                      refine lv_iload_n hx hb dX13_one_263 rfl (lv_at hl 2 rfl) ?_
                      refine lv_iload hx hb dX13_one_264 (lv_at hl 1 rfl) ?_
                      refine mGoI (mRunV (As := [.int t, .int r14, .int r17]) (rest := []) C hml V (c_with l D cs o ad A S8 t r14 r17  (on.2.1) (on.1)) gM_with okM_with ⟨rfl, rfl, Nat.le_of_ble_eq_true rfl, Nat.le_of_ble_eq_true rfl⟩ hl.1 rfl (Nat.le_of_ble_eq_true rfl) dX13_one_266 ⟨Nat.zero_le _, Nat.zero_le _⟩) hS (fun r30 S29 H locs hq31 V hS => ?_)
                      obtain ⟨hq31, ghq31⟩ := hq31
                      replace hG := gC_e hG ghq31
                      refine lv_if_ne (tgt := 273) hx hb dX13_one_269 (by decide) (fun c32 => ?_) (fun c32 => ?_)
                      · replace hG := gIf_n hG c32
                        exact j_one_273 l D cs o ad A S t h1 h2 h3 C hml hr hlk x19 S29 _ _ _ (by clear hG V hS hl C hts hown hx hb hml hr hlk; first | exact ⟨on_irr on nope9 (by simp [smK]), o5⟩ | exact ⟨on_irr on nope9 (by simp [smK]), o5⟩ | exact ⟨on_irr (on_irr on nope9 (by simp [smK])) nope9 (by simp [smK]), o5⟩ | exact ⟨on_irr on nope9 (by simp [smK]), o5⟩ | exact ⟨on_pas on hq31 c32, o5⟩ | exact ⟨on, o5⟩ | exact ⟨hj150.1, hj150.2⟩ | exact hj198.1 | exact ⟨on_irr (on_irr hj198.1.1 nope9 (by simp [smK])) nope9 (by simp [smK]), hj198.1.2⟩) hG V hS (lv_sub hl [4, 5, 0] rfl)
                      · replace hG := gIf_p hG c32
                        exact mRetV C hr hlk V hS (⟨⟨hq31.1, (hq31.2.1 2).trans on.2.2⟩, hG.symm⟩) dX13_one_272
                  · replace hG := gIf_p hG c27
                    refine lv_aload_n hx hb dX13_one_241 rfl (lv_at hl 4 rfl) ?_
                    refine mG14 C V dX13_one_242 ?_
                    refine lv_iload_n hx hb dX13_one_245 rfl (lv_at hl 5 rfl) ?_
                    refine lv_aload_n hx hb dX13_one_246 rfl (lv_at hl 4 rfl) ?_
                    refine mG24 C V dX13_one_247 ?_
                    refine lv_l2i hx hb dX13_one_250 rfl ?_
                    refine mSt14 C V hS (vin (N := 8) rfl (h1.1) (h1.2)) dX13_one_251 (fun S33 H locs eS33 V hS => ?_)
                    replace hG := gLt_e hG eS33
                    refine lv_goto (tgt := 273) hx hb dX13_one_252 (by decide) ?_
                    exact j_one_273 l D cs o ad A S t h1 h2 h3 C hml hr hlk x19 S33 _ _ _ (by clear hG V hS hl C hts hown hx hb hml hr hlk; first | exact ⟨on_irr on nope9 (by simp [smK]), o5⟩ | exact ⟨on_irr on nope9 (by simp [smK]), o5⟩ | exact ⟨on_irr (on_irr on nope9 (by simp [smK])) nope9 (by simp [smK]), o5⟩ | exact ⟨on_irr on eS33 (by simp [smK]), o5⟩ | exact ⟨on_pas on nope9 nope9, o5⟩ | exact ⟨on, o5⟩ | exact ⟨hj150.1, hj150.2⟩ | exact hj198.1 | exact ⟨on_irr (on_irr hj198.1.1 nope9 (by simp [smK])) nope9 (by simp [smK]), hj198.1.2⟩) hG V hS (lv_sub hl [4, 5, 0] rfl)
                · replace hG := gIf_p hG c26
                  refine lv_aload_n hx hb dX13_one_227 rfl (lv_at hl 4 rfl) ?_
                  refine mG13 C V dX13_one_228 ?_
                  refine lv_iload_n hx hb dX13_one_231 rfl (lv_at hl 5 rfl) ?_
                  refine lv_iconst (v := 4) hx hb dX13_one_232 (by decide) ?_
                  refine mSt13 C V hS (vin (N := 8) rfl (h1.1) (h1.2)) dX13_one_233 (fun S34 H locs eS34 V hS => ?_)
                  replace hG := gLt_e hG eS34
                  exact mRetV C hr hlk V hS (⟨on_st on eS34 (Or.inr rfl), hG.symm⟩) dX13_one_234
              · replace hG := gIf_p hG c25
                refine lv_iload hx hb dX13_one_162 (lv_at hl 1 rfl) ?_
                refine lv_if_le (tgt := 198) hx hb dX13_one_164 (by decide) (fun c35 => ?_) (fun c35 => ?_)
                · replace hG := gIf_p hG c35
                  exact j_one_198 l D cs o ad A S t h1 h2 h3 C hml hr hlk r17 x19 S8 _ _ _ (⟨on, o5⟩) hG V hS (lv_sub hl [4, 5, 1, 0] rfl)
                · replace hG := gIf_n hG c35
                  refine lv_aload_n hx hb dX13_one_167 rfl (lv_at hl 4 rfl) ?_
                  refine mG20 C V dX13_one_168 ?_
                  refine lv_iload_n hx hb dX13_one_171 rfl (lv_at hl 5 rfl) ?_
                  refine mLd20 C V (vin (N := 8) rfl (h1.1) (h1.2)) dX13_one_172 ?_
                  refine lv_if_ne (tgt := 198) hx hb dX13_one_173 (by decide) (fun c36 => ?_) (fun c36 => ?_)
                  · replace hG := gIf_n hG c36
                    exact j_one_198 l D cs o ad A S t h1 h2 h3 C hml hr hlk r17 x19 S8 _ _ _ (⟨on, o5⟩) hG V hS (lv_sub hl [4, 5, 1, 0] rfl)
                  · replace hG := gIf_p hG c36
                    refine lv_aload_n hx hb dX13_one_176 rfl (lv_at hl 4 rfl) ?_
                    refine mG13 C V dX13_one_177 ?_
                    refine lv_iload_n hx hb dX13_one_180 rfl (lv_at hl 5 rfl) ?_
                    refine lv_iconst (v := 3) hx hb dX13_one_181 (by decide) ?_
                    refine mSt13 C V hS (vin (N := 8) rfl (h1.1) (h1.2)) dX13_one_182 (fun S37 H locs eS37 V hS => ?_)
                    replace hG := gLt_e hG eS37
                    refine lv_aload_n hx hb dX13_one_183 rfl (lv_at hl 4 rfl) ?_
                    refine mG23 C V dX13_one_184 ?_
                    refine lv_iload_n hx hb dX13_one_187 rfl (lv_at hl 5 rfl) ?_
                    refine lv_aload_n hx hb dX13_one_188 rfl (lv_at hl 4 rfl) ?_
                    refine mG24 C V dX13_one_189 ?_
                    refine lv_iload hx hb dX13_one_192 (lv_at hl 1 rfl) ?_
                    refine lv_i2l hx hb dX13_one_194 rfl ?_
                    refine lv_ladd hx hb dX13_one_195 ?_
                    refine mSt23 C V hS (vin (N := 8) rfl (h1.1) (h1.2)) dX13_one_196 (fun S38 H locs eS38 V hS => ?_)
                    replace hG := gLt_e hG eS38
                    exact mRetV C hr hlk V hS (⟨on_L (on_st on eS37 (Or.inl rfl)) eS38, hG.symm⟩) dX13_one_197
            · replace hG := gIf_p hG c24
              refine lv_aload_n hx hb dX13_one_141 rfl (lv_at hl 4 rfl) ?_
              refine mG14 C V dX13_one_142 ?_
              refine lv_iload_n hx hb dX13_one_145 rfl (lv_at hl 5 rfl) ?_
              refine mLd14 C V (vin (N := 8) rfl (h1.1) (h1.2)) dX13_one_146 ?_
              refine lv_if_ge (tgt := 157) hx hb dX13_one_147 (by decide) (fun c39 => ?_) (fun c39 => ?_)
              · replace hG := gIf_p hG c39
                refine lv_iload_n hx hb dX13_one_157 rfl (lv_at hl 2 rfl) ?_
                refine lv_iconst (v := 5) hx hb dX13_one_158 (by decide) ?_
                refine lv_icmp_ne (tgt := 221) hx hb dX13_one_159 (by decide) (fun c40 => ?_) (fun c40 => ?_)
                · replace hG := gIf_n hG c40
                  refine lv_iload_n hx hb dX13_one_221 rfl (lv_at hl 2 rfl) ?_
                  refine lv_bipush (v := 6) hx hb dX13_one_222 (by decide) ?_
                  refine lv_icmp_ne (tgt := 235) hx hb dX13_one_224 (by decide) (fun c41 => ?_) (fun c41 => ?_)
                  · replace hG := gIf_n hG c41
                    refine lv_iload_n hx hb dX13_one_235 rfl (lv_at hl 2 rfl) ?_
                    refine lv_bipush (v := 33) hx hb dX13_one_236 (by decide) ?_
                    refine lv_icmp_ne (tgt := 255) hx hb dX13_one_238 (by decide) (fun c42 => ?_) (fun c42 => ?_)
                    · replace hG := gIf_n hG c42
                      refine lv_iload_n hx hb dX13_one_255 rfl (lv_at hl 2 rfl) ?_
                      refine lv_bipush (v := 6) hx hb dX13_one_256 (by decide) ?_
                      refine lv_icmp_le (tgt := 273) hx hb dX13_one_258 (by decide) (fun c43 => ?_) (fun c43 => ?_)
                      · replace hG := gIf_p hG c43
                        exact j_one_273 l D cs o ad A S t h1 h2 h3 C hml hr hlk x19 S8 _ _ _ (by clear hG V hS hl C hts hown hx hb hml hr hlk; first | exact ⟨on_irr on nope9 (by simp [smK]), o5⟩ | exact ⟨on_irr on nope9 (by simp [smK]), o5⟩ | exact ⟨on_irr (on_irr on nope9 (by simp [smK])) nope9 (by simp [smK]), o5⟩ | exact ⟨on_irr on nope9 (by simp [smK]), o5⟩ | exact ⟨on_pas on nope9 nope9, o5⟩ | exact ⟨on, o5⟩ | exact ⟨hj150.1, hj150.2⟩ | exact hj198.1 | exact ⟨on_irr (on_irr hj198.1.1 nope9 (by simp [smK])) nope9 (by simp [smK]), hj198.1.2⟩) hG V hS (lv_sub hl [4, 5, 0] rfl)
                      · replace hG := gIf_n hG c43
                        refine lv_aload_n hx hb dX13_one_261 rfl (lv_at hl 4 rfl) ?_
                        refine lv_iload_n hx hb dX13_one_262 rfl (lv_at hl 5 rfl) ?_
                        refine lv_iload_n hx hb dX13_one_263 rfl (lv_at hl 2 rfl) ?_
                        refine lv_iload hx hb dX13_one_264 (lv_at hl 1 rfl) ?_
                        refine mGoI (mRunV (As := [.int t, .int r14, .int r17]) (rest := []) C hml V (c_with l D cs o ad A S8 t r14 r17  (on.2.1) (on.1)) gM_with okM_with ⟨rfl, rfl, Nat.le_of_ble_eq_true rfl, Nat.le_of_ble_eq_true rfl⟩ hl.1 rfl (Nat.le_of_ble_eq_true rfl) dX13_one_266 ⟨Nat.zero_le _, Nat.zero_le _⟩) hS (fun r45 S44 H locs hq46 V hS => ?_)
                        obtain ⟨hq46, ghq46⟩ := hq46
                        replace hG := gC_e hG ghq46
                        refine lv_if_ne (tgt := 273) hx hb dX13_one_269 (by decide) (fun c47 => ?_) (fun c47 => ?_)
                        · replace hG := gIf_n hG c47
                          exact j_one_273 l D cs o ad A S t h1 h2 h3 C hml hr hlk x19 S44 _ _ _ (by clear hG V hS hl C hts hown hx hb hml hr hlk; first | exact ⟨on_irr on nope9 (by simp [smK]), o5⟩ | exact ⟨on_irr on nope9 (by simp [smK]), o5⟩ | exact ⟨on_irr (on_irr on nope9 (by simp [smK])) nope9 (by simp [smK]), o5⟩ | exact ⟨on_irr on nope9 (by simp [smK]), o5⟩ | exact ⟨on_pas on hq46 c47, o5⟩ | exact ⟨on, o5⟩ | exact ⟨hj150.1, hj150.2⟩ | exact hj198.1 | exact ⟨on_irr (on_irr hj198.1.1 nope9 (by simp [smK])) nope9 (by simp [smK]), hj198.1.2⟩) hG V hS (lv_sub hl [4, 5, 0] rfl)
                        · replace hG := gIf_p hG c47
                          exact mRetV C hr hlk V hS (⟨⟨hq46.1, (hq46.2.1 2).trans on.2.2⟩, hG.symm⟩) dX13_one_272
                    · replace hG := gIf_p hG c42
                      refine lv_aload_n hx hb dX13_one_241 rfl (lv_at hl 4 rfl) ?_
                      refine mG14 C V dX13_one_242 ?_
                      refine lv_iload_n hx hb dX13_one_245 rfl (lv_at hl 5 rfl) ?_
                      refine lv_aload_n hx hb dX13_one_246 rfl (lv_at hl 4 rfl) ?_
                      refine mG24 C V dX13_one_247 ?_
                      refine lv_l2i hx hb dX13_one_250 rfl ?_
                      refine mSt14 C V hS (vin (N := 8) rfl (h1.1) (h1.2)) dX13_one_251 (fun S48 H locs eS48 V hS => ?_)
                      replace hG := gLt_e hG eS48
                      refine lv_goto (tgt := 273) hx hb dX13_one_252 (by decide) ?_
                      exact j_one_273 l D cs o ad A S t h1 h2 h3 C hml hr hlk x19 S48 _ _ _ (by clear hG V hS hl C hts hown hx hb hml hr hlk; first | exact ⟨on_irr on nope9 (by simp [smK]), o5⟩ | exact ⟨on_irr on nope9 (by simp [smK]), o5⟩ | exact ⟨on_irr (on_irr on nope9 (by simp [smK])) nope9 (by simp [smK]), o5⟩ | exact ⟨on_irr on eS48 (by simp [smK]), o5⟩ | exact ⟨on_pas on nope9 nope9, o5⟩ | exact ⟨on, o5⟩ | exact ⟨hj150.1, hj150.2⟩ | exact hj198.1 | exact ⟨on_irr (on_irr hj198.1.1 nope9 (by simp [smK])) nope9 (by simp [smK]), hj198.1.2⟩) hG V hS (lv_sub hl [4, 5, 0] rfl)
                  · replace hG := gIf_p hG c41
                    refine lv_aload_n hx hb dX13_one_227 rfl (lv_at hl 4 rfl) ?_
                    refine mG13 C V dX13_one_228 ?_
                    refine lv_iload_n hx hb dX13_one_231 rfl (lv_at hl 5 rfl) ?_
                    refine lv_iconst (v := 4) hx hb dX13_one_232 (by decide) ?_
                    refine mSt13 C V hS (vin (N := 8) rfl (h1.1) (h1.2)) dX13_one_233 (fun S49 H locs eS49 V hS => ?_)
                    replace hG := gLt_e hG eS49
                    exact mRetV C hr hlk V hS (⟨on_st on eS49 (Or.inr rfl), hG.symm⟩) dX13_one_234
                · replace hG := gIf_p hG c40
                  refine lv_iload hx hb dX13_one_162 (lv_at hl 1 rfl) ?_
                  refine lv_if_le (tgt := 198) hx hb dX13_one_164 (by decide) (fun c50 => ?_) (fun c50 => ?_)
                  · replace hG := gIf_p hG c50
                    exact j_one_198 l D cs o ad A S t h1 h2 h3 C hml hr hlk r17 x19 S8 _ _ _ (⟨on, o5⟩) hG V hS (lv_sub hl [4, 5, 1, 0] rfl)
                  · replace hG := gIf_n hG c50
                    refine lv_aload_n hx hb dX13_one_167 rfl (lv_at hl 4 rfl) ?_
                    refine mG20 C V dX13_one_168 ?_
                    refine lv_iload_n hx hb dX13_one_171 rfl (lv_at hl 5 rfl) ?_
                    refine mLd20 C V (vin (N := 8) rfl (h1.1) (h1.2)) dX13_one_172 ?_
                    refine lv_if_ne (tgt := 198) hx hb dX13_one_173 (by decide) (fun c51 => ?_) (fun c51 => ?_)
                    · replace hG := gIf_n hG c51
                      exact j_one_198 l D cs o ad A S t h1 h2 h3 C hml hr hlk r17 x19 S8 _ _ _ (⟨on, o5⟩) hG V hS (lv_sub hl [4, 5, 1, 0] rfl)
                    · replace hG := gIf_p hG c51
                      refine lv_aload_n hx hb dX13_one_176 rfl (lv_at hl 4 rfl) ?_
                      refine mG13 C V dX13_one_177 ?_
                      refine lv_iload_n hx hb dX13_one_180 rfl (lv_at hl 5 rfl) ?_
                      refine lv_iconst (v := 3) hx hb dX13_one_181 (by decide) ?_
                      refine mSt13 C V hS (vin (N := 8) rfl (h1.1) (h1.2)) dX13_one_182 (fun S52 H locs eS52 V hS => ?_)
                      replace hG := gLt_e hG eS52
                      refine lv_aload_n hx hb dX13_one_183 rfl (lv_at hl 4 rfl) ?_
                      refine mG23 C V dX13_one_184 ?_
                      refine lv_iload_n hx hb dX13_one_187 rfl (lv_at hl 5 rfl) ?_
                      refine lv_aload_n hx hb dX13_one_188 rfl (lv_at hl 4 rfl) ?_
                      refine mG24 C V dX13_one_189 ?_
                      refine lv_iload hx hb dX13_one_192 (lv_at hl 1 rfl) ?_
                      refine lv_i2l hx hb dX13_one_194 rfl ?_
                      refine lv_ladd hx hb dX13_one_195 ?_
                      refine mSt23 C V hS (vin (N := 8) rfl (h1.1) (h1.2)) dX13_one_196 (fun S53 H locs eS53 V hS => ?_)
                      replace hG := gLt_e hG eS53
                      exact mRetV C hr hlk V hS (⟨on_L (on_st on eS52 (Or.inl rfl)) eS53, hG.symm⟩) dX13_one_197
              · replace hG := gIf_n hG c39
                exact j_one_150 l D cs o ad A S t h1 h2 h3 C hml hr hlk r17 S8 _ _ _ (⟨on, on_jmp on.1 on.2.1 hq15 hq18 (by clear hG V hS hl C hts hown hx hb hml hr hlk; first | (rw [c22]; decide) | (rw [c23]; decide) | (rw [c24]; decide))⟩) hG V hS (lv_sub hl [4, 5, 1] rfl)
          · replace hG := gIf_p hG c23
            refine lv_aload_n hx hb dX13_one_127 rfl (lv_at hl 4 rfl) ?_
            refine mG14 C V dX13_one_128 ?_
            refine lv_iload_n hx hb dX13_one_131 rfl (lv_at hl 5 rfl) ?_
            refine mLd14 C V (vin (N := 8) rfl (h1.1) (h1.2)) dX13_one_132 ?_
            refine lv_if_eq (tgt := 150) hx hb dX13_one_133 (by decide) (fun c54 => ?_) (fun c54 => ?_)
            · replace hG := gIf_p hG c54
              exact j_one_150 l D cs o ad A S t h1 h2 h3 C hml hr hlk r17 S8 _ _ _ (⟨on, on_jmp on.1 on.2.1 hq15 hq18 (by clear hG V hS hl C hts hown hx hb hml hr hlk; first | (rw [c22]; decide) | (rw [c23]; decide) | (rw [nope9]; decide))⟩) hG V hS (lv_sub hl [4, 5, 1] rfl)
            · replace hG := gIf_n hG c54
              refine lv_iload_n hx hb dX13_one_136 rfl (lv_at hl 2 rfl) ?_
              refine lv_iconst (v := 4) hx hb dX13_one_137 (by decide) ?_
              refine lv_icmp_ne (tgt := 157) hx hb dX13_one_138 (by decide) (fun c55 => ?_) (fun c55 => ?_)
              · replace hG := gIf_n hG c55
                refine lv_iload_n hx hb dX13_one_157 rfl (lv_at hl 2 rfl) ?_
                refine lv_iconst (v := 5) hx hb dX13_one_158 (by decide) ?_
                refine lv_icmp_ne (tgt := 221) hx hb dX13_one_159 (by decide) (fun c56 => ?_) (fun c56 => ?_)
                · replace hG := gIf_n hG c56
                  refine lv_iload_n hx hb dX13_one_221 rfl (lv_at hl 2 rfl) ?_
                  refine lv_bipush (v := 6) hx hb dX13_one_222 (by decide) ?_
                  refine lv_icmp_ne (tgt := 235) hx hb dX13_one_224 (by decide) (fun c57 => ?_) (fun c57 => ?_)
                  · replace hG := gIf_n hG c57
                    refine lv_iload_n hx hb dX13_one_235 rfl (lv_at hl 2 rfl) ?_
                    refine lv_bipush (v := 33) hx hb dX13_one_236 (by decide) ?_
                    refine lv_icmp_ne (tgt := 255) hx hb dX13_one_238 (by decide) (fun c58 => ?_) (fun c58 => ?_)
                    · replace hG := gIf_n hG c58
                      refine lv_iload_n hx hb dX13_one_255 rfl (lv_at hl 2 rfl) ?_
                      refine lv_bipush (v := 6) hx hb dX13_one_256 (by decide) ?_
                      refine lv_icmp_le (tgt := 273) hx hb dX13_one_258 (by decide) (fun c59 => ?_) (fun c59 => ?_)
                      · replace hG := gIf_p hG c59
                        exact j_one_273 l D cs o ad A S t h1 h2 h3 C hml hr hlk x19 S8 _ _ _ (by clear hG V hS hl C hts hown hx hb hml hr hlk; first | exact ⟨on_irr on nope9 (by simp [smK]), o5⟩ | exact ⟨on_irr on nope9 (by simp [smK]), o5⟩ | exact ⟨on_irr (on_irr on nope9 (by simp [smK])) nope9 (by simp [smK]), o5⟩ | exact ⟨on_irr on nope9 (by simp [smK]), o5⟩ | exact ⟨on_pas on nope9 nope9, o5⟩ | exact ⟨on, o5⟩ | exact ⟨hj150.1, hj150.2⟩ | exact hj198.1 | exact ⟨on_irr (on_irr hj198.1.1 nope9 (by simp [smK])) nope9 (by simp [smK]), hj198.1.2⟩) hG V hS (lv_sub hl [4, 5, 0] rfl)
                      · replace hG := gIf_n hG c59
                        refine lv_aload_n hx hb dX13_one_261 rfl (lv_at hl 4 rfl) ?_
                        refine lv_iload_n hx hb dX13_one_262 rfl (lv_at hl 5 rfl) ?_
                        refine lv_iload_n hx hb dX13_one_263 rfl (lv_at hl 2 rfl) ?_
                        refine lv_iload hx hb dX13_one_264 (lv_at hl 1 rfl) ?_
                        refine mGoI (mRunV (As := [.int t, .int r14, .int r17]) (rest := []) C hml V (c_with l D cs o ad A S8 t r14 r17  (on.2.1) (on.1)) gM_with okM_with ⟨rfl, rfl, Nat.le_of_ble_eq_true rfl, Nat.le_of_ble_eq_true rfl⟩ hl.1 rfl (Nat.le_of_ble_eq_true rfl) dX13_one_266 ⟨Nat.zero_le _, Nat.zero_le _⟩) hS (fun r61 S60 H locs hq62 V hS => ?_)
                        obtain ⟨hq62, ghq62⟩ := hq62
                        replace hG := gC_e hG ghq62
                        refine lv_if_ne (tgt := 273) hx hb dX13_one_269 (by decide) (fun c63 => ?_) (fun c63 => ?_)
                        · replace hG := gIf_n hG c63
                          exact j_one_273 l D cs o ad A S t h1 h2 h3 C hml hr hlk x19 S60 _ _ _ (by clear hG V hS hl C hts hown hx hb hml hr hlk; first | exact ⟨on_irr on nope9 (by simp [smK]), o5⟩ | exact ⟨on_irr on nope9 (by simp [smK]), o5⟩ | exact ⟨on_irr (on_irr on nope9 (by simp [smK])) nope9 (by simp [smK]), o5⟩ | exact ⟨on_irr on nope9 (by simp [smK]), o5⟩ | exact ⟨on_pas on hq62 c63, o5⟩ | exact ⟨on, o5⟩ | exact ⟨hj150.1, hj150.2⟩ | exact hj198.1 | exact ⟨on_irr (on_irr hj198.1.1 nope9 (by simp [smK])) nope9 (by simp [smK]), hj198.1.2⟩) hG V hS (lv_sub hl [4, 5, 0] rfl)
                        · replace hG := gIf_p hG c63
                          exact mRetV C hr hlk V hS (⟨⟨hq62.1, (hq62.2.1 2).trans on.2.2⟩, hG.symm⟩) dX13_one_272
                    · replace hG := gIf_p hG c58
                      refine lv_aload_n hx hb dX13_one_241 rfl (lv_at hl 4 rfl) ?_
                      refine mG14 C V dX13_one_242 ?_
                      refine lv_iload_n hx hb dX13_one_245 rfl (lv_at hl 5 rfl) ?_
                      refine lv_aload_n hx hb dX13_one_246 rfl (lv_at hl 4 rfl) ?_
                      refine mG24 C V dX13_one_247 ?_
                      refine lv_l2i hx hb dX13_one_250 rfl ?_
                      refine mSt14 C V hS (vin (N := 8) rfl (h1.1) (h1.2)) dX13_one_251 (fun S64 H locs eS64 V hS => ?_)
                      replace hG := gLt_e hG eS64
                      refine lv_goto (tgt := 273) hx hb dX13_one_252 (by decide) ?_
                      exact j_one_273 l D cs o ad A S t h1 h2 h3 C hml hr hlk x19 S64 _ _ _ (by clear hG V hS hl C hts hown hx hb hml hr hlk; first | exact ⟨on_irr on nope9 (by simp [smK]), o5⟩ | exact ⟨on_irr on nope9 (by simp [smK]), o5⟩ | exact ⟨on_irr (on_irr on nope9 (by simp [smK])) nope9 (by simp [smK]), o5⟩ | exact ⟨on_irr on eS64 (by simp [smK]), o5⟩ | exact ⟨on_pas on nope9 nope9, o5⟩ | exact ⟨on, o5⟩ | exact ⟨hj150.1, hj150.2⟩ | exact hj198.1 | exact ⟨on_irr (on_irr hj198.1.1 nope9 (by simp [smK])) nope9 (by simp [smK]), hj198.1.2⟩) hG V hS (lv_sub hl [4, 5, 0] rfl)
                  · replace hG := gIf_p hG c57
                    refine lv_aload_n hx hb dX13_one_227 rfl (lv_at hl 4 rfl) ?_
                    refine mG13 C V dX13_one_228 ?_
                    refine lv_iload_n hx hb dX13_one_231 rfl (lv_at hl 5 rfl) ?_
                    refine lv_iconst (v := 4) hx hb dX13_one_232 (by decide) ?_
                    refine mSt13 C V hS (vin (N := 8) rfl (h1.1) (h1.2)) dX13_one_233 (fun S65 H locs eS65 V hS => ?_)
                    replace hG := gLt_e hG eS65
                    exact mRetV C hr hlk V hS (⟨on_st on eS65 (Or.inr rfl), hG.symm⟩) dX13_one_234
                · replace hG := gIf_p hG c56
                  refine lv_iload hx hb dX13_one_162 (lv_at hl 1 rfl) ?_
                  refine lv_if_le (tgt := 198) hx hb dX13_one_164 (by decide) (fun c66 => ?_) (fun c66 => ?_)
                  · replace hG := gIf_p hG c66
                    exact j_one_198 l D cs o ad A S t h1 h2 h3 C hml hr hlk r17 x19 S8 _ _ _ (⟨on, o5⟩) hG V hS (lv_sub hl [4, 5, 1, 0] rfl)
                  · replace hG := gIf_n hG c66
                    refine lv_aload_n hx hb dX13_one_167 rfl (lv_at hl 4 rfl) ?_
                    refine mG20 C V dX13_one_168 ?_
                    refine lv_iload_n hx hb dX13_one_171 rfl (lv_at hl 5 rfl) ?_
                    refine mLd20 C V (vin (N := 8) rfl (h1.1) (h1.2)) dX13_one_172 ?_
                    refine lv_if_ne (tgt := 198) hx hb dX13_one_173 (by decide) (fun c67 => ?_) (fun c67 => ?_)
                    · replace hG := gIf_n hG c67
                      exact j_one_198 l D cs o ad A S t h1 h2 h3 C hml hr hlk r17 x19 S8 _ _ _ (⟨on, o5⟩) hG V hS (lv_sub hl [4, 5, 1, 0] rfl)
                    · replace hG := gIf_p hG c67
                      refine lv_aload_n hx hb dX13_one_176 rfl (lv_at hl 4 rfl) ?_
                      refine mG13 C V dX13_one_177 ?_
                      refine lv_iload_n hx hb dX13_one_180 rfl (lv_at hl 5 rfl) ?_
                      refine lv_iconst (v := 3) hx hb dX13_one_181 (by decide) ?_
                      refine mSt13 C V hS (vin (N := 8) rfl (h1.1) (h1.2)) dX13_one_182 (fun S68 H locs eS68 V hS => ?_)
                      replace hG := gLt_e hG eS68
                      refine lv_aload_n hx hb dX13_one_183 rfl (lv_at hl 4 rfl) ?_
                      refine mG23 C V dX13_one_184 ?_
                      refine lv_iload_n hx hb dX13_one_187 rfl (lv_at hl 5 rfl) ?_
                      refine lv_aload_n hx hb dX13_one_188 rfl (lv_at hl 4 rfl) ?_
                      refine mG24 C V dX13_one_189 ?_
                      refine lv_iload hx hb dX13_one_192 (lv_at hl 1 rfl) ?_
                      refine lv_i2l hx hb dX13_one_194 rfl ?_
                      refine lv_ladd hx hb dX13_one_195 ?_
                      refine mSt23 C V hS (vin (N := 8) rfl (h1.1) (h1.2)) dX13_one_196 (fun S69 H locs eS69 V hS => ?_)
                      replace hG := gLt_e hG eS69
                      exact mRetV C hr hlk V hS (⟨on_L (on_st on eS68 (Or.inl rfl)) eS69, hG.symm⟩) dX13_one_197
              · replace hG := gIf_p hG c55
                refine lv_aload_n hx hb dX13_one_141 rfl (lv_at hl 4 rfl) ?_
                refine mG14 C V dX13_one_142 ?_
                refine lv_iload_n hx hb dX13_one_145 rfl (lv_at hl 5 rfl) ?_
                refine mLd14 C V (vin (N := 8) rfl (h1.1) (h1.2)) dX13_one_146 ?_
                refine lv_if_ge (tgt := 157) hx hb dX13_one_147 (by decide) (fun c70 => ?_) (fun c70 => ?_)
                · replace hG := gIf_p hG c70
                  refine lv_iload_n hx hb dX13_one_157 rfl (lv_at hl 2 rfl) ?_
                  refine lv_iconst (v := 5) hx hb dX13_one_158 (by decide) ?_
                  refine lv_icmp_ne (tgt := 221) hx hb dX13_one_159 (by decide) (fun c71 => ?_) (fun c71 => ?_)
                  · replace hG := gIf_n hG c71
                    refine lv_iload_n hx hb dX13_one_221 rfl (lv_at hl 2 rfl) ?_
                    refine lv_bipush (v := 6) hx hb dX13_one_222 (by decide) ?_
                    refine lv_icmp_ne (tgt := 235) hx hb dX13_one_224 (by decide) (fun c72 => ?_) (fun c72 => ?_)
                    · replace hG := gIf_n hG c72
                      refine lv_iload_n hx hb dX13_one_235 rfl (lv_at hl 2 rfl) ?_
                      refine lv_bipush (v := 33) hx hb dX13_one_236 (by decide) ?_
                      refine lv_icmp_ne (tgt := 255) hx hb dX13_one_238 (by decide) (fun c73 => ?_) (fun c73 => ?_)
                      · replace hG := gIf_n hG c73
                        refine lv_iload_n hx hb dX13_one_255 rfl (lv_at hl 2 rfl) ?_
                        refine lv_bipush (v := 6) hx hb dX13_one_256 (by decide) ?_
                        refine lv_icmp_le (tgt := 273) hx hb dX13_one_258 (by decide) (fun c74 => ?_) (fun c74 => ?_)
                        · replace hG := gIf_p hG c74
                          exact j_one_273 l D cs o ad A S t h1 h2 h3 C hml hr hlk x19 S8 _ _ _ (by clear hG V hS hl C hts hown hx hb hml hr hlk; first | exact ⟨on_irr on nope9 (by simp [smK]), o5⟩ | exact ⟨on_irr on nope9 (by simp [smK]), o5⟩ | exact ⟨on_irr (on_irr on nope9 (by simp [smK])) nope9 (by simp [smK]), o5⟩ | exact ⟨on_irr on nope9 (by simp [smK]), o5⟩ | exact ⟨on_pas on nope9 nope9, o5⟩ | exact ⟨on, o5⟩ | exact ⟨hj150.1, hj150.2⟩ | exact hj198.1 | exact ⟨on_irr (on_irr hj198.1.1 nope9 (by simp [smK])) nope9 (by simp [smK]), hj198.1.2⟩) hG V hS (lv_sub hl [4, 5, 0] rfl)
                        · replace hG := gIf_n hG c74
                          refine lv_aload_n hx hb dX13_one_261 rfl (lv_at hl 4 rfl) ?_
                          refine lv_iload_n hx hb dX13_one_262 rfl (lv_at hl 5 rfl) ?_
                          refine lv_iload_n hx hb dX13_one_263 rfl (lv_at hl 2 rfl) ?_
                          refine lv_iload hx hb dX13_one_264 (lv_at hl 1 rfl) ?_
                          refine mGoI (mRunV (As := [.int t, .int r14, .int r17]) (rest := []) C hml V (c_with l D cs o ad A S8 t r14 r17  (on.2.1) (on.1)) gM_with okM_with ⟨rfl, rfl, Nat.le_of_ble_eq_true rfl, Nat.le_of_ble_eq_true rfl⟩ hl.1 rfl (Nat.le_of_ble_eq_true rfl) dX13_one_266 ⟨Nat.zero_le _, Nat.zero_le _⟩) hS (fun r76 S75 H locs hq77 V hS => ?_)
                          obtain ⟨hq77, ghq77⟩ := hq77
                          replace hG := gC_e hG ghq77
                          refine lv_if_ne (tgt := 273) hx hb dX13_one_269 (by decide) (fun c78 => ?_) (fun c78 => ?_)
                          · replace hG := gIf_n hG c78
                            exact j_one_273 l D cs o ad A S t h1 h2 h3 C hml hr hlk x19 S75 _ _ _ (by clear hG V hS hl C hts hown hx hb hml hr hlk; first | exact ⟨on_irr on nope9 (by simp [smK]), o5⟩ | exact ⟨on_irr on nope9 (by simp [smK]), o5⟩ | exact ⟨on_irr (on_irr on nope9 (by simp [smK])) nope9 (by simp [smK]), o5⟩ | exact ⟨on_irr on nope9 (by simp [smK]), o5⟩ | exact ⟨on_pas on hq77 c78, o5⟩ | exact ⟨on, o5⟩ | exact ⟨hj150.1, hj150.2⟩ | exact hj198.1 | exact ⟨on_irr (on_irr hj198.1.1 nope9 (by simp [smK])) nope9 (by simp [smK]), hj198.1.2⟩) hG V hS (lv_sub hl [4, 5, 0] rfl)
                          · replace hG := gIf_p hG c78
                            exact mRetV C hr hlk V hS (⟨⟨hq77.1, (hq77.2.1 2).trans on.2.2⟩, hG.symm⟩) dX13_one_272
                      · replace hG := gIf_p hG c73
                        refine lv_aload_n hx hb dX13_one_241 rfl (lv_at hl 4 rfl) ?_
                        refine mG14 C V dX13_one_242 ?_
                        refine lv_iload_n hx hb dX13_one_245 rfl (lv_at hl 5 rfl) ?_
                        refine lv_aload_n hx hb dX13_one_246 rfl (lv_at hl 4 rfl) ?_
                        refine mG24 C V dX13_one_247 ?_
                        refine lv_l2i hx hb dX13_one_250 rfl ?_
                        refine mSt14 C V hS (vin (N := 8) rfl (h1.1) (h1.2)) dX13_one_251 (fun S79 H locs eS79 V hS => ?_)
                        replace hG := gLt_e hG eS79
                        refine lv_goto (tgt := 273) hx hb dX13_one_252 (by decide) ?_
                        exact j_one_273 l D cs o ad A S t h1 h2 h3 C hml hr hlk x19 S79 _ _ _ (by clear hG V hS hl C hts hown hx hb hml hr hlk; first | exact ⟨on_irr on nope9 (by simp [smK]), o5⟩ | exact ⟨on_irr on nope9 (by simp [smK]), o5⟩ | exact ⟨on_irr (on_irr on nope9 (by simp [smK])) nope9 (by simp [smK]), o5⟩ | exact ⟨on_irr on eS79 (by simp [smK]), o5⟩ | exact ⟨on_pas on nope9 nope9, o5⟩ | exact ⟨on, o5⟩ | exact ⟨hj150.1, hj150.2⟩ | exact hj198.1 | exact ⟨on_irr (on_irr hj198.1.1 nope9 (by simp [smK])) nope9 (by simp [smK]), hj198.1.2⟩) hG V hS (lv_sub hl [4, 5, 0] rfl)
                    · replace hG := gIf_p hG c72
                      refine lv_aload_n hx hb dX13_one_227 rfl (lv_at hl 4 rfl) ?_
                      refine mG13 C V dX13_one_228 ?_
                      refine lv_iload_n hx hb dX13_one_231 rfl (lv_at hl 5 rfl) ?_
                      refine lv_iconst (v := 4) hx hb dX13_one_232 (by decide) ?_
                      refine mSt13 C V hS (vin (N := 8) rfl (h1.1) (h1.2)) dX13_one_233 (fun S80 H locs eS80 V hS => ?_)
                      replace hG := gLt_e hG eS80
                      exact mRetV C hr hlk V hS (⟨on_st on eS80 (Or.inr rfl), hG.symm⟩) dX13_one_234
                  · replace hG := gIf_p hG c71
                    refine lv_iload hx hb dX13_one_162 (lv_at hl 1 rfl) ?_
                    refine lv_if_le (tgt := 198) hx hb dX13_one_164 (by decide) (fun c81 => ?_) (fun c81 => ?_)
                    · replace hG := gIf_p hG c81
                      exact j_one_198 l D cs o ad A S t h1 h2 h3 C hml hr hlk r17 x19 S8 _ _ _ (⟨on, o5⟩) hG V hS (lv_sub hl [4, 5, 1, 0] rfl)
                    · replace hG := gIf_n hG c81
                      refine lv_aload_n hx hb dX13_one_167 rfl (lv_at hl 4 rfl) ?_
                      refine mG20 C V dX13_one_168 ?_
                      refine lv_iload_n hx hb dX13_one_171 rfl (lv_at hl 5 rfl) ?_
                      refine mLd20 C V (vin (N := 8) rfl (h1.1) (h1.2)) dX13_one_172 ?_
                      refine lv_if_ne (tgt := 198) hx hb dX13_one_173 (by decide) (fun c82 => ?_) (fun c82 => ?_)
                      · replace hG := gIf_n hG c82
                        exact j_one_198 l D cs o ad A S t h1 h2 h3 C hml hr hlk r17 x19 S8 _ _ _ (⟨on, o5⟩) hG V hS (lv_sub hl [4, 5, 1, 0] rfl)
                      · replace hG := gIf_p hG c82
                        refine lv_aload_n hx hb dX13_one_176 rfl (lv_at hl 4 rfl) ?_
                        refine mG13 C V dX13_one_177 ?_
                        refine lv_iload_n hx hb dX13_one_180 rfl (lv_at hl 5 rfl) ?_
                        refine lv_iconst (v := 3) hx hb dX13_one_181 (by decide) ?_
                        refine mSt13 C V hS (vin (N := 8) rfl (h1.1) (h1.2)) dX13_one_182 (fun S83 H locs eS83 V hS => ?_)
                        replace hG := gLt_e hG eS83
                        refine lv_aload_n hx hb dX13_one_183 rfl (lv_at hl 4 rfl) ?_
                        refine mG23 C V dX13_one_184 ?_
                        refine lv_iload_n hx hb dX13_one_187 rfl (lv_at hl 5 rfl) ?_
                        refine lv_aload_n hx hb dX13_one_188 rfl (lv_at hl 4 rfl) ?_
                        refine mG24 C V dX13_one_189 ?_
                        refine lv_iload hx hb dX13_one_192 (lv_at hl 1 rfl) ?_
                        refine lv_i2l hx hb dX13_one_194 rfl ?_
                        refine lv_ladd hx hb dX13_one_195 ?_
                        refine mSt23 C V hS (vin (N := 8) rfl (h1.1) (h1.2)) dX13_one_196 (fun S84 H locs eS84 V hS => ?_)
                        replace hG := gLt_e hG eS84
                        exact mRetV C hr hlk V hS (⟨on_L (on_st on eS83 (Or.inl rfl)) eS84, hG.symm⟩) dX13_one_197
                · replace hG := gIf_n hG c70
                  exact j_one_150 l D cs o ad A S t h1 h2 h3 C hml hr hlk r17 S8 _ _ _ (⟨on, on_jmp on.1 on.2.1 hq15 hq18 (by clear hG V hS hl C hts hown hx hb hml hr hlk; first | (rw [c22]; decide) | (rw [c23]; decide) | (rw [c55]; decide))⟩) hG V hS (lv_sub hl [4, 5, 1] rfl)
      · replace hG := gIf_p hG c21
        refine lv_aload_n hx hb dX13_one_103 rfl (lv_at hl 4 rfl) ?_
        refine mG14 C V dX13_one_104 ?_
        refine lv_iload_n hx hb dX13_one_107 rfl (lv_at hl 5 rfl) ?_
        refine lv_dup2_11 hx hb dX13_one_108 rfl rfl ?_
        refine mLd14 C V (vin (N := 8) rfl (h1.1) (h1.2)) dX13_one_109 ?_
        refine lv_iload hx hb dX13_one_110 (lv_at hl 1 rfl) ?_
        refine lv_iadd hx hb dX13_one_112 ?_
        refine mSt14 C V hS (vin (N := 8) rfl (h1.1) (h1.2)) dX13_one_113 (fun S85 H locs eS85 V hS => ?_)
        replace hG := gLt_e hG eS85
        refine lv_goto (tgt := 273) hx hb dX13_one_114 (by decide) ?_
        exact j_one_273 l D cs o ad A S t h1 h2 h3 C hml hr hlk x19 S85 _ _ _ (by clear hG V hS hl C hts hown hx hb hml hr hlk; first | exact ⟨on_irr on nope9 (by simp [smK]), o5⟩ | exact ⟨on_irr on eS85 (by simp [smK]), o5⟩ | exact ⟨on_irr (on_irr on nope9 (by simp [smK])) nope9 (by simp [smK]), o5⟩ | exact ⟨on_irr on nope9 (by simp [smK]), o5⟩ | exact ⟨on_pas on nope9 nope9, o5⟩ | exact ⟨on, o5⟩ | exact ⟨hj150.1, hj150.2⟩ | exact hj198.1 | exact ⟨on_irr (on_irr hj198.1.1 nope9 (by simp [smK])) nope9 (by simp [smK]), hj198.1.2⟩) hG V hS (lv_sub hl [4, 5, 0] rfl)
    · replace hG := gIf_p hG c20
      refine lv_aload_n hx hb dX13_one_87 rfl (lv_at hl 4 rfl) ?_
      refine mG14 C V dX13_one_88 ?_
      refine lv_iload_n hx hb dX13_one_91 rfl (lv_at hl 5 rfl) ?_
      refine lv_iload hx hb dX13_one_92 (lv_at hl 1 rfl) ?_
      refine mSt14 C V hS (vin (N := 8) rfl (h1.1) (h1.2)) dX13_one_94 (fun S86 H locs eS86 V hS => ?_)
      replace hG := gLt_e hG eS86
      refine lv_goto (tgt := 273) hx hb dX13_one_95 (by decide) ?_
      exact j_one_273 l D cs o ad A S t h1 h2 h3 C hml hr hlk x19 S86 _ _ _ (by clear hG V hS hl C hts hown hx hb hml hr hlk; first | exact ⟨on_irr on eS86 (by simp [smK]), o5⟩ | exact ⟨on_irr on nope9 (by simp [smK]), o5⟩ | exact ⟨on_irr (on_irr on nope9 (by simp [smK])) nope9 (by simp [smK]), o5⟩ | exact ⟨on_irr on nope9 (by simp [smK]), o5⟩ | exact ⟨on_pas on nope9 nope9, o5⟩ | exact ⟨on, o5⟩ | exact ⟨hj150.1, hj150.2⟩ | exact hj198.1 | exact ⟨on_irr (on_irr hj198.1.1 nope9 (by simp [smK])) nope9 (by simp [smK]), hj198.1.2⟩) hG V hS (lv_sub hl [4, 5, 0] rfl)
  · replace hG := gIf_n hG c12
    have b9 : (0 ≤ r10 ∧ r10 < 24) ∧ gA S8 28 r10 = 1 ∧ ∃ i, 0 ≤ i ∧ i < gA S8 33 r10 ∧ gA S8 32 (8 * r10 + i) = t := by
      rcases hq11 with q | q
      · exact absurd (show r10 < 0 by rw [q.1]; decide) c12
      · exact ⟨⟨q.1, q.2.1⟩, q.2.2.1, q.2.2.2⟩
    refine lv_aload_n hx hb dX13_one_25 rfl (lv_at hl 1 rfl) ?_
    refine mG31 C V dX13_one_26 ?_
    refine lv_iload_n hx hb dX13_one_29 rfl (lv_at hl 0 rfl) ?_
    refine mLd31 C V (vin (N := 24) rfl (b9.1.1) (b9.1.2)) dX13_one_30 ?_
    refine lv_if_ge (tgt := 43) hx hb dX13_one_31 (by decide) (fun c87 => ?_) (fun c87 => ?_)
    · replace hG := gIf_p hG c87
      refine lv_aload_n hx hb dX13_one_43 rfl (lv_at hl 1 rfl) ?_
      refine mG13 C V dX13_one_44 ?_
      refine lv_iload_n hx hb dX13_one_47 rfl (lv_at hl 2 rfl) ?_
      refine lv_iconst (v := 2) hx hb dX13_one_48 (by decide) ?_
      refine mSt13 C V hS (vin (N := 8) rfl (h1.1) (h1.2)) dX13_one_49 (fun S88 H locs eS88 V hS => ?_)
      replace hG := gLt_e hG eS88
      refine lv_aload_n hx hb dX13_one_50 rfl (lv_at hl 1 rfl) ?_
      refine mG16 C V dX13_one_51 ?_
      refine lv_iload_n hx hb dX13_one_54 rfl (lv_at hl 2 rfl) ?_
      refine lv_iload_n hx hb dX13_one_55 rfl (lv_at hl 0 rfl) ?_
      refine mSt16 C V hS (vin (N := 8) rfl (h1.1) (h1.2)) dX13_one_56 (fun S89 H locs eS89 V hS => ?_)
      replace hG := gLt_e hG eS89
      exact mRetV C hr hlk V hS (⟨by clear hG V hS hl C hts hown hx hb hml hr hlk; first | exact ⟨nope9.1.1, (nope9.1.2.1 2).trans a2⟩ | (obtain ⟨q1, q2⟩ := one_w b9.1 a1 b9.2.2 eS88 eS89; exact ⟨q1, q2.trans a2⟩), hG.symm⟩) dX13_one_57
    · replace hG := gIf_n hG c87
      refine lv_aload_n hx hb dX13_one_34 rfl (lv_at hl 1 rfl) ?_
      refine lv_iload_n hx hb dX13_one_35 rfl (lv_at hl 0 rfl) ?_
      refine lv_iload_n hx hb dX13_one_36 rfl (lv_at hl 2 rfl) ?_
      refine mGoV (mRunV (As := [.int r10, .int t]) (rest := []) C hml V (c_has l D cs o ad A S8 r10 t  (b9.1) (a1) (b9.2.1) (b9.2.2)) gM_has okM_has ⟨rfl, rfl, Nat.le_of_ble_eq_true rfl, Nat.le_of_ble_eq_true rfl⟩ hl.1 rfl (Nat.le_of_ble_eq_true rfl) dX13_one_37 ⟨Nat.zero_le _, Nat.zero_le _⟩) hS (fun S90 H locs hq92 V hS => ?_)
      obtain ⟨hq92, ghq92⟩ := hq92
      replace hG := gLt_e hG ghq92
      refine lv_goto (tgt := 57) hx hb dX13_one_40 (by decide) ?_
      exact mRetV C hr hlk V hS (⟨by clear hG V hS hl C hts hown hx hb hml hr hlk; first | exact ⟨hq92.1.1, (hq92.1.2.1 2).trans a2⟩ | (obtain ⟨q1, q2⟩ := one_w b9.1 a1 b9.2.2 nope9 nope9; exact ⟨q1, q2.trans a2⟩), hG.symm⟩) dX13_one_57

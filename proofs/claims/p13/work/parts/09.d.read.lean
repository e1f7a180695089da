theorem rd_m {f f1 t t1 x y : Int32} (hf : x < 0) (h7 : t1 = t) (h8 : f < f1) (h0 : f1 ≤ t1) (h00 : 0 ≤ f) (ht : t ≤ 1600) : 0 ≤ (if y < 0 then t1 - f1 + 1 else 0) ∧ (if y < 0 then t1 - f1 + 1 else 0) < (if x < 0 then t - f + 1 else 0) := by
  subst h7; rw [if_pos hf]; split <;> constructor <;> grind
theorem rd_first {S S0 S1 S2 : mS} (e2 : gI S0 2 = 0) (e6 : gI S0 6 = 0) (f1 : ∀ k, k ≠ 2 → k ≠ 6 → k ≠ 7 → k ≠ 9 → k ≠ 10 → gI S0 k = gI S k) (f2 : ∀ k, gJ S0 k = gJ S k) (f3 : ∀ k i, gA S0 k i = gA S k i) (f4 : ∀ k i, gL S0 k i = gL S k i) (h1 : 0 ≤ gI S1 8 ∧ gI S1 8 ≤ gI S1 9 ∧ gI S1 9 ≤ gI S1 7 ∧ gI S1 7 ≤ 1600 ∧ (gI S1 8 < gI S1 7 → gI S1 8 < gI S1 9) ∧ gI S0 9 ≤ gI S1 8 ∧ (∀ k, k ≠ 8 → k ≠ 9 → gI S1 k = gI S0 k) ∧ (∀ k, gJ S1 k = gJ S0 k) ∧ (∀ k i, gA S1 k i = gA S0 k i) ∧ (∀ k i, gL S1 k i = gL S0 k i)) (h2 : 0 ≤ gI S2 8 ∧ gI S2 8 ≤ gI S2 9 ∧ gI S2 9 ≤ gI S2 7 ∧ gI S2 7 ≤ 1600 ∧ (gI S2 8 < gI S2 7 → gI S2 8 < gI S2 9) ∧ gI S1 8 ≤ gI S2 8 ∧ 0 ≤ gI S2 6 ∧ gI S2 6 ≤ 60 ∧ (gI S2 10 < 0 → 1 ≤ gI S2 6) ∧ (∀ k, 0 ≤ k → k < gI S2 6 → 2 ≤ gA S2 5 (4 * k) → gA S2 5 (4 * k) ≤ 4 → 0 ≤ gA S2 5 (4 * k + 1)) ∧ (∀ k, k ≠ 6 → k ≠ 8 → k ≠ 9 → k ≠ 10 → gI S2 k = gI S1 k) ∧ (∀ k, gJ S2 k = gJ S1 k) ∧ (∀ k i, k ≠ 5 → gA S2 k i = gA S1 k i) ∧ (∀ k i, gL S2 k i = gL S1 k i)) : gI S2 2 = 0 ∧ 0 ≤ gI S2 8 ∧ gI S2 8 ≤ gI S2 9 ∧ gI S2 9 ≤ gI S2 7 ∧ gI S2 7 ≤ 1600 ∧ (gI S2 8 < gI S2 7 → gI S2 8 < gI S2 9) ∧ 0 ≤ gI S2 6 ∧ gI S2 6 ≤ 60 ∧ (gI S2 10 < 0 → 1 ≤ gI S2 6) ∧ (∀ k, 0 ≤ k → k < gI S2 6 → 2 ≤ gA S2 5 (4 * k) → gA S2 5 (4 * k) ≤ 4 → 0 ≤ gA S2 5 (4 * k + 1)) ∧ (∀ k, k ≠ 2 → k ≠ 6 → k ≠ 7 → k ≠ 8 → k ≠ 9 → k ≠ 10 → gI S2 k = gI S k) ∧ (∀ k, gJ S2 k = gJ S k) ∧ (∀ k i, k ≠ 5 → gA S2 k i = gA S k i) ∧ (∀ k i, gL S2 k i = gL S k i) := by
  obtain ⟨a1, a2, a3, a4, a5, a6, a7, a8, a9, a10⟩ := h1
  obtain ⟨b1, b2, b3, b4, b5, b6, b7, b8, b9, b10, b11, b12, b13, b14⟩ := h2
  refine ⟨?_, b1, b2, b3, b4, b5, b7, b8, b9, b10, ?_, ?_, ?_, ?_⟩
  · rw [b11 2 (by decide) (by decide) (by decide) (by decide), a7 2 (by decide) (by decide), e2]
  · intro k k2 k6 k7 k8 k9 k10; rw [b11 k k6 k8 k9 k10, a7 k k8 k9, f1 k k2 k6 k7 k9 k10]
  · intro k; rw [b12, a8, f2]
  · intro k i hk; rw [b13 k i hk, a9, f3]
  · intro k i; rw [b14, a10, f4]
theorem rd_step {S S0 S1 S2 : mS} (h : gI S0 2 = 0 ∧ 0 ≤ gI S0 8 ∧ gI S0 8 ≤ gI S0 9 ∧ gI S0 9 ≤ gI S0 7 ∧ gI S0 7 ≤ 1600 ∧ (gI S0 8 < gI S0 7 → gI S0 8 < gI S0 9) ∧ 0 ≤ gI S0 6 ∧ gI S0 6 ≤ 60 ∧ (gI S0 10 < 0 → 1 ≤ gI S0 6) ∧ (∀ k, 0 ≤ k → k < gI S0 6 → 2 ≤ gA S0 5 (4 * k) → gA S0 5 (4 * k) ≤ 4 → 0 ≤ gA S0 5 (4 * k + 1)) ∧ (∀ k, k ≠ 2 → k ≠ 6 → k ≠ 7 → k ≠ 8 → k ≠ 9 → k ≠ 10 → gI S0 k = gI S k) ∧ (∀ k, gJ S0 k = gJ S k) ∧ (∀ k i, k ≠ 5 → gA S0 k i = gA S k i) ∧ (∀ k i, gL S0 k i = gL S k i)) (h1 : 0 ≤ gI S1 8 ∧ gI S1 8 ≤ gI S1 9 ∧ gI S1 9 ≤ gI S1 7 ∧ gI S1 7 ≤ 1600 ∧ (gI S1 8 < gI S1 7 → gI S1 8 < gI S1 9) ∧ gI S0 9 ≤ gI S1 8 ∧ (∀ k, k ≠ 8 → k ≠ 9 → gI S1 k = gI S0 k) ∧ (∀ k, gJ S1 k = gJ S0 k) ∧ (∀ k i, gA S1 k i = gA S0 k i) ∧ (∀ k i, gL S1 k i = gL S0 k i)) (h2 : 0 ≤ gI S2 8 ∧ gI S2 8 ≤ gI S2 9 ∧ gI S2 9 ≤ gI S2 7 ∧ gI S2 7 ≤ 1600 ∧ (gI S2 8 < gI S2 7 → gI S2 8 < gI S2 9) ∧ gI S1 8 ≤ gI S2 8 ∧ 0 ≤ gI S2 6 ∧ gI S2 6 ≤ 60 ∧ (gI S2 10 < 0 → 1 ≤ gI S2 6) ∧ (∀ k, 0 ≤ k → k < gI S2 6 → 2 ≤ gA S2 5 (4 * k) → gA S2 5 (4 * k) ≤ 4 → 0 ≤ gA S2 5 (4 * k + 1)) ∧ (∀ k, k ≠ 6 → k ≠ 8 → k ≠ 9 → k ≠ 10 → gI S2 k = gI S1 k) ∧ (∀ k, gJ S2 k = gJ S1 k) ∧ (∀ k i, k ≠ 5 → gA S2 k i = gA S1 k i) ∧ (∀ k i, gL S2 k i = gL S1 k i)) : gI S2 2 = 0 ∧ 0 ≤ gI S2 8 ∧ gI S2 8 ≤ gI S2 9 ∧ gI S2 9 ≤ gI S2 7 ∧ gI S2 7 ≤ 1600 ∧ (gI S2 8 < gI S2 7 → gI S2 8 < gI S2 9) ∧ 0 ≤ gI S2 6 ∧ gI S2 6 ≤ 60 ∧ (gI S2 10 < 0 → 1 ≤ gI S2 6) ∧ (∀ k, 0 ≤ k → k < gI S2 6 → 2 ≤ gA S2 5 (4 * k) → gA S2 5 (4 * k) ≤ 4 → 0 ≤ gA S2 5 (4 * k + 1)) ∧ (∀ k, k ≠ 2 → k ≠ 6 → k ≠ 7 → k ≠ 8 → k ≠ 9 → k ≠ 10 → gI S2 k = gI S k) ∧ (∀ k, gJ S2 k = gJ S k) ∧ (∀ k i, k ≠ 5 → gA S2 k i = gA S k i) ∧ (∀ k i, gL S2 k i = gL S k i) := by
  obtain ⟨c0, c1, c2, c3, c4, c5, c6, c7, c8, c9, c10, c11, c12, c13⟩ := h
  obtain ⟨a1, a2, a3, a4, a5, a6, a7, a8, a9, a10⟩ := h1
  obtain ⟨b1, b2, b3, b4, b5, b6, b7, b8, b9, b10, b11, b12, b13, b14⟩ := h2
  refine ⟨?_, b1, b2, b3, b4, b5, b7, b8, b9, b10, ?_, ?_, ?_, ?_⟩
  · rw [b11 2 (by decide) (by decide) (by decide) (by decide), a7 2 (by decide) (by decide), c0]
  · intro k k2 k6 k7 k8 k9 k10; rw [b11 k k6 k8 k9 k10, a7 k k8 k9, c10 k k2 k6 k7 k8 k9 k10]
  · intro k; rw [b12, a8, c11]
  · intro k i hk; rw [b13 k i hk, a9, c12 k i hk]
  · intro k i; rw [b14, a10, c13]
theorem rd_wrong {S S0 S1 : mS} (h : gI S0 2 = 0 ∧ 0 ≤ gI S0 8 ∧ gI S0 8 ≤ gI S0 9 ∧ gI S0 9 ≤ gI S0 7 ∧ gI S0 7 ≤ 1600 ∧ (gI S0 8 < gI S0 7 → gI S0 8 < gI S0 9) ∧ 0 ≤ gI S0 6 ∧ gI S0 6 ≤ 60 ∧ (gI S0 10 < 0 → 1 ≤ gI S0 6) ∧ (∀ k, 0 ≤ k → k < gI S0 6 → 2 ≤ gA S0 5 (4 * k) → gA S0 5 (4 * k) ≤ 4 → 0 ≤ gA S0 5 (4 * k + 1)) ∧ (∀ k, k ≠ 2 → k ≠ 6 → k ≠ 7 → k ≠ 8 → k ≠ 9 → k ≠ 10 → gI S0 k = gI S k) ∧ (∀ k, gJ S0 k = gJ S k) ∧ (∀ k i, k ≠ 5 → gA S0 k i = gA S k i) ∧ (∀ k i, gL S0 k i = gL S k i)) (hf : gI S0 10 < 0) (e : S1 = sI S0 10 (gI S0 8)) : gI S1 2 = 0 ∧ 0 ≤ gI S1 8 ∧ gI S1 8 ≤ gI S1 9 ∧ gI S1 9 ≤ gI S1 7 ∧ gI S1 7 ≤ 1600 ∧ (gI S1 8 < gI S1 7 → gI S1 8 < gI S1 9) ∧ 0 ≤ gI S1 6 ∧ gI S1 6 ≤ 60 ∧ (gI S1 10 < 0 → 1 ≤ gI S1 6) ∧ (∀ k, 0 ≤ k → k < gI S1 6 → 2 ≤ gA S1 5 (4 * k) → gA S1 5 (4 * k) ≤ 4 → 0 ≤ gA S1 5 (4 * k + 1)) ∧ (∀ k, k ≠ 2 → k ≠ 6 → k ≠ 7 → k ≠ 8 → k ≠ 9 → k ≠ 10 → gI S1 k = gI S k) ∧ (∀ k, gJ S1 k = gJ S k) ∧ (∀ k i, k ≠ 5 → gA S1 k i = gA S k i) ∧ (∀ k i, gL S1 k i = gL S k i) := by
  obtain ⟨c0, c1, c2, c3, c4, c5, c6, c7, c8, c9, c10, c11, c12, c13⟩ := h
  have g : ∀ k, k ≠ 10 → gI S1 k = gI S0 k := fun k hk => by rw [e, gI_sI, if_neg hk]
  have gA1 : ∀ k i, gA S1 k i = gA S0 k i := fun k i => by rw [e]; rfl
  have g10 : gI S1 10 = gI S0 8 := by rw [e]; rfl
  refine ⟨by rw [g 2 (by decide)]; exact c0, by rw [g 8 (by decide)]; exact c1, by rw [g 8 (by decide), g 9 (by decide)]; exact c2, by rw [g 9 (by decide), g 7 (by decide)]; exact c3, by rw [g 7 (by decide)]; exact c4, by rw [g 7 (by decide), g 8 (by decide), g 9 (by decide)]; exact c5, by rw [g 6 (by decide)]; exact c6, by rw [g 6 (by decide)]; exact c7, fun h9 => ?_, ?_, ?_, ?_, ?_, ?_⟩
  · rw [g10] at h9; exfalso; clear g gA1 c9 c10 c11 c12 c13; grind
  · intro k; rw [g 6 (by decide), gA1, gA1]; exact c9 k
  · intro k k2 k6 k7 k8 k9 k10; rw [g k k10]; exact c10 k k2 k6 k7 k8 k9 k10
  · intro k; rw [e]; exact c11 k
  · intro k i hk; rw [gA1]; exact c12 k i hk
  · intro k i; rw [e]; exact c13 k i

def G_read_L36  : Nat → mS → mS
  | 0, SL36 => SL36
  | N36 + 1, SL36 => if 0 ≤ ((gI SL36 10) : Int32) then (SL36) else (if (gI SL36 7) ≤ ((gI SL36 8) : Int32) then (SL36) else (if ((gA SL36 1 (gI SL36 8)) : Int32) = 59 then (gLt (G_next SL36  : mS) (fun S15 => gLt (G_line S15  : mS) (fun S18 => G_read_L36  N36  S18))) else (gC (G_wrong SL36 ) (fun r22 S21 => G_read_L36  N36  S21))))
def G_read (S : mS)  : mS := gLt (sI S 7 (gI S 2) : mS) (fun S1 => gLt (sI S1 2 0 : mS) (fun S2 => gLt (sI S2 9 0 : mS) (fun S3 => gLt (sI S3 6 0 : mS) (fun S4 => gLt (sI S4 10 (-1) : mS) (fun S5 => gLt (G_next S5  : mS) (fun S6 => gLt (G_line S6  : mS) (fun S9 => G_read_L36  ((if gI S9 10 < 0 then gI S9 7 - gI S9 8 + 1 else 0).toInt.toNat + 1)  S9)))))))
set_option maxHeartbeats 400000 in
set_option maxRecDepth 100000 in
theorem c_read (l : Launch) (D : va_G) (cs : ClassId × ClassId × ClassId) (o : Nat) (ad : Nat → Nat) (A : Nat → Prop) (S : mS)   (h1 : 0 ≤ gI S 2 ∧ gI S 2 ≤ 1600) : Met l yX13_read (Cond.code yX13_read cX13_read 1 none :: tM) ({ frames := 4, cells := 0, slots := 0, locals := 92 }) (va_Pc [.ref o] (mB D cs o ad A S)) (va_Qv (fun S9 => (gI S9 2 = 0 ∧ 0 ≤ gI S9 8 ∧ gI S9 8 ≤ gI S9 9 ∧ gI S9 9 ≤ gI S9 7 ∧ gI S9 7 ≤ 1600 ∧ (gI S9 8 < gI S9 7 → gI S9 8 < gI S9 9) ∧ 0 ≤ gI S9 6 ∧ gI S9 6 ≤ 60 ∧ (gI S9 10 < 0 → 1 ≤ gI S9 6) ∧ (∀ k, 0 ≤ k → k < gI S9 6 → 2 ≤ gA S9 5 (4 * k) → gA S9 5 (4 * k) ≤ 4 → 0 ≤ gA S9 5 (4 * k + 1)) ∧ (∀ k, k ≠ 2 → k ≠ 6 → k ≠ 7 → k ≠ 8 → k ≠ 9 → k ≠ 10 → gI S9 k = gI S k) ∧ (∀ k, gJ S9 k = gJ S k) ∧ (∀ k i, k ≠ 5 → gA S9 k i = gA S k i) ∧ (∀ k i, gL S9 k i = gL S k i)) ∧ S9 = G_read S ) (mB D cs o ad A) A) 0 0 A := by
  refine mMet (by decide) rfl (Nat.le_of_ble_eq_true rfl) ?_
  intro p e s m below meth c ls C hml hr hlk V hl
  have hx := C.1
  have hb := C.2.1
  have hown := C.2.2.1
  have hts := C.2.2.2.1
  have hS : va_S A s.heap s.heap [] := va_S.rf
  have hl : lv_has ls 1 [(0, .ref o)] := hl
  have hG := G_read.eq_1 S 
  refine lv_aload_n hx hb dX13_read_0 rfl (lv_at hl 0 rfl) ?_
  refine lv_aload_n hx hb dX13_read_1 rfl (lv_at hl 0 rfl) ?_
  refine mG2 C V dX13_read_2 ?_
  refine mP7 C V hS dX13_read_5 (fun S1 H locs eS1 V hS => ?_)
  replace hG := gLt_e hG eS1
  refine lv_aload_n hx hb dX13_read_8 rfl (lv_at hl 0 rfl) ?_
  refine lv_iconst (v := 0) hx hb dX13_read_9 (by decide) ?_
  refine mP2 C V hS dX13_read_10 (fun S2 H locs eS2 V hS => ?_)
  replace hG := gLt_e hG eS2
  refine lv_aload_n hx hb dX13_read_13 rfl (lv_at hl 0 rfl) ?_
  refine lv_iconst (v := 0) hx hb dX13_read_14 (by decide) ?_
  refine mP9 C V hS dX13_read_15 (fun S3 H locs eS3 V hS => ?_)
  replace hG := gLt_e hG eS3
  refine lv_aload_n hx hb dX13_read_18 rfl (lv_at hl 0 rfl) ?_
  refine lv_iconst (v := 0) hx hb dX13_read_19 (by decide) ?_
  refine mP6 C V hS dX13_read_20 (fun S4 H locs eS4 V hS => ?_)
  replace hG := gLt_e hG eS4
  refine lv_aload_n hx hb dX13_read_23 rfl (lv_at hl 0 rfl) ?_
  refine lv_iconst (v := (-1)) hx hb dX13_read_24 (by decide) ?_
  refine mP10 C V hS dX13_read_25 (fun S5 H locs eS5 V hS => ?_)
  replace hG := gLt_e hG eS5
  have n2 : gI S5 2 = 0 := by clear hG; subst_vars; rfl
  have n6 : gI S5 6 = 0 := by clear hG; subst_vars; rfl
  have n9 : 0 ≤ gI S5 9 ∧ gI S5 9 ≤ gI S5 7 ∧ gI S5 7 ≤ 1600 := by
    have q9 : gI S5 9 = 0 := by clear hG; subst_vars; rfl
    have q7 : gI S5 7 = gI S 2 := by clear hG; subst_vars; rfl
    rw [q9, q7]; exact ⟨by decide, h1.1, h1.2⟩
  have n0 : ∀ k, k ≠ 2 → k ≠ 6 → k ≠ 7 → k ≠ 9 → k ≠ 10 → gI S5 k = gI S k := fun k k2 k6 k7 k9 k10 => by clear hG; subst_vars; simp only [gI_sI, if_neg k2, if_neg k6, if_neg k7, if_neg k9, if_neg k10]
  have nJ : ∀ k, gJ S5 k = gJ S k := fun k => by clear hG; subst_vars; rfl
  have nA : ∀ k i, gA S5 k i = gA S k i := fun k i => by clear hG; subst_vars; rfl
  have nL : ∀ k i, gL S5 k i = gL S k i := fun k i => by clear hG; subst_vars; rfl
  refine lv_aload_n hx hb dX13_read_28 rfl (lv_at hl 0 rfl) ?_
  refine mGoV (mRunV (As := []) (rest := []) C hml V (c_next l D cs o ad A S5   (n9)) gM_next okM_next ⟨rfl, rfl, Nat.le_of_ble_eq_true rfl, Nat.le_of_ble_eq_true rfl⟩ hl.1 rfl (Nat.le_of_ble_eq_true rfl) dX13_read_29 ⟨Nat.zero_le _, Nat.zero_le _⟩) hS (fun S6 H locs hq8 V hS => ?_)
  obtain ⟨hq8, ghq8⟩ := hq8
  replace hG := gLt_e hG ghq8
  obtain ⟨m1, m2, m3, m4, m5, m6, m7, m8, m9, m10⟩ := id hq8
  have n6b : gI S6 6 = 0 := by rw [m7 6 (by decide) (by decide)]; exact n6
  clear m7 m8 m9 m10
  refine lv_aload_n hx hb dX13_read_32 rfl (lv_at hl 0 rfl) ?_
  refine mGoV (mRunV (As := []) (rest := []) C hml V (c_line l D cs o ad A S6   (⟨m1, m2, m3, m4, m5⟩) (by clear hG V hS hl C hts hown hx hb hml hr hlk; clear m1 m2 m3 m4 m5; grind) (fun k k0 k1 => absurd k1 (by clear hG V hS hl C hts hown hx hb hml hr hlk; rw [n6b]; grind))) gM_line okM_line ⟨rfl, rfl, Nat.le_of_ble_eq_true rfl, Nat.le_of_ble_eq_true rfl⟩ hl.1 rfl (Nat.le_of_ble_eq_true rfl) dX13_read_33 ⟨Nat.zero_le _, Nat.zero_le _⟩) hS (fun S9 H locs hq11 V hS => ?_)
  obtain ⟨hq11, ghq11⟩ := hq11
  replace hG := gLt_e hG ghq11
  have loop36 : ∀ (N36 : Nat)  (SL36 : mS) (H : Heap) (locs : List Loc) (ls : Array Slot), (gI SL36 2 = 0 ∧ 0 ≤ gI SL36 8 ∧ gI SL36 8 ≤ gI SL36 9 ∧ gI SL36 9 ≤ gI SL36 7 ∧ gI SL36 7 ≤ 1600 ∧ (gI SL36 8 < gI SL36 7 → gI SL36 8 < gI SL36 9) ∧ 0 ≤ gI SL36 6 ∧ gI SL36 6 ≤ 60 ∧ (gI SL36 10 < 0 → 1 ≤ gI SL36 6) ∧ (∀ k, 0 ≤ k → k < gI SL36 6 → 2 ≤ gA SL36 5 (4 * k) → gA SL36 5 (4 * k) ≤ 4 → 0 ≤ gA SL36 5 (4 * k + 1)) ∧ (∀ k, k ≠ 2 → k ≠ 6 → k ≠ 7 → k ≠ 8 → k ≠ 9 → k ≠ 10 → gI SL36 k = gI S k) ∧ (∀ k, gJ SL36 k = gJ S k) ∧ (∀ k i, k ≠ 5 → gA SL36 k i = gA S k i) ∧ (∀ k i, gL SL36 k i = gL S k i)) → ((if gI SL36 10 < 0 then gI SL36 7 - gI SL36 8 + 1 else 0).toInt.toNat) < N36 → (G_read S  = G_read_L36  N36  SL36) → mV D cs o ad A SL36 H → va_S A s.heap H locs → lv_has ls 1 [(0, .ref o)] → W p l e ({ frames := 4, cells := 0, slots := 0, locals := 92 } : Room) s m ([.ref o] : List Value).toArray below meth c H locs 0 0 (MQ below (va_Qv (fun S9 => (gI S9 2 = 0 ∧ 0 ≤ gI S9 8 ∧ gI S9 8 ≤ gI S9 9 ∧ gI S9 9 ≤ gI S9 7 ∧ gI S9 7 ≤ 1600 ∧ (gI S9 8 < gI S9 7 → gI S9 8 < gI S9 9) ∧ 0 ≤ gI S9 6 ∧ gI S9 6 ≤ 60 ∧ (gI S9 10 < 0 → 1 ≤ gI S9 6) ∧ (∀ k, 0 ≤ k → k < gI S9 6 → 2 ≤ gA S9 5 (4 * k) → gA S9 5 (4 * k) ≤ 4 → 0 ≤ gA S9 5 (4 * k + 1)) ∧ (∀ k, k ≠ 2 → k ≠ 6 → k ≠ 7 → k ≠ 8 → k ≠ 9 → k ≠ 10 → gI S9 k = gI S k) ∧ (∀ k, gJ S9 k = gJ S k) ∧ (∀ k i, k ≠ 5 → gA S9 k i = gA S k i) ∧ (∀ k i, gL S9 k i = gL S k i)) ∧ S9 = G_read S ) (mB D cs o ad A) A) ([.ref o] : List Value).toArray s 0 0 A) (F0 m 36 ls []) := by
    intro N36
    induction N36 with
    | zero => intro  SL36 H locs ls hi36 hm36; exact absurd hm36 (Nat.not_lt_zero _)
    | succ N36 ih36 =>
      intro  SL36 H locs ls hi36 hm36 hG V hS hl
      rw [G_read_L36] at hG
      obtain ⟨i0, i1, i2, i3, i4, i5, i6, i7, i8, i9, -⟩ := id hi36
      refine lv_aload_n hx hb dX13_read_36 rfl (lv_at hl 0 rfl) ?_
      refine mG10 C V dX13_read_37 ?_
      refine lv_if_ge (tgt := 87) hx hb dX13_read_40 (by decide) (fun c12 => ?_) (fun c12 => ?_)
      · replace hG := gIf_p hG c12
        exact mRetV C hr hlk V hS (⟨hi36, hG.symm⟩) dX13_read_87
      · replace hG := gIf_n hG c12
        have hf : gI SL36 10 < 0 := by clear hG hi36; grind
        refine lv_aload_n hx hb dX13_read_43 rfl (lv_at hl 0 rfl) ?_
        refine mG8 C V dX13_read_44 ?_
        refine lv_aload_n hx hb dX13_read_47 rfl (lv_at hl 0 rfl) ?_
        refine mG7 C V dX13_read_48 ?_
        refine lv_icmp_ge (tgt := 87) hx hb dX13_read_51 (by decide) (fun c13 => ?_) (fun c13 => ?_)
        · replace hG := gIf_p hG c13
          exact mRetV C hr hlk V hS (⟨hi36, hG.symm⟩) dX13_read_87
        · replace hG := gIf_n hG c13
          refine lv_aload_n hx hb dX13_read_54 rfl (lv_at hl 0 rfl) ?_
          refine mG1 C V dX13_read_55 ?_
          refine lv_aload_n hx hb dX13_read_58 rfl (lv_at hl 0 rfl) ?_
          refine mG8 C V dX13_read_59 ?_
          refine mLd1 C V (vin (N := 1600) rfl (by clear hG V hS hl C hts hown hx hb hml hr hlk ih36 hm36; clear hi36; grind) (by clear hG V hS hl C hts hown hx hb hml hr hlk ih36 hm36; clear hi36; grind)) dX13_read_62 ?_
          refine lv_bipush (v := 59) hx hb dX13_read_63 (by decide) ?_
          refine lv_icmp_eq (tgt := 76) hx hb dX13_read_65 (by decide) (fun c14 => ?_) (fun c14 => ?_)
          · replace hG := gIf_p hG c14
            refine lv_aload_n hx hb dX13_read_76 rfl (lv_at hl 0 rfl) ?_
            refine mGoV (mRunV (As := []) (rest := []) C hml V (c_next l D cs o ad A SL36   (by clear hG V hS hl C hts hown hx hb hml hr hlk ih36 hm36; clear hi36; grind)) gM_next okM_next ⟨rfl, rfl, Nat.le_of_ble_eq_true rfl, Nat.le_of_ble_eq_true rfl⟩ hl.1 rfl (Nat.le_of_ble_eq_true rfl) dX13_read_77 ⟨Nat.zero_le _, Nat.zero_le _⟩) hS (fun S15 H locs hq17 V hS => ?_)
            obtain ⟨hq17, ghq17⟩ := hq17
            replace hG := gLt_e hG ghq17
            obtain ⟨m1, m2, m3, m4, m5, m6, m7, m8, m9, m10⟩ := id hq17
            refine lv_aload_n hx hb dX13_read_80 rfl (lv_at hl 0 rfl) ?_
            refine mGoV (mRunV (As := []) (rest := []) C hml V (c_line l D cs o ad A S15   (⟨m1, m2, m3, m4, m5⟩) (by clear hG V hS hl C hts hown hx hb hml hr hlk ih36 hm36; rw [m7 6 (by decide) (by decide)]; exact ⟨i6, i7⟩) (by clear hG V hS hl C hts hown hx hb hml hr hlk ih36 hm36; rw [m7 6 (by decide) (by decide)]; intro k; rw [m9, m9]; exact i9 k)) gM_line okM_line ⟨rfl, rfl, Nat.le_of_ble_eq_true rfl, Nat.le_of_ble_eq_true rfl⟩ hl.1 rfl (Nat.le_of_ble_eq_true rfl) dX13_read_81 ⟨Nat.zero_le _, Nat.zero_le _⟩) hS (fun S18 H locs hq20 V hS => ?_)
            obtain ⟨hq20, ghq20⟩ := hq20
            replace hG := gLt_e hG ghq20
            have q8 : gI SL36 8 < gI S18 8 := by have q := hq20.2.2.2.2.2.1; clear m7 m8 m9 m10 hi36; grind
            have q7 : gI S18 7 = gI SL36 7 := by have q := hq20.2.2.2.2.2.2.2.2.2.2.1 7 (by decide) (by decide) (by decide) (by decide); rw [q]; exact m7 7 (by decide) (by decide)
            have q0 : gI S18 8 ≤ gI S18 7 := by have q := hq20.2.1; have r := hq20.2.2.1; clear m7 m8 m9 m10 hi36; grind
            clear m1 m2 m3 m4 m5 m6 m7 m8 m9 m10
            obtain ⟨m0, m1⟩ := rd_m (y := gI S18 10) hf q7 q8 q0 i1 i4
            refine lv_goto (tgt := 36) hx hb dX13_read_84 (by decide) ?_
            exact ih36  S18 _ _ _ (by clear hG V hS hl C hts hown hx hb hml hr hlk ih36 hm36; first | exact rd_step hi36 hq17 hq20 | exact rd_wrong hi36 (by grind) w9) (msd hm36 m0 m1) hG V hS (lv_sub hl [0] rfl)
          · replace hG := gIf_n hG c14
            refine lv_aload_n hx hb dX13_read_68 rfl (lv_at hl 0 rfl) ?_
            refine mGoI (mRunV (As := []) (rest := []) C hml V (c_wrong l D cs o ad A SL36   ) gM_wrong okM_wrong ⟨rfl, rfl, Nat.le_of_ble_eq_true rfl, Nat.le_of_ble_eq_true rfl⟩ hl.1 rfl (Nat.le_of_ble_eq_true rfl) dX13_read_69 ⟨Nat.zero_le _, Nat.zero_le _⟩) hS (fun r22 S21 H locs hq23 V hS => ?_)
            obtain ⟨hq23, ghq23⟩ := hq23
            replace hG := gC_e hG ghq23
            have w9 : S21 = sI SL36 10 (gI SL36 8) := by rcases hq23.2 with q | q; exact q.2; exact absurd hf q.1
            have m0 : (0 : Int32) ≤ (if gI S21 10 < 0 then gI S21 7 - gI S21 8 + 1 else 0) := by rw [w9, gI_sI, if_pos rfl, if_neg (by clear hG hi36 w9; grind)]; decide
            have m1 : (if gI S21 10 < 0 then gI S21 7 - gI S21 8 + 1 else 0) < (if gI SL36 10 < 0 then gI SL36 7 - gI SL36 8 + 1 else 0) := by rw [w9, gI_sI, if_pos rfl, if_neg (by clear hG hi36 w9; grind), if_pos hf]; clear hi36 w9; grind
            refine lv_pop hx hb dX13_read_72 rfl ?_
            refine lv_goto (tgt := 36) hx hb dX13_read_73 (by decide) ?_
            exact ih36  S21 _ _ _ (by clear hG V hS hl C hts hown hx hb hml hr hlk ih36 hm36; first | exact rd_step hi36 nope9 nope9 | exact rd_wrong hi36 (by grind) w9) (msd hm36 m0 m1) hG V hS (lv_sub hl [0] rfl)
  exact loop36 ((if gI S9 10 < 0 then gI S9 7 - gI S9 8 + 1 else 0).toInt.toNat + 1)  S9 _ _ _ (rd_first n2 n6 n0 nJ nA nL hq8 hq11) (Nat.lt_succ_self _) hG V hS (lv_sub hl [0] rfl)

theorem th_r {S S1 : mS} (h : mInv S) (hr : gI S1 2 = 0 ∧ 0 ≤ gI S1 8 ∧ gI S1 8 ≤ gI S1 9 ∧ gI S1 9 ≤ gI S1 7 ∧ gI S1 7 ≤ 1600 ∧ (gI S1 8 < gI S1 7 → gI S1 8 < gI S1 9) ∧ 0 ≤ gI S1 6 ∧ gI S1 6 ≤ 60 ∧ (gI S1 10 < 0 → 1 ≤ gI S1 6) ∧ (∀ k, 0 ≤ k → k < gI S1 6 → 2 ≤ gA S1 5 (4 * k) → gA S1 5 (4 * k) ≤ 4 → 0 ≤ gA S1 5 (4 * k + 1)) ∧ (∀ k, k ≠ 2 → k ≠ 6 → k ≠ 7 → k ≠ 8 → k ≠ 9 → k ≠ 10 → gI S1 k = gI S k) ∧ (∀ k, gJ S1 k = gJ S k) ∧ (∀ k i, k ≠ 5 → gA S1 k i = gA S k i) ∧ (∀ k i, gL S1 k i = gL S k i)) : mInv S1 := by
  obtain ⟨r0, -, -, -, -, -, -, -, -, -, r10, -, r12, -⟩ := hr
  refine mInv_sm h ?_ (fun k i hk => r12 k i (by rcases hk with rfl | rfl | rfl | rfl | rfl | rfl | rfl | rfl | rfl | rfl | rfl | rfl | rfl | rfl | rfl <;> decide))
  unfold iT; rw [r0, r10 26 (by decide) (by decide) (by decide) (by decide) (by decide) (by decide)]
  exact ⟨by decide, by decide, h.1.2.2⟩
/-- while a program is copied to the lines of t -/
def cpI (S0 SL : mS) (t i : Int32) : Prop := (∀ k, gI SL k = gI S0 k) ∧ (∀ k q, k ≠ 11 → gA SL k q = gA S0 k q) ∧ (∀ q, (q < 240 * t ∨ 240 * t + 240 ≤ q) → gA SL 11 q = gA S0 11 q) ∧ (∀ q, 0 ≤ q → q < i → gA SL 11 (240 * t + q) = gA S0 5 q)
theorem cp_n {S0 SL S1 : mS} {t i j n : Int32} (ht : 0 ≤ t ∧ t < 8) (hi : 0 ≤ i ∧ i < n ∧ n ≤ 240) (e : j = i + 1) (h : cpI S0 SL t i) (e1 : S1 = sA SL 11 (240 * t + i) (gA SL 5 i)) : cpI S0 S1 t j := by
  obtain ⟨h1, h2, h3, h4⟩ := h
  refine ⟨fun k => by rw [e1]; exact h1 k, fun k q hk => by rw [e1, gA_sA, if_neg hk]; exact h2 k q hk, fun q hq => ?_, fun q q0 q1 => ?_⟩
  · rw [e1, gA_sA, if_pos rfl, if_neg (by clear h1 h2 h3 h4 e1; grind)]; exact h3 q hq
  · rw [e1, gA_sA, if_pos rfl]
    by_cases hq : q = i
    · subst hq; rw [if_pos rfl]; exact h2 5 q (by decide)
    · rw [if_neg (by clear h1 h2 h3 h4 e1; grind)]; exact h4 q q0 (by clear h1 h2 h3 h4 e1; grind)
theorem a_240 {t i n : Int32} (ht : 0 ≤ t ∧ t < 8) (h0 : 0 ≤ i) (h1 : i < n) (hn : n ≤ 240) : (0 ≤ 240 * t + i ∧ 240 * t + i < 1920) ∧ (0 ≤ i ∧ i < 240) := by grind
theorem a_4p {p : Int32} (h : 0 ≤ p ∧ p ≤ 60) : 0 ≤ 4 * p ∧ 4 * p ≤ 240 := by grind
theorem a_out2 {t u q : Int32} (ht : 0 ≤ t ∧ t < 8) (hu : 0 ≤ u ∧ u < 8) (hq : 0 ≤ q ∧ q < 240) (hne : u ≠ t) : 240 * u + q < 240 * t ∨ 240 * t + 240 ≤ 240 * u + q := by
  rcases (show u < t ∨ t < u by grind) with h | h
  · left; have h2 : u + 1 ≤ t := by grind
    grind
  · right; have h2 : t + 1 ≤ u := by grind
    grind
theorem th_new {S SL S1 S2 S3 S4 S5 S6 S7 S8 S9 : mS} {t i : Int32} (h : mInv S) (ht : 0 ≤ t ∧ t < 8) (hv : ¬ (1 ≤ gA S 13 t ∧ gA S 13 t ≤ 3)) (hp : 1 ≤ gI S 6 ∧ gI S 6 ≤ 60) (po : (∀ k, 0 ≤ k → k < gI S 6 → 2 ≤ gA S 5 (4 * k) → gA S 5 (4 * k) ≤ 4 → 0 ≤ gA S 5 (4 * k + 1))) (hc : cpI S SL t i) (hi : 4 * gI S 6 ≤ i)
    (e1 : S1 = sA SL 12 t (gI SL 6)) (e2 : S2 = sA S1 13 t 1) (e3 : S3 = sA S2 14 t 0) (e4 : S4 = sA S3 15 t 0) (e5 : S5 = sA S4 16 t (-1)) (e6 : S6 = sA S5 17 t 0) (e7 : S7 = sA S6 20 t 0) (e8 : S8 = sA S7 21 t 0) (e9 : S9 = sA S8 22 t 0) : mInv S9 ∧ gI S9 2 = gI S 2 := by
  obtain ⟨c1, c2, c3, c4⟩ := hc
  have hI : ∀ k, gI S9 k = gI S k := fun k => by rw [e9, e8, e7, e6, e5, e4, e3, e2, e1]; exact c1 k
  have e11 : ∀ q, gA S9 11 q = gA SL 11 q := fun q => by rw [e9, e8, e7, e6, e5, e4, e3, e2, e1]; simp [gA_sA]
  have eo : ∀ k q, k ≠ 11 → k ≠ 12 → k ≠ 13 → k ≠ 14 → k ≠ 15 → k ≠ 16 → k ≠ 17 → k ≠ 20 → k ≠ 21 → k ≠ 22 → gA S9 k q = gA S k q := fun k q a0 a1 a2 a3 a4 a5 a6 a7 a8 a9 => by rw [← c2 k q a0, e9, e8, e7, e6, e5, e4, e3, e2, e1]; simp [gA_sA, a1, a2, a3, a4, a5, a6, a7, a8, a9]
  have eu : ∀ k u, k ≠ 11 → u ≠ t → gA S9 k u = gA S k u := fun k u hk hu => by rw [← c2 k u hk, e9, e8, e7, e6, e5, e4, e3, e2, e1]; simp [gA_sA, hu]
  have t12 : gA S9 12 t = gI S 6 := by rw [← c1 6, e9, e8, e7, e6, e5, e4, e3, e2, e1]; simp [gA_sA]
  have t13 : gA S9 13 t = 1 := by rw [e9, e8, e7, e6, e5, e4, e3, e2]; simp [gA_sA]
  have t15 : gA S9 15 t = 0 := by rw [e9, e8, e7, e6, e5, e4]; simp [gA_sA]
  have t21 : gA S9 21 t = 0 := by rw [e9, e8]; simp [gA_sA]
  have n1 : ¬ gA S 13 t = 1 := fun q => hv (by rw [q]; decide)
  have n2 : ¬ gA S 13 t = 2 := fun q => hv (by rw [q]; decide)
  refine ⟨mInv_loc h (iT_of h hI) ht (slp h n1 n2) (n21 h ht n2) t21 (fun k q hk => by rcases hk with rfl | rfl | rfl | rfl | rfl | rfl | rfl | rfl <;> exact eo _ q (by decide) (by decide) (by decide) (by decide) (by decide) (by decide) (by decide) (by decide) (by decide) (by decide)) (fun k u hk hu => eu k u (by rcases hk with rfl | rfl | rfl | rfl | rfl | rfl <;> decide) hu) ?_ ?_ ?_ ?_, hI 2⟩
  · intro u q u0 u1 q0 q1 hu
    rw [e11]; exact c3 _ (a_out2 ht ⟨u0, u1⟩ ⟨q0, q1⟩ hu)
  · intro _ _; rw [t12, t15]; clear po c1 c2 c3 c4 eo eu e11 h; grind
  · intro q; rw [t13] at q; exact absurd q (by decide)
  · intro k k0 k1 k2
    rw [t12] at k2
    have g1 : gA S9 11 (240 * t + 4 * k) = gA S 5 (4 * k) := by rw [e11]; exact c4 _ (by clear po c1 c2 c3 c4 eo eu e11 h; grind) (by clear po c1 c2 c3 c4 eo eu e11 h; grind)
    have g2 : gA S9 11 (240 * t + 4 * k + 1) = gA S 5 (4 * k + 1) := by
      rw [e11, show 240 * t + 4 * k + 1 = 240 * t + (4 * k + 1) from Int32.add_assoc _ _ _]
      exact c4 _ (by clear po c1 c2 c3 c4 eo eu e11 h g1; grind) (by clear po c1 c2 c3 c4 eo eu e11 h g1; grind)
    rw [g1, g2]; exact po k k0 k2

theorem a_t8 {x : Int32} (h : 0 ≤ x ∧ x ≤ 8) (hc : ¬ x = 8) : 0 ≤ x ∧ x < 8 := by grind
theorem a_e8 {x : Int32} (h1 : x ≤ 8) (h : 8 ≤ x) : x = 8 := by grind

def G_thread_L72 (v27_1 : Int32) : Nat → Int32 → mS → Int32 × mS
  | 0, v72_2, SL72 => ((0 : Int32), SL72)
  | N72 + 1, v72_2, SL72 => if (4 * (gI SL72 6)) ≤ (v72_2 : Int32) then (gLt (sA SL72 12 v27_1 ((gI SL72 6)) : mS) (fun S12 => gLt (sA S12 13 v27_1 (1) : mS) (fun S13 => gLt (sA S13 14 v27_1 (0) : mS) (fun S14 => gLt (sA S14 15 v27_1 (0) : mS) (fun S15 => gLt (sA S15 16 v27_1 ((-1)) : mS) (fun S16 => gLt (sA S16 17 v27_1 (0) : mS) (fun S17 => gLt (sA S17 20 v27_1 (vp_nar .boolean 0) : mS) (fun S18 => gLt (sA S18 21 v27_1 (vp_nar .boolean 0) : mS) (fun S19 => gLt (sA S19 22 v27_1 (vp_nar .boolean 0) : mS) (fun S20 => ((v27_1 : Int32), S20))))))))))) else (gLt (sA SL72 11 ((240 * v27_1) + v72_2) ((gA SL72 5 v72_2)) : mS) (fun S21 => gLt (v72_2 + (1) : Int32) (fun x22 => G_thread_L72 v27_1 N72 x22 S21)))
def G_thread_L27 (S4 : mS) : Nat → Int32 → Int32 × mS
  | 0, v27_1 => ((0 : Int32), S4)
  | N27 + 1, v27_1 => if 8 ≤ (v27_1 : Int32) then (if (v27_1 : Int32) = 8 then (gC (G_refuse S4 1) (fun r24 S23 => ((r24 : Int32), S23))) else (gLt (sI S4 0 0 : mS) (fun S9 => gLt (0 : Int32) (fun x10 => G_thread_L72 v27_1 ((4 * gI S9 6 - x10).toInt.toNat + 1) x10 S9)))) else (gLt (G_in S4 (gA S4 13 v27_1) 1 3 : Int32) (fun r27 => if (r27 : Int32) = 0 then (if (v27_1 : Int32) = 8 then (gC (G_refuse S4 1) (fun r46 S45 => ((r46 : Int32), S45))) else (gLt (sI S4 0 0 : mS) (fun S31 => gLt (0 : Int32) (fun x32 => G_thread_L72 v27_1 ((4 * gI S31 6 - x32).toInt.toNat + 1) x32 S31)))) else (gLt (v27_1 + (1) : Int32) (fun x48 => G_thread_L27 S4 N27 x48 ))))
def G_thread (S : mS)  : Int32 × mS := gLt (G_read S  : mS) (fun S1 => gLt (sI S1 3 (gI S1 10) : mS) (fun S4 => if ((gI S4 10) : Int32) < 0 then (gLt (0 : Int32) (fun x6 => G_thread_L27 S4 ((8 - x6).toInt.toNat + 1) x6 )) else (gC (G_refuse S4 2) (fun r50 S49 => ((r50 : Int32), S49)))))
set_option maxHeartbeats 400000 in
set_option maxRecDepth 100000 in
theorem c_thread (l : Launch) (D : va_G) (cs : ClassId × ClassId × ClassId) (o : Nat) (ad : Nat → Nat) (A : Nat → Prop) (S : mS)   (h1 : mInv S) : Met l yX13_thread (Cond.code yX13_thread cX13_thread 3 (some .int) :: tM) ({ frames := 5, cells := 0, slots := 0, locals := 112 }) (va_Pc [.ref o] (mB D cs o ad A S)) (va_Qi (fun r9 S9 => (mInv S9 ∧ gI S9 2 = 0) ∧ (r9, S9) = G_thread S ) (mB D cs o ad A) A) 0 0 A := by
  refine mMet (by decide) rfl (Nat.le_of_ble_eq_true rfl) ?_
  intro p e s m below meth c ls C hml hr hlk V hl
  have hx := C.1
  have hb := C.2.1
  have hown := C.2.2.1
  have hts := C.2.2.2.1
  have hS : va_S A s.heap s.heap [] := va_S.rf
  have hl : lv_has ls 3 [(0, .ref o)] := hl
  have hG := G_thread.eq_1 S 
  refine lv_aload_n hx hb dX13_thread_0 rfl (lv_at hl 0 rfl) ?_
  refine mGoV (mRunV (As := []) (rest := []) C hml V (c_read l D cs o ad A S   (⟨h1.1.1, h1.1.2.1⟩)) gM_read okM_read ⟨rfl, rfl, Nat.le_of_ble_eq_true rfl, Nat.le_of_ble_eq_true rfl⟩ hl.1 rfl (Nat.le_of_ble_eq_true rfl) dX13_thread_1 ⟨Nat.zero_le _, Nat.zero_le _⟩) hS (fun S1 H locs hq3 V hS => ?_)
  obtain ⟨hq3, ghq3⟩ := hq3
  replace hG := gLt_e hG ghq3
  have m1 := th_r h1 hq3
  have g1 : gI S1 2 = 0 := hq3.1
  refine lv_aload_n hx hb dX13_thread_4 rfl (lv_at hl 0 rfl) ?_
  refine lv_aload_n hx hb dX13_thread_5 rfl (lv_at hl 0 rfl) ?_
  refine mG10 C V dX13_thread_6 ?_
  refine mP3 C V hS dX13_thread_9 (fun S4 H locs eS4 V hS => ?_)
  replace hG := gLt_e hG eS4
  have p2 := pb_I m1 eS4 (by decide) (by decide)
  have g2 : gI S4 2 = 0 := p2.2.trans g1
  refine lv_aload_n hx hb dX13_thread_12 rfl (lv_at hl 0 rfl) ?_
  refine mG10 C V dX13_thread_13 ?_
  refine lv_if_lt (tgt := 25) hx hb dX13_thread_16 (by decide) (fun c5 => ?_) (fun c5 => ?_)
  · replace hG := gIf_p hG c5
    have pl : 1 ≤ gI S4 6 ∧ gI S4 6 ≤ 60 := by rw [eS4]; exact ⟨hq3.2.2.2.2.2.2.2.2.1 (by have z9 := c5; rw [eS4] at z9; exact z9), hq3.2.2.2.2.2.2.2.1⟩
    have po : (∀ k, 0 ≤ k → k < gI S4 6 → 2 ≤ gA S4 5 (4 * k) → gA S4 5 (4 * k) ≤ 4 → 0 ≤ gA S4 5 (4 * k + 1)) := by rw [eS4]; exact hq3.2.2.2.2.2.2.2.2.2.1
    refine lv_iconst (v := 0) hx hb dX13_thread_25 (by decide) ?_
    refine lv_topi (fun x6 ex6 => ?_)
    replace hG := gLt_e hG ex6
    refine lv_istore_n (lv' := [(1, .int x6), (0, .ref o)]) hx hb dX13_thread_26 rfl hl (by decide) rfl (fun ls hl => ?_)
    have loop27 : ∀ (N27 : Nat) (v27_1 : Int32)  (H : Heap) (locs : List Loc) (ls : Array Slot), (0 ≤ v27_1 ∧ v27_1 ≤ 8) → ((8 - v27_1).toInt.toNat) < N27 → (G_thread S  = G_thread_L27 S4 N27 v27_1) → mV D cs o ad A S4 H → va_S A s.heap H locs → lv_has ls 3 [(0, .ref o), (1, .int v27_1)] → W p l e ({ frames := 5, cells := 0, slots := 0, locals := 112 } : Room) s m ([.ref o] : List Value).toArray below meth c H locs 0 0 (MQ below (va_Qi (fun r9 S9 => (mInv S9 ∧ gI S9 2 = 0) ∧ (r9, S9) = G_thread S ) (mB D cs o ad A) A) ([.ref o] : List Value).toArray s 0 0 A) (F0 m 27 ls []) := by
      intro N27
      induction N27 with
      | zero => intro v27_1  H locs ls hi27 hm27; exact absurd hm27 (Nat.not_lt_zero _)
      | succ N27 ih27 =>
        intro v27_1  H locs ls hi27 hm27 hG V hS hl
        rw [G_thread_L27] at hG
        refine lv_iload_n hx hb dX13_thread_27 rfl (lv_at hl 1 rfl) ?_
        refine lv_bipush (v := 8) hx hb dX13_thread_28 (by decide) ?_
        refine lv_icmp_ge (tgt := 53) hx hb dX13_thread_30 (by decide) (fun c7 => ?_) (fun c7 => ?_)
        · replace hG := gIf_p hG c7
          refine lv_iload_n hx hb dX13_thread_53 rfl (lv_at hl 1 rfl) ?_
          refine lv_bipush (v := 8) hx hb dX13_thread_54 (by decide) ?_
          refine lv_icmp_ne (tgt := 65) hx hb dX13_thread_56 (by decide) (fun c8 => ?_) (fun c8 => ?_)
          · replace hG := gIf_n hG c8
            refine lv_aload_n hx hb dX13_thread_65 rfl (lv_at hl 0 rfl) ?_
            refine lv_iconst (v := 0) hx hb dX13_thread_66 (by decide) ?_
            refine mP0 C V hS dX13_thread_67 (fun S9 H locs eS9 V hS => ?_)
            replace hG := gLt_e hG eS9
            have p3 := pb_I p2.1 eS9 (by decide) (by decide)
            have ht : 0 ≤ v27_1 ∧ v27_1 < 8 := a_t8 hi27 c8
            have hv : ¬ (1 ≤ gA S9 13 v27_1 ∧ gA S9 13 v27_1 ≤ 3) := by rw [eS9]; first | exact in_g nope9 nope9 | exact absurd (a_e8 hi27.2 c7) c8
            have p4 : 0 ≤ 4 * gI S9 6 ∧ 4 * gI S9 6 ≤ 240 := by rw [eS9]; exact a_4p ⟨Int32.le_trans (by decide) pl.1, pl.2⟩
            have pl3 : 1 ≤ gI S9 6 ∧ gI S9 6 ≤ 60 := by rw [eS9]; exact pl
            have po3 : (∀ k, 0 ≤ k → k < gI S9 6 → 2 ≤ gA S9 5 (4 * k) → gA S9 5 (4 * k) ≤ 4 → 0 ≤ gA S9 5 (4 * k + 1)) := by rw [eS9]; exact po
            refine lv_iconst (v := 0) hx hb dX13_thread_70 (by decide) ?_
            refine lv_topi (fun x10 ex10 => ?_)
            replace hG := gLt_e hG ex10
            refine lv_istore_n (lv' := [(2, .int x10), (0, .ref o), (1, .int v27_1)]) hx hb dX13_thread_71 rfl hl (by decide) rfl (fun ls hl => ?_)
            have loop72 : ∀ (N72 : Nat) (v72_2 : Int32) (SL72 : mS) (H : Heap) (locs : List Loc) (ls : Array Slot), (cpI S9 SL72 v27_1 v72_2 ∧ 0 ≤ v72_2) → ((4 * gI S9 6 - v72_2).toInt.toNat) < N72 → (G_thread S  = G_thread_L72 v27_1 N72 v72_2 SL72) → mV D cs o ad A SL72 H → va_S A s.heap H locs → lv_has ls 3 [(0, .ref o), (1, .int v27_1), (2, .int v72_2)] → W p l e ({ frames := 5, cells := 0, slots := 0, locals := 112 } : Room) s m ([.ref o] : List Value).toArray below meth c H locs 0 0 (MQ below (va_Qi (fun r9 S9 => (mInv S9 ∧ gI S9 2 = 0) ∧ (r9, S9) = G_thread S ) (mB D cs o ad A) A) ([.ref o] : List Value).toArray s 0 0 A) (F0 m 72 ls []) := by
              intro N72
              induction N72 with
              | zero => intro v72_2 SL72 H locs ls hi72 hm72; exact absurd hm72 (Nat.not_lt_zero _)
              | succ N72 ih72 =>
                intro v72_2 SL72 H locs ls hi72 hm72 hG V hS hl
                rw [G_thread_L72] at hG
                have k6 := hi72.1.1 6
                refine lv_iload_n hx hb dX13_thread_72 rfl (lv_at hl 2 rfl) ?_
                refine lv_iconst (v := 4) hx hb dX13_thread_73 (by decide) ?_
                refine lv_aload_n hx hb dX13_thread_74 rfl (lv_at hl 0 rfl) ?_
                refine mG6 C V dX13_thread_75 ?_
                refine lv_imul hx hb dX13_thread_78 ?_
                refine lv_icmp_ge (tgt := 106) hx hb dX13_thread_79 (by decide) (fun c11 => ?_) (fun c11 => ?_)
                · replace hG := gIf_p hG c11
                  refine lv_aload_n hx hb dX13_thread_106 rfl (lv_at hl 0 rfl) ?_
                  refine mG12 C V dX13_thread_107 ?_
                  refine lv_iload_n hx hb dX13_thread_110 rfl (lv_at hl 1 rfl) ?_
                  refine lv_aload_n hx hb dX13_thread_111 rfl (lv_at hl 0 rfl) ?_
                  refine mG6 C V dX13_thread_112 ?_
                  refine mSt12 C V hS (vin (N := 8) rfl (ht.1) (ht.2)) dX13_thread_115 (fun S12 H locs eS12 V hS => ?_)
                  replace hG := gLt_e hG eS12
                  refine lv_aload_n hx hb dX13_thread_116 rfl (lv_at hl 0 rfl) ?_
                  refine mG13 C V dX13_thread_117 ?_
                  refine lv_iload_n hx hb dX13_thread_120 rfl (lv_at hl 1 rfl) ?_
                  refine lv_iconst (v := 1) hx hb dX13_thread_121 (by decide) ?_
                  refine mSt13 C V hS (vin (N := 8) rfl (ht.1) (ht.2)) dX13_thread_122 (fun S13 H locs eS13 V hS => ?_)
                  replace hG := gLt_e hG eS13
                  refine lv_aload_n hx hb dX13_thread_123 rfl (lv_at hl 0 rfl) ?_
                  refine mG14 C V dX13_thread_124 ?_
                  refine lv_iload_n hx hb dX13_thread_127 rfl (lv_at hl 1 rfl) ?_
                  refine lv_iconst (v := 0) hx hb dX13_thread_128 (by decide) ?_
                  refine mSt14 C V hS (vin (N := 8) rfl (ht.1) (ht.2)) dX13_thread_129 (fun S14 H locs eS14 V hS => ?_)
                  replace hG := gLt_e hG eS14
                  refine lv_aload_n hx hb dX13_thread_130 rfl (lv_at hl 0 rfl) ?_
                  refine mG15 C V dX13_thread_131 ?_
                  refine lv_iload_n hx hb dX13_thread_134 rfl (lv_at hl 1 rfl) ?_
                  refine lv_iconst (v := 0) hx hb dX13_thread_135 (by decide) ?_
                  refine mSt15 C V hS (vin (N := 8) rfl (ht.1) (ht.2)) dX13_thread_136 (fun S15 H locs eS15 V hS => ?_)
                  replace hG := gLt_e hG eS15
                  refine lv_aload_n hx hb dX13_thread_137 rfl (lv_at hl 0 rfl) ?_
                  refine mG16 C V dX13_thread_138 ?_
                  refine lv_iload_n hx hb dX13_thread_141 rfl (lv_at hl 1 rfl) ?_
                  refine lv_iconst (v := (-1)) hx hb dX13_thread_142 (by decide) ?_
                  refine mSt16 C V hS (vin (N := 8) rfl (ht.1) (ht.2)) dX13_thread_143 (fun S16 H locs eS16 V hS => ?_)
                  replace hG := gLt_e hG eS16
                  refine lv_aload_n hx hb dX13_thread_144 rfl (lv_at hl 0 rfl) ?_
                  refine mG17 C V dX13_thread_145 ?_
                  refine lv_iload_n hx hb dX13_thread_148 rfl (lv_at hl 1 rfl) ?_
                  refine lv_iconst (v := 0) hx hb dX13_thread_149 (by decide) ?_
                  refine mSt17 C V hS (vin (N := 8) rfl (ht.1) (ht.2)) dX13_thread_150 (fun S17 H locs eS17 V hS => ?_)
                  replace hG := gLt_e hG eS17
                  refine lv_aload_n hx hb dX13_thread_151 rfl (lv_at hl 0 rfl) ?_
                  refine mG20 C V dX13_thread_152 ?_
                  refine lv_iload_n hx hb dX13_thread_155 rfl (lv_at hl 1 rfl) ?_
                  refine lv_iconst (v := 0) hx hb dX13_thread_156 (by decide) ?_
                  refine mSt20 C V hS (vin (N := 8) rfl (ht.1) (ht.2)) dX13_thread_157 (fun S18 H locs eS18 V hS => ?_)
                  replace hG := gLt_e hG eS18
                  refine lv_aload_n hx hb dX13_thread_158 rfl (lv_at hl 0 rfl) ?_
                  refine mG21 C V dX13_thread_159 ?_
                  refine lv_iload_n hx hb dX13_thread_162 rfl (lv_at hl 1 rfl) ?_
                  refine lv_iconst (v := 0) hx hb dX13_thread_163 (by decide) ?_
                  refine mSt21 C V hS (vin (N := 8) rfl (ht.1) (ht.2)) dX13_thread_164 (fun S19 H locs eS19 V hS => ?_)
                  replace hG := gLt_e hG eS19
                  refine lv_aload_n hx hb dX13_thread_165 rfl (lv_at hl 0 rfl) ?_
                  refine mG22 C V dX13_thread_166 ?_
                  refine lv_iload_n hx hb dX13_thread_169 rfl (lv_at hl 1 rfl) ?_
                  refine lv_iconst (v := 0) hx hb dX13_thread_170 (by decide) ?_
                  refine mSt22 C V hS (vin (N := 8) rfl (ht.1) (ht.2)) dX13_thread_171 (fun S20 H locs eS20 V hS => ?_)
                  replace hG := gLt_e hG eS20
                  refine lv_iload_n hx hb dX13_thread_172 rfl (lv_at hl 1 rfl) ?_
                  exact mRetI C hr hlk V hS (⟨by clear hG V hS hl C hts hown hx hb hml hr hlk ih27 ih72 hm27 hm72; have q9 := th_new p3.1 ht hv pl3 po3 hi72.1 (by have z9 := c11; rw [k6] at z9; exact z9) eS12 eS13 eS14 eS15 eS16 eS17 eS18 eS19 eS20; exact ⟨q9.1, q9.2.trans (p3.2.trans g2)⟩, hG.symm⟩) dX13_thread_173
                · replace hG := gIf_n hG c11
                  refine lv_aload_n hx hb dX13_thread_82 rfl (lv_at hl 0 rfl) ?_
                  refine mG11 C V dX13_thread_83 ?_
                  refine lv_sipush (v := 240) hx hb dX13_thread_86 (by decide) ?_
                  refine lv_iload_n hx hb dX13_thread_89 rfl (lv_at hl 1 rfl) ?_
                  refine lv_imul hx hb dX13_thread_90 ?_
                  refine lv_iload_n hx hb dX13_thread_91 rfl (lv_at hl 2 rfl) ?_
                  refine lv_iadd hx hb dX13_thread_92 ?_
                  refine lv_aload_n hx hb dX13_thread_93 rfl (lv_at hl 0 rfl) ?_
                  refine mG5 C V dX13_thread_94 ?_
                  refine lv_iload_n hx hb dX13_thread_97 rfl (lv_at hl 2 rfl) ?_
                  refine mLd5 C V (vin (N := 240) rfl ((a_240 ht hi72.2 (i_lt c11) (by clear hG V hS hl C hts hown hx hb hml hr hlk ih27 ih72 hm27 hm72; rw [k6]; exact p4.2)).2.1) ((a_240 ht hi72.2 (i_lt c11) (by clear hG V hS hl C hts hown hx hb hml hr hlk ih27 ih72 hm27 hm72; rw [k6]; exact p4.2)).2.2)) dX13_thread_98 ?_
                  refine mSt11 C V hS (vin (N := 1920) rfl ((a_240 ht hi72.2 (i_lt c11) (by clear hG V hS hl C hts hown hx hb hml hr hlk ih27 ih72 hm27 hm72; rw [k6]; exact p4.2)).1.1) ((a_240 ht hi72.2 (i_lt c11) (by clear hG V hS hl C hts hown hx hb hml hr hlk ih27 ih72 hm27 hm72; rw [k6]; exact p4.2)).1.2)) dX13_thread_99 (fun S21 H locs eS21 V hS => ?_)
                  replace hG := gLt_e hG eS21
                  obtain ⟨x22, ex22⟩ : ∃ y : Int32, y = v72_2 + (1) := ⟨_, rfl⟩
                  replace hG := gLt_e hG ex22
                  refine lv_iinc (v := x22) (lv' := [(2, .int x22), (0, .ref o), (1, .int v27_1)]) hx hb dX13_thread_100 hl (k := 2) rfl (by rw [ex22]; rfl) (by decide) rfl (fun ls hl => ?_)
                  refine lv_goto (tgt := 72) hx hb dX13_thread_103 (by decide) ?_
                  have lt9 := i_lt c11
                  rw [k6] at lt9
                  exact ih72 x22 S21 _ _ _ (⟨cp_n ht ⟨hi72.2, by have z9 := i_lt c11; rw [k6] at z9; exact z9, p4.2⟩ ex22 hi72.1 eS21, (a_up ex22 hi72.2 (i_lt c11)).1⟩) (msd hm72 (a_dec ex22 hi72.2 lt9).1 (a_dec ex22 hi72.2 lt9).2) hG V hS (lv_sub hl [1, 2, 0] rfl)
            exact loop72 ((4 * gI S9 6 - x10).toInt.toNat + 1) x10 S9 _ _ _ (⟨⟨fun _ => rfl, fun _ _ _ => rfl, fun _ _ => rfl, fun q9 z0 z1 => by rw [ex10] at z1; exact absurd (Int32.lt_of_le_of_lt z0 z1) (by clear hG V hS hl C hts hown hx hb hml hr hlk ih27 hm27; decide)⟩, by rw [ex10]; decide⟩) (Nat.lt_succ_self _) hG V hS (lv_sub hl [1, 2, 0] rfl)
          · replace hG := gIf_p hG c8
            refine lv_aload_n hx hb dX13_thread_59 rfl (lv_at hl 0 rfl) ?_
            refine lv_iconst (v := 1) hx hb dX13_thread_60 (by decide) ?_
            refine mGoI (mRunV (As := [.int 1]) (rest := []) C hml V (c_refuse l D cs o ad A S4 1  ) gM_refuse okM_refuse ⟨rfl, rfl, Nat.le_of_ble_eq_true rfl, Nat.le_of_ble_eq_true rfl⟩ hl.1 rfl (Nat.le_of_ble_eq_true rfl) dX13_thread_61 ⟨Nat.zero_le _, Nat.zero_le _⟩) hS (fun r24 S23 H locs hq25 V hS => ?_)
            obtain ⟨hq25, ghq25⟩ := hq25
            replace hG := gC_e hG ghq25
            exact mRetI C hr hlk V hS (⟨by clear hG V hS hl C hts hown hx hb hml hr hlk ih27 hm27; have q9 := pb_I p2.1 hq25.2 (by decide) (by decide); exact ⟨q9.1, q9.2.trans g2⟩, hG.symm⟩) dX13_thread_64
        · replace hG := gIf_n hG c7
          refine lv_aload_n hx hb dX13_thread_33 rfl (lv_at hl 0 rfl) ?_
          refine mG13 C V dX13_thread_34 ?_
          refine lv_iload_n hx hb dX13_thread_37 rfl (lv_at hl 1 rfl) ?_
          refine mLd13 C V (vin (N := 8) rfl (hi27.1) (i_lt c7)) dX13_thread_38 ?_
          refine lv_iconst (v := 1) hx hb dX13_thread_39 (by decide) ?_
          refine lv_iconst (v := 3) hx hb dX13_thread_40 (by decide) ?_
          refine mGoQ (mRunS (As := [.int (gA S4 13 v27_1), .int 1, .int 3]) (rest := []) C hml V (c_in l D cs o ad A S4 (gA S4 13 v27_1) 1 3  ) gM_in okM_in ⟨rfl, rfl, Nat.le_of_ble_eq_true rfl, Nat.le_of_ble_eq_true rfl⟩ hl.1 rfl (Nat.le_of_ble_eq_true rfl) dX13_thread_41 ⟨Nat.zero_le _, Nat.zero_le _⟩) hS (fun r27 H locs hq28 V hS => ?_)
          obtain ⟨hq28, ghq28⟩ := hq28
          replace hG := gLt_e hG ghq28
          refine lv_if_eq (tgt := 53) hx hb dX13_thread_44 (by decide) (fun c29 => ?_) (fun c29 => ?_)
          · replace hG := gIf_p hG c29
            refine lv_iload_n hx hb dX13_thread_53 rfl (lv_at hl 1 rfl) ?_
            refine lv_bipush (v := 8) hx hb dX13_thread_54 (by decide) ?_
            refine lv_icmp_ne (tgt := 65) hx hb dX13_thread_56 (by decide) (fun c30 => ?_) (fun c30 => ?_)
            · replace hG := gIf_n hG c30
              refine lv_aload_n hx hb dX13_thread_65 rfl (lv_at hl 0 rfl) ?_
              refine lv_iconst (v := 0) hx hb dX13_thread_66 (by decide) ?_
              refine mP0 C V hS dX13_thread_67 (fun S31 H locs eS31 V hS => ?_)
              replace hG := gLt_e hG eS31
              have p3 := pb_I p2.1 eS31 (by decide) (by decide)
              have ht : 0 ≤ v27_1 ∧ v27_1 < 8 := a_t8 hi27 c30
              have hv : ¬ (1 ≤ gA S31 13 v27_1 ∧ gA S31 13 v27_1 ≤ 3) := by rw [eS31]; first | exact in_g hq28 c29 | exact absurd (a_e8 hi27.2 c7) c30
              have p4 : 0 ≤ 4 * gI S31 6 ∧ 4 * gI S31 6 ≤ 240 := by rw [eS31]; exact a_4p ⟨Int32.le_trans (by decide) pl.1, pl.2⟩
              have pl3 : 1 ≤ gI S31 6 ∧ gI S31 6 ≤ 60 := by rw [eS31]; exact pl
              have po3 : (∀ k, 0 ≤ k → k < gI S31 6 → 2 ≤ gA S31 5 (4 * k) → gA S31 5 (4 * k) ≤ 4 → 0 ≤ gA S31 5 (4 * k + 1)) := by rw [eS31]; exact po
              refine lv_iconst (v := 0) hx hb dX13_thread_70 (by decide) ?_
              refine lv_topi (fun x32 ex32 => ?_)
              replace hG := gLt_e hG ex32
              refine lv_istore_n (lv' := [(2, .int x32), (0, .ref o), (1, .int v27_1)]) hx hb dX13_thread_71 rfl hl (by decide) rfl (fun ls hl => ?_)
              have loop72 : ∀ (N72 : Nat) (v72_2 : Int32) (SL72 : mS) (H : Heap) (locs : List Loc) (ls : Array Slot), (cpI S31 SL72 v27_1 v72_2 ∧ 0 ≤ v72_2) → ((4 * gI S31 6 - v72_2).toInt.toNat) < N72 → (G_thread S  = G_thread_L72 v27_1 N72 v72_2 SL72) → mV D cs o ad A SL72 H → va_S A s.heap H locs → lv_has ls 3 [(0, .ref o), (1, .int v27_1), (2, .int v72_2)] → W p l e ({ frames := 5, cells := 0, slots := 0, locals := 112 } : Room) s m ([.ref o] : List Value).toArray below meth c H locs 0 0 (MQ below (va_Qi (fun r9 S9 => (mInv S9 ∧ gI S9 2 = 0) ∧ (r9, S9) = G_thread S ) (mB D cs o ad A) A) ([.ref o] : List Value).toArray s 0 0 A) (F0 m 72 ls []) := by
                intro N72
                induction N72 with
                | zero => intro v72_2 SL72 H locs ls hi72 hm72; exact absurd hm72 (Nat.not_lt_zero _)
                | succ N72 ih72 =>
                  intro v72_2 SL72 H locs ls hi72 hm72 hG V hS hl
                  rw [G_thread_L72] at hG
                  have k6 := hi72.1.1 6
                  refine lv_iload_n hx hb dX13_thread_72 rfl (lv_at hl 2 rfl) ?_
                  refine lv_iconst (v := 4) hx hb dX13_thread_73 (by decide) ?_
                  refine lv_aload_n hx hb dX13_thread_74 rfl (lv_at hl 0 rfl) ?_
                  refine mG6 C V dX13_thread_75 ?_
                  refine lv_imul hx hb dX13_thread_78 ?_
                  refine lv_icmp_ge (tgt := 106) hx hb dX13_thread_79 (by decide) (fun c33 => ?_) (fun c33 => ?_)
                  · replace hG := gIf_p hG c33
                    refine lv_aload_n hx hb dX13_thread_106 rfl (lv_at hl 0 rfl) ?_
                    refine mG12 C V dX13_thread_107 ?_
                    refine lv_iload_n hx hb dX13_thread_110 rfl (lv_at hl 1 rfl) ?_
                    refine lv_aload_n hx hb dX13_thread_111 rfl (lv_at hl 0 rfl) ?_
                    refine mG6 C V dX13_thread_112 ?_
                    refine mSt12 C V hS (vin (N := 8) rfl (ht.1) (ht.2)) dX13_thread_115 (fun S34 H locs eS34 V hS => ?_)
                    replace hG := gLt_e hG eS34
                    refine lv_aload_n hx hb dX13_thread_116 rfl (lv_at hl 0 rfl) ?_
                    refine mG13 C V dX13_thread_117 ?_
                    refine lv_iload_n hx hb dX13_thread_120 rfl (lv_at hl 1 rfl) ?_
                    refine lv_iconst (v := 1) hx hb dX13_thread_121 (by decide) ?_
                    refine mSt13 C V hS (vin (N := 8) rfl (ht.1) (ht.2)) dX13_thread_122 (fun S35 H locs eS35 V hS => ?_)
                    replace hG := gLt_e hG eS35
                    refine lv_aload_n hx hb dX13_thread_123 rfl (lv_at hl 0 rfl) ?_
                    refine mG14 C V dX13_thread_124 ?_
                    refine lv_iload_n hx hb dX13_thread_127 rfl (lv_at hl 1 rfl) ?_
                    refine lv_iconst (v := 0) hx hb dX13_thread_128 (by decide) ?_
                    refine mSt14 C V hS (vin (N := 8) rfl (ht.1) (ht.2)) dX13_thread_129 (fun S36 H locs eS36 V hS => ?_)
                    replace hG := gLt_e hG eS36
                    refine lv_aload_n hx hb dX13_thread_130 rfl (lv_at hl 0 rfl) ?_
                    refine mG15 C V dX13_thread_131 ?_
                    refine lv_iload_n hx hb dX13_thread_134 rfl (lv_at hl 1 rfl) ?_
                    refine lv_iconst (v := 0) hx hb dX13_thread_135 (by decide) ?_
                    refine mSt15 C V hS (vin (N := 8) rfl (ht.1) (ht.2)) dX13_thread_136 (fun S37 H locs eS37 V hS => ?_)
                    replace hG := gLt_e hG eS37
                    refine lv_aload_n hx hb dX13_thread_137 rfl (lv_at hl 0 rfl) ?_
                    refine mG16 C V dX13_thread_138 ?_
                    refine lv_iload_n hx hb dX13_thread_141 rfl (lv_at hl 1 rfl) ?_
                    refine lv_iconst (v := (-1)) hx hb dX13_thread_142 (by decide) ?_
                    refine mSt16 C V hS (vin (N := 8) rfl (ht.1) (ht.2)) dX13_thread_143 (fun S38 H locs eS38 V hS => ?_)
                    replace hG := gLt_e hG eS38
                    refine lv_aload_n hx hb dX13_thread_144 rfl (lv_at hl 0 rfl) ?_
                    refine mG17 C V dX13_thread_145 ?_
                    refine lv_iload_n hx hb dX13_thread_148 rfl (lv_at hl 1 rfl) ?_
                    refine lv_iconst (v := 0) hx hb dX13_thread_149 (by decide) ?_
                    refine mSt17 C V hS (vin (N := 8) rfl (ht.1) (ht.2)) dX13_thread_150 (fun S39 H locs eS39 V hS => ?_)
                    replace hG := gLt_e hG eS39
                    refine lv_aload_n hx hb dX13_thread_151 rfl (lv_at hl 0 rfl) ?_
                    refine mG20 C V dX13_thread_152 ?_
                    refine lv_iload_n hx hb dX13_thread_155 rfl (lv_at hl 1 rfl) ?_
                    refine lv_iconst (v := 0) hx hb dX13_thread_156 (by decide) ?_
                    refine mSt20 C V hS (vin (N := 8) rfl (ht.1) (ht.2)) dX13_thread_157 (fun S40 H locs eS40 V hS => ?_)
                    replace hG := gLt_e hG eS40
                    refine lv_aload_n hx hb dX13_thread_158 rfl (lv_at hl 0 rfl) ?_
                    refine mG21 C V dX13_thread_159 ?_
                    refine lv_iload_n hx hb dX13_thread_162 rfl (lv_at hl 1 rfl) ?_
                    refine lv_iconst (v := 0) hx hb dX13_thread_163 (by decide) ?_
                    refine mSt21 C V hS (vin (N := 8) rfl (ht.1) (ht.2)) dX13_thread_164 (fun S41 H locs eS41 V hS => ?_)
                    replace hG := gLt_e hG eS41
                    refine lv_aload_n hx hb dX13_thread_165 rfl (lv_at hl 0 rfl) ?_
                    refine mG22 C V dX13_thread_166 ?_
                    refine lv_iload_n hx hb dX13_thread_169 rfl (lv_at hl 1 rfl) ?_
                    refine lv_iconst (v := 0) hx hb dX13_thread_170 (by decide) ?_
                    refine mSt22 C V hS (vin (N := 8) rfl (ht.1) (ht.2)) dX13_thread_171 (fun S42 H locs eS42 V hS => ?_)
                    replace hG := gLt_e hG eS42
                    refine lv_iload_n hx hb dX13_thread_172 rfl (lv_at hl 1 rfl) ?_
                    exact mRetI C hr hlk V hS (⟨by clear hG V hS hl C hts hown hx hb hml hr hlk ih27 ih72 hm27 hm72; have q9 := th_new p3.1 ht hv pl3 po3 hi72.1 (by have z9 := c33; rw [k6] at z9; exact z9) eS34 eS35 eS36 eS37 eS38 eS39 eS40 eS41 eS42; exact ⟨q9.1, q9.2.trans (p3.2.trans g2)⟩, hG.symm⟩) dX13_thread_173
                  · replace hG := gIf_n hG c33
                    refine lv_aload_n hx hb dX13_thread_82 rfl (lv_at hl 0 rfl) ?_
                    refine mG11 C V dX13_thread_83 ?_
                    refine lv_sipush (v := 240) hx hb dX13_thread_86 (by decide) ?_
                    refine lv_iload_n hx hb dX13_thread_89 rfl (lv_at hl 1 rfl) ?_
                    refine lv_imul hx hb dX13_thread_90 ?_
                    refine lv_iload_n hx hb dX13_thread_91 rfl (lv_at hl 2 rfl) ?_
                    refine lv_iadd hx hb dX13_thread_92 ?_
                    refine lv_aload_n hx hb dX13_thread_93 rfl (lv_at hl 0 rfl) ?_
                    refine mG5 C V dX13_thread_94 ?_
                    refine lv_iload_n hx hb dX13_thread_97 rfl (lv_at hl 2 rfl) ?_
                    refine mLd5 C V (vin (N := 240) rfl ((a_240 ht hi72.2 (i_lt c33) (by clear hG V hS hl C hts hown hx hb hml hr hlk ih27 ih72 hm27 hm72; rw [k6]; exact p4.2)).2.1) ((a_240 ht hi72.2 (i_lt c33) (by clear hG V hS hl C hts hown hx hb hml hr hlk ih27 ih72 hm27 hm72; rw [k6]; exact p4.2)).2.2)) dX13_thread_98 ?_
                    refine mSt11 C V hS (vin (N := 1920) rfl ((a_240 ht hi72.2 (i_lt c33) (by clear hG V hS hl C hts hown hx hb hml hr hlk ih27 ih72 hm27 hm72; rw [k6]; exact p4.2)).1.1) ((a_240 ht hi72.2 (i_lt c33) (by clear hG V hS hl C hts hown hx hb hml hr hlk ih27 ih72 hm27 hm72; rw [k6]; exact p4.2)).1.2)) dX13_thread_99 (fun S43 H locs eS43 V hS => ?_)
                    replace hG := gLt_e hG eS43
                    obtain ⟨x44, ex44⟩ : ∃ y : Int32, y = v72_2 + (1) := ⟨_, rfl⟩
                    replace hG := gLt_e hG ex44
                    refine lv_iinc (v := x44) (lv' := [(2, .int x44), (0, .ref o), (1, .int v27_1)]) hx hb dX13_thread_100 hl (k := 2) rfl (by rw [ex44]; rfl) (by decide) rfl (fun ls hl => ?_)
                    refine lv_goto (tgt := 72) hx hb dX13_thread_103 (by decide) ?_
                    have lt9 := i_lt c33
                    rw [k6] at lt9
                    exact ih72 x44 S43 _ _ _ (⟨cp_n ht ⟨hi72.2, by have z9 := i_lt c33; rw [k6] at z9; exact z9, p4.2⟩ ex44 hi72.1 eS43, (a_up ex44 hi72.2 (i_lt c33)).1⟩) (msd hm72 (a_dec ex44 hi72.2 lt9).1 (a_dec ex44 hi72.2 lt9).2) hG V hS (lv_sub hl [1, 2, 0] rfl)
              exact loop72 ((4 * gI S31 6 - x32).toInt.toNat + 1) x32 S31 _ _ _ (⟨⟨fun _ => rfl, fun _ _ _ => rfl, fun _ _ => rfl, fun q9 z0 z1 => by rw [ex32] at z1; exact absurd (Int32.lt_of_le_of_lt z0 z1) (by clear hG V hS hl C hts hown hx hb hml hr hlk ih27 hm27; decide)⟩, by rw [ex32]; decide⟩) (Nat.lt_succ_self _) hG V hS (lv_sub hl [1, 2, 0] rfl)
            · replace hG := gIf_p hG c30
              refine lv_aload_n hx hb dX13_thread_59 rfl (lv_at hl 0 rfl) ?_
              refine lv_iconst (v := 1) hx hb dX13_thread_60 (by decide) ?_
              refine mGoI (mRunV (As := [.int 1]) (rest := []) C hml V (c_refuse l D cs o ad A S4 1  ) gM_refuse okM_refuse ⟨rfl, rfl, Nat.le_of_ble_eq_true rfl, Nat.le_of_ble_eq_true rfl⟩ hl.1 rfl (Nat.le_of_ble_eq_true rfl) dX13_thread_61 ⟨Nat.zero_le _, Nat.zero_le _⟩) hS (fun r46 S45 H locs hq47 V hS => ?_)
              obtain ⟨hq47, ghq47⟩ := hq47
              replace hG := gC_e hG ghq47
              exact mRetI C hr hlk V hS (⟨by clear hG V hS hl C hts hown hx hb hml hr hlk ih27 hm27; have q9 := pb_I p2.1 hq47.2 (by decide) (by decide); exact ⟨q9.1, q9.2.trans g2⟩, hG.symm⟩) dX13_thread_64
          · replace hG := gIf_n hG c29
            obtain ⟨x48, ex48⟩ : ∃ y : Int32, y = v27_1 + (1) := ⟨_, rfl⟩
            replace hG := gLt_e hG ex48
            refine lv_iinc (v := x48) (lv' := [(1, .int x48), (0, .ref o)]) hx hb dX13_thread_47 hl (k := 1) rfl (by rw [ex48]; rfl) (by decide) rfl (fun ls hl => ?_)
            refine lv_goto (tgt := 27) hx hb dX13_thread_50 (by decide) ?_
            exact ih27 x48  _ _ _ (a_up ex48 hi27.1 (i_lt c7)) (msd hm27 (a_dec ex48 hi27.1 (i_lt c7)).1 (a_dec ex48 hi27.1 (i_lt c7)).2) hG V hS (lv_sub hl [1, 0] rfl)
    exact loop27 ((8 - x6).toInt.toNat + 1) x6  _ _ _ (by clear hG V hS hl C hts hown hx hb hml hr hlk; rw [ex6]; decide) (Nat.lt_succ_self _) hG V hS (lv_sub hl [1, 0] rfl)
  · replace hG := gIf_n hG c5
    refine lv_aload_n hx hb dX13_thread_19 rfl (lv_at hl 0 rfl) ?_
    refine lv_iconst (v := 2) hx hb dX13_thread_20 (by decide) ?_
    refine mGoI (mRunV (As := [.int 2]) (rest := []) C hml V (c_refuse l D cs o ad A S4 2  ) gM_refuse okM_refuse ⟨rfl, rfl, Nat.le_of_ble_eq_true rfl, Nat.le_of_ble_eq_true rfl⟩ hl.1 rfl (Nat.le_of_ble_eq_true rfl) dX13_thread_21 ⟨Nat.zero_le _, Nat.zero_le _⟩) hS (fun r50 S49 H locs hq51 V hS => ?_)
    obtain ⟨hq51, ghq51⟩ := hq51
    replace hG := gC_e hG ghq51
    exact mRetI C hr hlk V hS (⟨by clear hG V hS hl C hts hown hx hb hml hr hlk; have q9 := pb_I p2.1 hq51.2 (by decide) (by decide); exact ⟨q9.1, q9.2.trans g2⟩, hG.symm⟩) dX13_thread_24

/-! the reference: single writes that keep 'stp' -/
theorem st_irr {S S1 S2 : mS} {k : Nat} {i x : Int32} (h : stp S S1) (e : S2 = sA S1 k i x) (hk : ¬ smK k) : stp S S2 :=
  stp_tr h (stp_sm h.1 (fun j => by rw [e]; rfl) (fun j q hj => by rw [e, gA_sA, if_neg (fun z => hk (by rw [← z]; exact hj))]))
theorem st_irrL {S S1 S2 : mS} {k : Nat} {i : Int32} {x : Int64} (h : stp S S1) (e : S2 = sL S1 k i x) : stp S S2 :=
  stp_tr h (stp_sm h.1 (fun j => by rw [e]; rfl) (fun j q hj => by rw [e]; rfl))
theorem st_first {S S1 S2 : mS} {b x : Int32} (h : stp S S1) (h5 : gA S 28 b ≠ 5) (hb : 0 ≤ b ∧ b < 24) (e : S2 = sA S1 29 b x) : stp S S2 := by
  have k5 : gA S1 28 b ≠ 5 := by rw [h.2.2.1 28 b (by simp)]; exact h5
  have ob := (h.1.2.2.2.1 b hb.1 hb.2).2.2.1
  refine stp_tr h (stp_ow (b := b) h.1 (fun j => by rw [e]; rfl) ?_ (fun q => absurd q k5) (fun k q _ k29 _ _ => by rw [e, gA_sA, if_neg k29]) (fun k d _ hd => by rw [e]; simp [gA_sA, hd]))
  rw [e]; simp only [gA_sA, if_neg (show ¬ (31 = 29) by decide)]; exact ob
theorem st_owner {S S1 S2 : mS} {b x : Int32} (h : stp S S1) (hb : 0 ≤ b ∧ b < 24) (e : S2 = sA S1 31 b x) (hx : -1 ≤ x ∧ x < 8) : stp S S2 := by
  have ob := (h.1.2.2.2.1 b hb.1 hb.2).2.2.2
  refine stp_tr h (stp_ow (b := b) h.1 (fun j => by rw [e]; rfl) ?_ (fun q => ?_) (fun k q _ _ k31 _ => by rw [e, gA_sA, if_neg k31]) (fun k d _ hd => by rw [e]; simp [gA_sA, hd]))
  · rw [e]; simp only [gA_sA, if_pos]; exact hx
  · rw [e]; simp only [gA_sA, if_neg (show ¬ (37 = 31) by decide), if_neg (show ¬ (29 = 31) by decide)]; exact ob q
theorem st_qlen {S S1 S2 : mS} {b x : Int32} (h : stp S S1) (hb : 0 ≤ b ∧ b < 24) (e : S2 = sA S1 37 b x) (hx : gA S1 28 b = 5 → 0 ≤ x ∧ x ≤ gA S1 29 b) : stp S S2 := by
  have ob := (h.1.2.2.2.1 b hb.1 hb.2).2.2
  refine stp_tr h (stp_ow (b := b) h.1 (fun j => by rw [e]; rfl) ?_ (fun q => ?_) (fun k q _ _ _ k37 => by rw [e, gA_sA, if_neg k37]) (fun k d _ hd => by rw [e]; simp [gA_sA, hd]))
  · rw [e]; simp only [gA_sA, if_neg (show ¬ (31 = 37) by decide)]; exact ob.1
  · rw [e]; simp only [gA_sA, if_pos, if_neg (show ¬ (29 = 37) by decide)]; exact ⟨(hx q).1, (hx q).2, (ob.2 q).2.2⟩
theorem at60 {S S1 : mS} {t : Int32} (hf : fre S t) (w : stp S S1) : 0 ≤ gA S1 15 t ∧ gA S1 15 t < 60 := by
  have f := fre_stp hf w
  have a := at_of w.1 f.1 (Or.inl f.2.1)
  clear w f hf; grind
theorem row0 {S : mS} {b : Int32} (hb : 0 ≤ b ∧ b < 24) (h : mInv S) (hL : 0 < gA S 33 b) : (0 ≤ gA S 32 (8 * b) ∧ gA S 32 (8 * b) < 8) ∧ (0 ≤ gA S 15 (gA S 32 (8 * b)) ∧ gA S 15 (gA S 32 (8 * b)) < 60) := by
  obtain ⟨r1, r2, r3⟩ := in_row (t := gA S 32 (8 * b)) hb h ⟨0, by decide, hL, by rw [Int32.add_zero]⟩
  have a := at_of h r1 r3
  exact ⟨r1, by clear h r2 r3; grind⟩
theorem a_8b {b : Int32} (hb : 0 ≤ b ∧ b < 24) : 0 ≤ 8 * b ∧ 8 * b < 192 := by grind
theorem i_gt {x : Int32} (h : ¬ x ≤ 0) : 0 < x := by grind
theorem own8 {t : Int32} (h : 0 ≤ t ∧ t < 8) : -1 ≤ t ∧ t < 8 := by grind
/-- t fails: it stood in no row -/
theorem pas_f {S S1 S9 : mS} {t w : Int32} (hf : fre S t) (h : stp S S1) (e : S9 = sA (sA S1 13 t 5) 17 t w) : pas S S9 t 0 := by
  obtain ⟨f1, f2, f3, f4⟩ := fre_stp hf h
  have hI : ∀ k, gI S9 k = gI S1 k := fun k => by rw [e]; rfl
  have r := th_inv h.1 f1 f4 f3 hI (fun k i hk a1 a2 a3 => by rw [e]; rcases hk with rfl | rfl | rfl | rfl | rfl | rfl | rfl | rfl | rfl | rfl | rfl | rfl | rfl | rfl | rfl <;> first | exact absurd rfl a1 | exact absurd rfl a2 | exact absurd rfl a3 | simp [gA_sA]) (fun k u hk hu => by rw [e]; simp [gA_sA, hu]) (fun q1 q2 => by rw [e] at q2; simp [gA_sA] at q2) (fun q => by rw [e] at q; simp [gA_sA] at q)
  exact ⟨r.1, fun k => (hI k).trans (h.2.1 k), fun k i hk => by rw [e]; rcases hk with rfl | rfl | rfl <;> simp [gA_sA] <;> exact h.2.2.1 _ i (by simp), Or.inr rfl⟩

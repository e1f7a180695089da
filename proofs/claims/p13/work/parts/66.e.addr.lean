/-! make: the addresses behind it -/
def lvD (S : mS) (k : Nat) (i : Int32) : Decidable (lv S k i) := by unfold lv; exact inferInstance
def cdA (k : Nat) (i : Int32) : Nat := k * 4294967296 + i.toBitVec.toNat
theorem cdA_inj {k l : Nat} {i j : Int32} (h : cdA k i = cdA l j) : k = l ∧ i = j := by
  unfold cdA at h
  have a := i.toBitVec.isLt
  have b := j.toBitVec.isLt
  have e : i.toBitVec.toNat = j.toBitVec.toNat := by omega
  exact ⟨by omega, Int32.toBitVec_inj.mp (BitVec.eq_of_toNat_eq e)⟩
def adN (ad : adT) (S : mS) (b : Int32) (M : Nat) (nw : Nat → Nat) : adT := fun k i => if i = b ∧ 2 ≤ k ∧ k ≤ 7 then nw k else @ite _ (lv S k i) (lvD S k i) (ad k i) (M + cdA k i)
section AN
variable {ad : adT} {S : mS} {b : Int32} {M : Nat} {nw : Nat → Nat} {L : List Nat}
theorem adN_n {k : Nat} (h : 2 ≤ k ∧ k ≤ 7) : adN ad S b M nw k b = nw k := by unfold adN; rw [if_pos ⟨rfl, h⟩]
theorem lv_b {k : Nat} (hk : gA S 28 b = 0) (h : lv S k b) : ¬ (2 ≤ k ∧ k ≤ 7) := fun z => by
  rcases h with w | w | w | w | w
  · omega
  · omega
  · exact w.2.2.2 hk
  · have := w.2.2.2; rw [hk] at this; exact absurd this (by decide)
  · have := w.2.2.2; rw [hk] at this; exact absurd this (by decide)
theorem adN_lv (hk : gA S 28 b = 0) {k : Nat} {i : Int32} (h : lv S k i) : adN ad S b M nw k i = ad k i := by
  unfold adN
  rw [if_neg (fun z => by
    obtain ⟨z1, z2⟩ := z
    subst z1
    exact lv_b hk h z2), if_pos h]
theorem adN_inj (hj : inj ad) (hk : gA S 28 b = 0) (hL : ∀ k i, lv S k i → ad k i ∈ L) (hM : ∀ a, a ∈ L → a < M) (n1 : ∀ k, 2 ≤ k → k ≤ 7 → (nw k ∉ L ∧ nw k < M) ∨ nw k = M + cdA k b) (n2 : ∀ k l, 2 ≤ k → k ≤ 7 → 2 ≤ l → l ≤ 7 → nw k = nw l → k = l) : inj (adN ad S b M nw) := by
  have one : ∀ k i, (i = b ∧ 2 ≤ k ∧ k ≤ 7 ∧ adN ad S b M nw k i = nw k) ∨ (¬ (i = b ∧ 2 ≤ k ∧ k ≤ 7) ∧ lv S k i ∧ adN ad S b M nw k i = ad k i) ∨ (¬ (i = b ∧ 2 ≤ k ∧ k ≤ 7) ∧ adN ad S b M nw k i = M + cdA k i) := fun k i => by
    unfold adN
    by_cases c : i = b ∧ 2 ≤ k ∧ k ≤ 7
    · rw [if_pos c]; exact Or.inl ⟨c.1, c.2.1, c.2.2, rfl⟩
    · rw [if_neg c]
      by_cases d : lv S k i
      · rw [if_pos d]; exact Or.inr (Or.inl ⟨c, d, rfl⟩)
      · rw [if_neg d]; exact Or.inr (Or.inr ⟨c, rfl⟩)
  have nl : ∀ k l j, 2 ≤ k → k ≤ 7 → lv S l j → nw k ≠ ad l j := fun k l j a c d z => by
    have q := hL l j d
    rw [← z] at q
    rcases n1 k a c with w | w
    · exact w.1 q
    · have := hM _ q; omega
  have nj : ∀ k l j, 2 ≤ k → k ≤ 7 → ¬ (j = b ∧ 2 ≤ l ∧ l ≤ 7) → nw k ≠ M + cdA l j := fun k l j a c d z => by
    rcases n1 k a c with w | w
    · omega
    · have e : cdA k b = cdA l j := by omega
      obtain ⟨e1, e2⟩ := cdA_inj e
      exact d ⟨e2.symm, by omega, by omega⟩
  have lj : ∀ k i l j, lv S k i → ad k i ≠ M + cdA l j := fun k i l j d z => by
    have := hM _ (hL k i d); omega
  intro k i l j e
  rcases one k i with ⟨a1, a2, a3, a4⟩ | ⟨a1, a2, a3⟩ | ⟨a1, a2⟩
  · rcases one l j with ⟨c1, c2, c3, c4⟩ | ⟨c1, c2, c3⟩ | ⟨c1, c2⟩
    · rw [a4, c4] at e
      exact ⟨n2 k l a2 a3 c2 c3 e, a1.trans c1.symm⟩
    · rw [a4, c3] at e; exact absurd e (nl k l j a2 a3 c2)
    · rw [a4, c2] at e; exact absurd e (nj k l j a2 a3 c1)
  · rcases one l j with ⟨c1, c2, c3, c4⟩ | ⟨c1, c2, c3⟩ | ⟨c1, c2⟩
    · rw [a3, c4] at e; exact absurd e.symm (nl l k i c2 c3 a2)
    · rw [a3, c3] at e; exact hj _ _ _ _ e
    · rw [a3, c2] at e; exact absurd e (lj k i l j a2)
  · rcases one l j with ⟨c1, c2, c3, c4⟩ | ⟨c1, c2, c3⟩ | ⟨c1, c2⟩
    · rw [a2, c4] at e; exact absurd e.symm (nj l k i c2 c3 a1)
    · rw [a2, c3] at e; exact absurd e.symm (lj l j k i c2)
    · rw [a2, c2] at e; exact cdA_inj (by omega)
end AN
theorem lM : ∀ (L : List Nat), ∃ M, ∀ a, a ∈ L → a < M
  | [] => ⟨0, fun a h => absurd h List.not_mem_nil⟩
  | x :: r => by
    obtain ⟨M, h⟩ := lM r
    refine ⟨M + x + 1, fun a ha => ?_⟩
    rcases List.mem_cons.mp ha with z | z
    · omega
    · have := h a z; omega
/-- where both views are of the same cells -/
theorem ag_gW {ad : adT} {S : mS} {τ τ1 : Nat → Nat} {L L1 : List Nat} {f f1 : Nat → va_E} (hL : ∀ k i, lv S k i → ad k i ∈ L) (w : gW τ L f τ1 L1 f1) : agX ad S (view f) (view f1) := by
  intro k i h
  have e := (w.1 _ (hL k i h)).2.2
  refine ⟨fun j => ?_, fun j => ?_, fun j => ?_, fun j => ?_, fun j => ?_, ?_⟩
  · simp only [xI, view, e]
  · simp only [xJ, view, e]
  · simp only [xR, view, e]
  · simp only [xA, view, e]
  · simp only [xQ, view, e]
  · simp only [xC, view, e]

/-! both fresh -/
def rl0 (k : Nat) (i : Int32) : Prop := ((k = 0 ∨ k = 1) ∧ 0 ≤ i ∧ i < 8) ∨ ((8 ≤ k ∧ k ≤ 13) ∧ i = 0)
def rl0D (k : Nat) (i : Int32) : Decidable (rl0 k i) := by unfold rl0; exact inferInstance
def rA0 (o tp cd by9 sy st : Nat) (ya ca : Nat → Nat) (k : Nat) (i : Int32) : Nat := if k = 0 then ya i.toNatClampNeg else if k = 1 then ca i.toNatClampNeg else if k = 8 then o else if k = 9 then tp else if k = 10 then cd else if k = 11 then by9 else if k = 12 then sy else st
def ad0 (o tp cd by9 sy st : Nat) (ya ca : Nat → Nat) (M : Nat) : adT := fun k i => @ite _ (rl0 k i) (rl0D k i) (rA0 o tp cd by9 sy st ya ca k i) (M + cdA k i)
section FR
variable {ks : kS} {τ : Nat → Nat} {L : List Nat} {o tp cd by9 sy st M : Nat} {ya ca : Nat → Nat}
theorem ad0_r {k : Nat} {i : Int32} (h : rl0 k i) : ad0 o tp cd by9 sy st ya ca M k i = rA0 o tp cd by9 sy st ya ca k i := by unfold ad0; rw [if_pos h]
theorem ad0_inj (t0 : ty τ L o 9) (t1 : ty τ L tp 8) (t2 : ty τ L cd 12) (t3 : ty τ L by9 11) (t4 : ty τ L sy 15) (t5 : ty τ L st 14) (hy : ∀ j, j < 8 → ty τ L (ya j) 7 ∧ ty τ L (ca j) 12 ∧ ca j ≠ cd) (hd : ∀ i j, i < 8 → j < 8 → i ≠ j → ya i ≠ ya j ∧ ca i ≠ ca j) (hM : ∀ a, a ∈ L → a < M) : inj (ad0 o tp cd by9 sy st ya ca M) := by
  have tr : ∀ k i, rl0 k i → ty τ L (rA0 o tp cd by9 sy st ya ca k i) (if k = 0 then 7 else if k = 1 then 12 else if k = 8 then 9 else if k = 9 then 8 else if k = 10 then 12 else if k = 11 then 11 else if k = 12 then 15 else 14) := fun k i h => by
    rcases h with ⟨w | w, i0, i1⟩ | ⟨w, i0⟩
    · subst w; exact (hy _ (tn8 i0 i1)).1
    · subst w; exact (hy _ (tn8 i0 i1)).2.1
    · rcases (show k = 8 ∨ k = 9 ∨ k = 10 ∨ k = 11 ∨ k = 12 ∨ k = 13 by omega) with rfl | rfl | rfl | rfl | rfl | rfl
      · exact t0
      · exact t1
      · exact t2
      · exact t3
      · exact t4
      · exact t5
  intro k i l j e
  by_cases a : rl0 k i
  · by_cases b : rl0 l j
    · rw [ad0_r a, ad0_r b] at e
      have ta := (tr k i a).2
      have tb := (tr l j b).2
      rw [e, tb] at ta
      rcases a with ⟨a1, a2, a3⟩ | ⟨a1, a2⟩
      · rcases b with ⟨b1, b2, b3⟩ | ⟨b1, b2⟩
        · have q1 := tn8 a2 a3
          have q2 := tn8 b2 b3
          rcases a1 with rfl | rfl <;> rcases b1 with rfl | rfl
          · refine ⟨rfl, Classical.byContradiction (fun n => ?_)⟩
            exact (hd _ _ q1 q2 (fun z => n (tn_inj a2 b2 z))).1 e
          · simp at ta
          · simp at ta
          · refine ⟨rfl, Classical.byContradiction (fun n => ?_)⟩
            exact (hd _ _ q1 q2 (fun z => n (tn_inj a2 b2 z))).2 e
        · have q1 := tn8 a2 a3
          exfalso
          rcases a1 with rfl | rfl <;> rcases (show l = 8 ∨ l = 9 ∨ l = 10 ∨ l = 11 ∨ l = 12 ∨ l = 13 by omega) with rfl | rfl | rfl | rfl | rfl | rfl <;> first | (simp at ta; done) | exact (hy _ q1).2.2 e
      · rcases b with ⟨b1, b2, b3⟩ | ⟨b1, b2⟩
        · have q2 := tn8 b2 b3
          exfalso
          rcases b1 with rfl | rfl <;> rcases (show k = 8 ∨ k = 9 ∨ k = 10 ∨ k = 11 ∨ k = 12 ∨ k = 13 by omega) with rfl | rfl | rfl | rfl | rfl | rfl <;> first | (simp at ta; done) | exact (hy _ q2).2.2 e.symm
        · refine ⟨?_, a2.trans b2.symm⟩
          rcases (show k = 8 ∨ k = 9 ∨ k = 10 ∨ k = 11 ∨ k = 12 ∨ k = 13 by omega) with rfl | rfl | rfl | rfl | rfl | rfl <;> rcases (show l = 8 ∨ l = 9 ∨ l = 10 ∨ l = 11 ∨ l = 12 ∨ l = 13 by omega) with rfl | rfl | rfl | rfl | rfl | rfl <;> first | rfl | (simp at ta; done)
    · have q := hM _ (tr k i a).1
      rw [ad0_r a] at e
      unfold ad0 at e
      rw [if_neg b] at e; omega
  · by_cases b : rl0 l j
    · have q := hM _ (tr l j b).1
      rw [ad0_r b] at e
      unfold ad0 at e
      rw [if_neg a] at e; omega
    · unfold ad0 at e
      rw [if_neg a, if_neg b] at e
      exact cdA_inj (by omega)
end FR

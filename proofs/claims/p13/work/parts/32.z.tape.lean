/-! the class: the tape's cell -/
def tAt (f : Nat → va_E) (a : Nat) : Int32 := match f a with
  | Sum.inr o => (match (o.2 : List Value)[5]? with
    | some (Value.int x) => x
    | _ => 0)
  | _ => 0
theorem tAt_e {f : Nat → va_E} {a cd by9 : Nat} {sz ln pl at9 : Int32} (h : f a = .inr (8, [.ref cd, .int sz, .int ln, .int pl, .ref by9, .int at9])) : tAt f a = at9 := by simp [tAt, h]
theorem mk8 {ks : kS} {τ : Nat → Nat} {L : List Nat} {ψ sz pl at9 : Int32} {cd by9 : Nat} (h1 : ty τ L cd 12) (h2 : ty τ L by9 11) (h3 : 0 ≤ ψ ∧ ψ ≤ 1600) (h4 : 0 ≤ at9) (h5 : at9 ≤ 1601) : cOk ks τ L ψ (.inr (8, [.ref cd, .int sz, .int ψ, .int pl, .ref by9, .int at9])) 8 := by
  show ∃ _, _
  exact ⟨cd, sz, pl, by9, at9, rfl, h1, h2, h3, h4, h5⟩
theorem cOk_psi {ks : kS} {τ : Nat → Nat} {L : List Nat} {ψ ψ1 : Int32} {e : va_E} {k : Nat} (h : cOk ks τ L ψ e k) (hk : k ≠ 8) : cOk ks τ L ψ1 e k := by
  unfold cOk at h ⊢
  rw [if_neg hk] at h ⊢
  exact h
theorem cI_len {ks : kS} {τ : Nat → Nat} {L : List Nat} {ψ ψ1 : Int32} {f f1 : Nat → va_E} {a : Nat} {e : va_E} (h : cI ks τ L ψ f) (hu : ∀ b, b ∈ L → τ b = 8 → b = a) (hk : τ a = 8) (e1 : f1 = va_up f a e) (he : cOk ks τ L ψ1 e 8) : cI ks τ L ψ1 f1 := by
  intro b hb
  rw [e1]
  by_cases q : b = a
  · subst q; rw [va_up_self, hk]; exact he
  · rw [va_up_ne _ _ q]; exact cOk_psi (h b hb) (fun z => q (hu b hb z))

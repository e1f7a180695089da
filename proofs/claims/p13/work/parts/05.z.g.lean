/-! pure functions beside the contracts: what is left of a method's function is carried along its walk -/
def gLt {α β : Type} (v : α) (F : α → β) : β := F v
theorem gLt_e {α β : Type} {a : β} {v x : α} {F : α → β} (h : a = gLt v F) (e : x = v) : a = F x := by rw [e]; exact h
def gC {α β γ : Type} (v : α × β) (F : α → β → γ) : γ := F v.1 v.2
theorem gC_e {α β γ : Type} {a : γ} {v : α × β} {r : α} {s : β} {F : α → β → γ} (h : a = gC v F) (e : (r, s) = v) : a = F r s := by rw [← e] at h; exact h
theorem gIf_p {α : Type} {P : Prop} {d : Decidable P} {a x y : α} (h : a = @ite α P d x y) (c : P) : a = x := by rw [if_pos c] at h; exact h
theorem gIf_n {α : Type} {P : Prop} {d : Decidable P} {a x y : α} (h : a = @ite α P d x y) (c : ¬ P) : a = y := by rw [if_neg c] at h; exact h
section MCg
variable {p : Program} {l : Launch} {e : Env} {R : Room} {s : State} {m : MethodId} {args : Array Value} {below : List Frame} {meth : Method} {c : Code} {H : Heap} {locs : List Loc} {cells slots : Nat} {Q : State → Prop}
variable {cc : ByteArray} {pc : Nat} {ls : Array Slot} {rest st0 : List Value} {D : va_G} {cs : ClassId × ClassId × ClassId} {o : Nat} {ad : Nat → Nat} {A : Nat → Prop} {S : mS} {H0 : Heap}
theorem mGoQ {P : Int32 → Prop} {g : Int32} {a : Array Value} (hr : va_Run p l e R s m args below meth c H locs cells slots 0 0 (F0 m pc ls st0) rest (va_Qi (fun r9 S9 => (S9 = S ∧ P r9) ∧ r9 = g) (mB D cs o ad A) A a) A) (hS : va_S A H0 H locs)
    (kk : ∀ (r : Int32) (H1 : Heap) (locs1 : List Loc), P r ∧ r = g → mV D cs o ad A S H1 → va_S A H0 H1 locs1 → W p l e R s m args below meth c H1 locs1 cells slots Q (F0 m (pc + 3) ls (.int r :: rest))) : W p l e R s m args below meth c H locs cells slots Q (F0 m pc ls st0) :=
  mGoI hr hS (fun r S1 H1 locs1 hp V hS1 => kk r H1 locs1 ⟨hp.1.2, hp.2⟩ (hp.1.1 ▸ V) hS1)
end MCg

/-! the reference: measures, frames -/
theorem msd {a b : Int32} {N : Nat} (hm : a.toInt.toNat < N + 1) (h0 : 0 ≤ b) (h : b < a) : b.toInt.toNat < N := by
  have h1 := Int32.lt_iff_toInt_lt.mp h
  have h2 : (0 : Int) ≤ b.toInt := Int32.le_iff_toInt_le.mp h0
  omega
section MCp
variable {p : Program} {l : Launch} {e : Env} {R : Room} {s : State} {m : MethodId} {args : Array Value} {below : List Frame} {meth : Method} {c : Code} {H : Heap} {locs : List Loc} {cells slots : Nat} {Q : State → Prop}
variable {cc : ByteArray} {pc : Nat} {ls : Array Slot} {rest st0 : List Value} {D : va_G} {cs : ClassId × ClassId × ClassId} {o : Nat} {ad : Nat → Nat} {A : Nat → Prop} {S : mS} {H0 : Heap}
theorem mGoP {P : Int32 → Prop} {a : Array Value} (hr : va_Run p l e R s m args below meth c H locs cells slots 0 0 (F0 m pc ls st0) rest (va_Qi (fun r9 S9 => S9 = S ∧ P r9) (mB D cs o ad A) A a) A) (hS : va_S A H0 H locs)
    (kk : ∀ (r : Int32) (H1 : Heap) (locs1 : List Loc), P r → mV D cs o ad A S H1 → va_S A H0 H1 locs1 → W p l e R s m args below meth c H1 locs1 cells slots Q (F0 m (pc + 3) ls (.int r :: rest))) : W p l e R s m args below meth c H locs cells slots Q (F0 m pc ls st0) :=
  mGoI hr hS (fun r S1 H1 locs1 hp V hS1 => kk r H1 locs1 hp.2 (hp.1 ▸ V) hS1)
end MCp
-- callees
theorem okM_append : mOk yX13_append 2 := by unfold mOk; decide +kernel
theorem okM_atCell : mOk yX13_atCell 3 := by unfold mOk; decide +kernel
theorem okM_atGate : mOk yX13_atGate 3 := by unfold mOk; decide +kernel
theorem okM_atLock : mOk yX13_atLock 3 := by unfold mOk; decide +kernel
theorem okM_atQueue : mOk yX13_atQueue 3 := by unfold mOk; decide +kernel
theorem okM_atSemaphore : mOk yX13_atSemaphore 3 := by unfold mOk; decide +kernel
theorem okM_byteAt : mOk yX13_byteAt 1 := by unfold mOk; decide +kernel
theorem okM_fails : mOk yX13_fails 2 := by unfold mOk; decide +kernel
theorem okM_firstGoesOn : mOk yX13_firstGoesOn 1 := by unfold mOk; decide +kernel
theorem okM_four : mOk yX13_four 1 := by unfold mOk; decide +kernel
theorem okM_freed : mOk yX13_freed 1 := by unfold mOk; decide +kernel
theorem okM_goesOn : mOk yX13_goesOn 1 := by unfold mOk; decide +kernel
theorem okM_has : mOk yX13_has 2 := by unfold mOk; decide +kernel
theorem okM_in : mOk yX13_in 3 := by unfold mOk; decide +kernel
theorem okM_isThere : mOk yX13_isThere 1 := by unfold mOk; decide +kernel
theorem okM_kindOf : mOk yX13_kindOf 1 := by unfold mOk; decide +kernel
theorem okM_leaves : mOk yX13_leaves 2 := by unfold mOk; decide +kernel
theorem okM_line : mOk yX13_line 0 := by unfold mOk; decide +kernel
theorem okM_next : mOk yX13_next 0 := by unfold mOk; decide +kernel
theorem okM_nextOf : mOk yX13_nextOf 1 := by unfold mOk; decide +kernel
theorem okM_number : mOk yX13_number 2 := by unfold mOk; decide +kernel
theorem okM_objects : mOk yX13_objects 0 := by unfold mOk; decide +kernel
theorem okM_one : mOk yX13_one 1 := by unfold mOk; decide +kernel
theorem okM_opened : mOk yX13_opened 1 := by unfold mOk; decide +kernel
theorem okM_part : mOk yX13_part 2 := by unfold mOk; decide +kernel
theorem okM_passes : mOk yX13_passes 2 := by unfold mOk; decide +kernel
theorem okM_read : mOk yX13_read 0 := by unfold mOk; decide +kernel
theorem okM_ready : mOk yX13_ready 0 := by unfold mOk; decide +kernel
theorem okM_refuse : mOk yX13_refuse 1 := by unfold mOk; decide +kernel
theorem okM_rowOf : mOk yX13_rowOf 1 := by unfold mOk; decide +kernel
theorem okM_signalled : mOk yX13_signalled 2 := by unfold mOk; decide +kernel
theorem okM_waitFor : mOk yX13_waitFor 2 := by unfold mOk; decide +kernel
theorem okM_with : mOk yX13_with 3 := by unfold mOk; decide +kernel
theorem okM_word : mOk yX13_word 0 := by unfold mOk; decide +kernel
theorem okM_wrong : mOk yX13_wrong 0 := by unfold mOk; decide +kernel

/-! the reference: how a contract of its methods begins, ends, and is called -/
section MC
variable {p : Program} {l : Launch} {e : Env} {R : Room} {s : State} {m : MethodId} {args : Array Value} {below : List Frame} {meth : Method} {c : Code} {H : Heap} {locs : List Loc} {cells slots : Nat} {Q : State → Prop}
variable {cc : ByteArray} {pc : Nat} {ls : Array Slot} {rest : List Value} {D : va_G} {cs : ClassId × ClassId × ClassId} {o : Nat} {ad : Nat → Nat} {A : Nat → Prop} {S : mS} {H0 : Heap}
variable {y : MethodName} {cy : ByteArray} {n nL idx : Nat} {rm : Room} {As st0 : List Value} {av : List Value}
theorem mblind : FrameBlind (va_Pc av (mB D cs o ad A S)) := fun a U g mk q => by
  obtain ⟨q0, q1, q2⟩ := q
  exact ⟨q0, q1, va_K.moved (u := U) (U := U.calling g mk a) (Vm.Alike.refl U.vm) q2⟩
/-- a contract's start -/
theorem mMet {ret : Option FieldType} {Qc : Array Value → State → Outcome → State → Prop} (hy : plainName y.cls = true) (hown : y.cls = RX13) (hn : (lg_sl av).length ≤ n)
    (body : ∀ (p : Program) (e : Env) (s : State) (m : MethodId) (below : List Frame) (meth : Method) (c : Code) (ls : Array Slot), mC p s m av.toArray c cy D cs → c.maxLocals = n → meth.sig.returnType = ret → meth.locks = false → mV D cs o ad A S s.heap → lv_has ls n (lv_args 0 av) →
      W p l e rm s m av.toArray below meth c s.heap [] 0 0 (MQ below Qc av.toArray s 0 0 A) (F0 m 0 ls [])) :
    Met l y (Cond.code y cy n ret :: tM) rm (va_Pc av (mB D cs o ad A S)) Qc 0 0 A := by
  refine Met.ofW (cc := cy) (maxL := n) (ret := ret) hy rfl ?_
  intro p e s m args below meth c s₁ B hml hv
  obtain ⟨rfl, hV, hK⟩ := hv
  have hts := atoms_spec (ws := Cond.code y cy n ret :: tM) B.pre
  have hf : s.vm.findClass y.cls = some m.cls := findClass_of_methodNamed B.named
  have hl := lv_entry av (n := n) hn
  rw [lg_entry_eq]
  exact body p e s m below meth c _ ⟨B.exec, B.bytes, hown ▸ hf, fun w h => hts w (List.mem_cons_of_mem _ h), hK⟩ hml B.returns B.notSynchronized hV hl
theorem mRetI {post : Int32 → mS → Prop} {v : Int32} (C : mC p s m args c cc D cs) (hr : meth.sig.returnType = some .int) (hlocks : meth.locks = false) (V : mV D cs o ad A S H) (hS : va_S A s.heap H locs) (hp : post v S) (hdg : decode cc pc = .ok (.ireturn, 1)) :
    W p l e R s m args below meth c H locs cells slots (MQ below (va_Qi post (mB D cs o ad A) A) args s cells slots A) (F0 m pc ls [.int v]) := by
  obtain ⟨hx, hb, -, -, hK⟩ := C
  exact W.iret hx hb hr (fun t ht hW => ⟨⟨v, S, rfl, hp, by rw [ht]; exact V, va_K.moved hW.alike hK⟩, hS.F ht⟩) hS.2.2 hdg hlocks
theorem mRetZ {post : Int32 → mS → Prop} {v : Int32} (C : mC p s m args c cc D cs) (hr : meth.sig.returnType = some .boolean) (hlocks : meth.locks = false) (V : mV D cs o ad A S H) (hS : va_S A s.heap H locs) (hv : narrow .boolean (.int v) = .int v) (hp : post v S) (hdg : decode cc pc = .ok (.ireturn, 1)) :
    W p l e R s m args below meth c H locs cells slots (MQ below (va_Qi post (mB D cs o ad A) A) args s cells slots A) (F0 m pc ls [.int v]) := by
  obtain ⟨hx, hb, -, -, hK⟩ := C
  exact W.zret hx hb hr hv (fun t ht hW => ⟨⟨v, S, rfl, hp, by rw [ht]; exact V, va_K.moved hW.alike hK⟩, hS.F ht⟩) hS.2.2 hdg hlocks
theorem mRetL {post : Int64 → mS → Prop} {v : Int64} (C : mC p s m args c cc D cs) (hr : meth.sig.returnType = some .long) (hlocks : meth.locks = false) (V : mV D cs o ad A S H) (hS : va_S A s.heap H locs) (hp : post v S) (hdg : decode cc pc = .ok (.lreturn, 1)) :
    W p l e R s m args below meth c H locs cells slots (MQ below (va_Ql post (mB D cs o ad A) A) args s cells slots A) (F0 m pc ls [.long v]) := by
  obtain ⟨hx, hb, -, -, hK⟩ := C
  exact W.lret hx hb hr (fun t ht hW => ⟨⟨v, S, rfl, hp, by rw [ht]; exact V, va_K.moved hW.alike hK⟩, hS.F ht⟩) hS.2.2 hdg hlocks
theorem mRetV {post : mS → Prop} (C : mC p s m args c cc D cs) (hr : meth.sig.returnType = none) (hlocks : meth.locks = false) (V : mV D cs o ad A S H) (hS : va_S A s.heap H locs) (hp : post S) (hdg : decode cc pc = .ok (.return_, 1)) :
    W p l e R s m args below meth c H locs cells slots (MQ below (va_Qv post (mB D cs o ad A) A) args s cells slots A) (F0 m pc ls []) := by
  obtain ⟨hx, hb, -, -, hK⟩ := C
  exact W.vret hx hb hr (fun t ht hW => ⟨⟨S, rfl, hp, by rw [ht]; exact V, va_K.moved hW.alike hK⟩, hS.F ht⟩) hS.2.2 hdg hlocks
/-- what a call's row asks of the callee, decided by program -/
def mOk (y : MethodName) (k : Nat) : Prop := y.cls = RX13 ∧ y.cls ≠ "java/lang/invoke/MethodHandle" ∧ y.cls ≠ "java/lang/invoke/VarHandle" ∧ (parseMethodDescriptor y.desc).map (fun d => d.parameters.length) = some k
theorem mRunV {ret : Option FieldType} {Qc : Array Value → State → Outcome → State → Prop} (C : mC p s m args c cc D cs) (hml : c.maxLocals = nL) (V : mV D cs o ad A S H)
    (hM : Met l y (Cond.code y cy n ret :: tM) rm (va_Pc (.ref o :: As) (mB D cs o ad A S)) Qc 0 0 A) (hg : GoodIn tM (wsV RX13 idx RX13 y (Cond.code y cy n ret :: tM))) (hk : mOk y As.length)
    (hR : rm.cells = 0 ∧ rm.slots = 0 ∧ rm.frames + 1 ≤ R.frames ∧ 8 + (n + 11) + rm.locals ≤ R.locals) (hsz : ls.size = nL) (hst : st0 = As.reverse ++ .ref o :: rest) (hro : (rest.map fun v => v.category).sum ≤ 8)
    (hdg : decode cc pc = .ok (.invokevirtual idx, 3)) (hc : cells ≤ R.cells ∧ slots ≤ R.slots) :
    va_Run p l e R s m args below meth c H locs cells slots 0 0 (F0 m pc ls st0) rest (Qc (Value.ref o :: As).toArray) A := by
  obtain ⟨hx, hb, hown, hts, hK⟩ := C
  exact va_runV (As := As) (rest := rest) ⟨hx, hb, hml, hown, hts⟩ hM (cwV As.length hts hg rfl hR.1 hR.2.1 hk hR.2.2) ⟨mblind, va_recv hK V.1 (ci := 10) (q0 := 0) rfl rfl, fun U hU hW => ⟨rfl, by rw [hU]; exact V, va_K.moved hW.alike hK⟩⟩ rfl rfl hsz hst (lv_room hro) hdg hc
theorem mRunS {ret : Option FieldType} {Qc : Array Value → State → Outcome → State → Prop} (C : mC p s m args c cc D cs) (hml : c.maxLocals = nL) (V : mV D cs o ad A S H)
    (hM : Met l y (Cond.code y cy n ret :: tM) rm (va_Pc As (mB D cs o ad A S)) Qc 0 0 A) (hg : GoodIn tM (wsS RX13 idx y (Cond.code y cy n ret :: tM))) (hk : mOk y As.length)
    (hR : rm.cells = 0 ∧ rm.slots = 0 ∧ rm.frames + 1 ≤ R.frames ∧ 8 + (n + 11) + rm.locals ≤ R.locals) (hsz : ls.size = nL) (hst : st0 = As.reverse ++ rest) (hro : (rest.map fun v => v.category).sum ≤ 8)
    (hdg : decode cc pc = .ok (.invokestatic idx, 3)) (hc : cells ≤ R.cells ∧ slots ≤ R.slots) :
    va_Run p l e R s m args below meth c H locs cells slots 0 0 (F0 m pc ls st0) rest (Qc As.toArray) A := by
  obtain ⟨hx, hb, hown, hts, hK⟩ := C
  exact va_runS (As := As) (rest := rest) ⟨hx, hb, hml, hown, hts⟩ hM (cwS As.length hts hg rfl hR.1 hR.2.1 hk hR.2.2) ⟨mblind, fun U hU hW => ⟨rfl, by rw [hU]; exact V, va_K.moved hW.alike hK⟩⟩ rfl rfl hsz hst (lv_room hro) hdg hc
theorem mGoV {post : mS → Prop} {a : Array Value} (hr : va_Run p l e R s m args below meth c H locs cells slots 0 0 (F0 m pc ls st0) rest (va_Qv post (mB D cs o ad A) A a) A) (hS : va_S A H0 H locs)
    (kk : ∀ (S1 : mS) (H1 : Heap) (locs1 : List Loc), post S1 → mV D cs o ad A S1 H1 → va_S A H0 H1 locs1 → W p l e R s m args below meth c H1 locs1 cells slots Q (F0 m (pc + 3) ls rest)) : W p l e R s m args below meth c H locs cells slots Q (F0 m pc ls st0) :=
  va_callv hr hS (fun _ _ h => h) (fun _ h => h) (fun u t H1 locs1 ht hvm hw hB hz hk hS1 => kk u H1 locs1 hw (by rw [← ht]; exact hB.1) hS1)
theorem mGoI {post : Int32 → mS → Prop} {a : Array Value} (hr : va_Run p l e R s m args below meth c H locs cells slots 0 0 (F0 m pc ls st0) rest (va_Qi post (mB D cs o ad A) A a) A) (hS : va_S A H0 H locs)
    (kk : ∀ (r : Int32) (S1 : mS) (H1 : Heap) (locs1 : List Loc), post r S1 → mV D cs o ad A S1 H1 → va_S A H0 H1 locs1 → W p l e R s m args below meth c H1 locs1 cells slots Q (F0 m (pc + 3) ls (.int r :: rest))) : W p l e R s m args below meth c H locs cells slots Q (F0 m pc ls st0) :=
  va_calli hr hS (fun _ _ h => h) (fun _ h => h) (fun r u t H1 locs1 ht hvm hw hB hz hk hS1 => kk r u H1 locs1 hw (by rw [← ht]; exact hB.1) hS1)
end MC

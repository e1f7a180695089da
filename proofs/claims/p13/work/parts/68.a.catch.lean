/-! a throw that a row of this method's own table takes -/
/-- the search ends at h; on the way the tables have become vm' -/
def hcEnds (e : Env) (S : State) (f : JFrame) (a : Addr) (rows : List ExceptionTableEntry) (h : Handler) (vm' : Vm) : Prop :=
  ∀ (Q : Handler → Pre) (E : CtlPost) (d : Bool) (acts : List Action), wp (findHandler.go f a rows) Q E e d acts S ↔ Q h d acts (S.setVm vm')
/-- a row that names the class c: the link is noted, and it takes the object or leaves it -/
theorem hc_row {e : Env} {S : State} {f : JFrame} {a : Addr} {x : ExceptionTableEntry} {t : List ExceptionTableEntry} {c : ClassId} {cell : Cell} {Q : Handler → Pre} {E : CtlPost} {d : Bool} {acts : List Action}
    (hx : covers x f.pc = true) (h0 : x.catchType ≠ 0) (hl : S.vm.ClassLinks e.platform f.method.cls x.catchType c) (hcell : S.heap[a]? = some cell) (hobj : ∀ k, cell.vm ≠ .statics k) (hk : ∃ k, S.vm.classes[cell.cls]? = some k) (hc : ∃ k, S.vm.classes[c]? = some k) (b : Bool) (hb : S.vm.assignable cell.cls c = b) :
    wp (findHandler.go f a (x :: t)) Q E e d acts S ↔ (if b = true then Q (.found x.handlerPc) d acts (S.setVm (S.vm.noted f.method.cls x.catchType (.cls c))) else wp (findHandler.go f a t) Q E e d acts (S.setVm (S.vm.noted f.method.cls x.catchType (.cls c)))) := by
  simp only [covers] at hx
  obtain ⟨r1, r2⟩ := (resolveClass_links e.toSetting hl).op (op := VmOp.resolveClass f.method.cls x.catchType) rfl
  have al : S.vm.Alike (S.vm.noted f.method.cls x.catchType (.cls c)) := (Vm.Alike.refl S.vm).noted _ _ _
  obtain ⟨k1, q1⟩ := hk
  obtain ⟨k2, q2⟩ := hc
  obtain ⟨k3, q3, -⟩ := al.2.2 _ _ q1
  obtain ⟨k4, q4, -⟩ := al.2.2 _ _ q2
  have hb2 : (S.vm.noted f.method.cls x.catchType (.cls c)).assignable cell.cls c = b := by rw [al.assignable]; exact hb
  cases b <;> simp [findHandler.go, hx, h0, r1, r2, hcell, hobj, q3, q4, hb2, VmOp.dirties, VmOp.acts]
/-- rows that leave it, then one that takes it -/
theorem hc_rows {e : Env} {s0 : State} {f : JFrame} {a : Addr} {cell : Cell} (hobj : ∀ k, cell.vm ≠ .statics k) (hk : ∃ k, s0.vm.classes[cell.cls]? = some k) (x : ExceptionTableEntry) (suf : List ExceptionTableEntry) (hx : covers x f.pc = true) (h0 : x.catchType ≠ 0)
    (hl : ∃ c, s0.vm.ClassLinks e.platform f.method.cls x.catchType c ∧ s0.vm.assignable cell.cls c = true) : ∀ (pre : List ExceptionTableEntry) (S : State), s0.WarmedH S.vm → S.heap[a]? = some cell →
      (∀ z ∈ pre, covers z f.pc = true ∧ z.catchType ≠ 0 ∧ ∃ c, s0.vm.ClassLinks e.platform f.method.cls z.catchType c ∧ s0.vm.assignable cell.cls c = false) → ∃ vm', s0.WarmedH vm' ∧ hcEnds e S f a (pre ++ x :: suf) (.found x.handlerPc) vm' := by
  have one : ∀ (z : ExceptionTableEntry) (t : List ExceptionTableEntry) (S : State) (c : ClassId) (b : Bool), s0.WarmedH S.vm → S.heap[a]? = some cell → covers z f.pc = true → z.catchType ≠ 0 → s0.vm.ClassLinks e.platform f.method.cls z.catchType c → s0.vm.assignable cell.cls c = b →
      s0.WarmedH (S.vm.noted f.method.cls z.catchType (.cls c)) ∧ ∀ (Q : Handler → Pre) (E : CtlPost) (d : Bool) (acts : List Action), wp (findHandler.go f a (z :: t)) Q E e d acts S ↔ (if b = true then Q (.found z.handlerPc) d acts (S.setVm (S.vm.noted f.method.cls z.catchType (.cls c))) else wp (findHandler.go f a t) Q E e d acts (S.setVm (S.vm.noted f.method.cls z.catchType (.cls c)))) := by
    intro z t S c b hW hcell hz hz0 hzl hzb
    obtain ⟨dk, _, _, kt, hd, _, _, _, _, hkt, _, hopen⟩ := hzl.here
    obtain ⟨k1, q1⟩ := hk
    obtain ⟨k3, q3, -⟩ := hW.alike.2.2 _ _ q1
    obtain ⟨k4, q4, -⟩ := hW.alike.2.2 _ _ hkt
    exact ⟨hW.noted hd hopen (State.rightAt_cls hzl), fun Q E d acts => hc_row hz hz0 (hW.classLinks hzl) hcell hobj ⟨k3, q3⟩ ⟨k4, q4⟩ b (by rw [hW.alike.assignable]; exact hzb)⟩
  intro pre
  induction pre with
  | nil =>
    intro S hW hcell _
    obtain ⟨c, hl1, hfit⟩ := hl
    obtain ⟨w1, w2⟩ := one x suf S c true hW hcell hx h0 hl1 hfit
    exact ⟨_, w1, fun Q E d acts => by rw [List.nil_append, w2 Q E d acts, if_pos rfl]⟩
  | cons z zs ih =>
    intro S hW hcell hp
    obtain ⟨hz, hz0, c, hzl, hzb⟩ := hp z List.mem_cons_self
    obtain ⟨w1, w2⟩ := one z (zs ++ x :: suf) S c false hW hcell hz hz0 hzl hzb
    obtain ⟨vm', w3, w4⟩ := ih (S.setVm (S.vm.noted f.method.cls z.catchType (.cls c))) w1 hcell (fun y hy => hp y (List.mem_cons_of_mem _ hy))
    exact ⟨vm', w3, fun Q E d acts => by rw [List.cons_append, w2 Q E d acts, if_neg (by decide)]; exact w4 Q E d acts⟩
theorem hc_step {e : Env} {S : State} {f : JFrame} {a : Addr} {r : List Frame} {pc : Nat} {vm' : Vm} {meth : Method} {code : Code} (hm : S.vm.method? f.method = some meth) (hc : meth.code = some code) (h : hcEnds e S f a code.exceptionTable.toList (.found pc) vm') :
    (stepThrowing e S a (.java f :: r)).Is ((S.setVm vm').setFrames (.java { f with pc := pc, stack := [.ref a] } :: r)) [] := by
  have hf : ∀ (Q : Handler → Pre) (E : CtlPost) (d : Bool) (acts : List Action), wp (findHandler f a) Q E e d acts S ↔ Q (.found pc) d acts (S.setVm vm') := fun Q E d acts => by rw [W.findHandler_eq hm hc]; exact h Q E d acts
  simp only [stepThrowing, searchFrame, vmDo]
  generalize hr : Sem.go _ e false [] S = res
  obtain ⟨as, rfl, ha⟩ := Sem.eq_ok_of hr (a := Handler.found pc) (s' := S.setVm vm') (acts' := []) (by simp [hf _ _ _ _])
  exact ⟨rfl, ha⟩
section HC
variable {p : Program} {l : Launch} {e : Env} {R : Room} {s : State} {m : MethodId} {args : Array Value} {below : List Frame} {meth : Method} {c : Code} {H : Heap} {locs : List Loc} {cells slots : Nat} {Q : State → Prop} {ls : Array Slot} {rest : List Value} {pc : Nat}
/-- caught by the row x; the rows ahead leave it -/
theorem hc_catch {own E : String} {ce : Cell} {q : Addr} (hown : s.vm.findClass own = some m.cls) (pre : List (ExceptionTableEntry × String)) (x : ExceptionTableEntry) (name : String) (suf : List ExceptionTableEntry) (hsplit : c.exceptionTable.toList = pre.map (·.1) ++ x :: suf)
    (hpass : ∀ z ∈ pre, covers z.1 pc = true ∧ z.1.catchType ≠ 0 ∧ (Cond.classLink own z.1.catchType z.2).before args s = true ∧ va_Nc E z.2 s) (hx : covers x pc = true) (h0 : x.catchType ≠ 0) (hlink : (Cond.classLink own x.catchType name).before args s = true) (hcast : (Cond.castable E name).before args s = true)
    (hcell : H[q]? = some ce) (hv : ce.vm = .none) (hcl : s.vm.findClass E = some ce.cls) (kk : W p l e R s m args below meth c H locs cells slots Q (F0 m x.handlerPc ls [.ref q])) : vx_W p l e R s m args below meth c H locs cells slots Q (F0 m pc ls rest) q := by
  intro T hT X
  have hpl : e.platform.magicAccessors = ({} : Platform).magicAccessors := by rw [X.admits.platform]
  obtain ⟨c3, c4, hc3, hc4, hasg⟩ := Cond.castable_spec hcast
  cases Option.some.inj (hc3.symm.trans hcl)
  obtain ⟨c5, hc5, hcl5⟩ := Cond.classLink_spec hown hlink e.platform hpl
  cases Option.some.inj (hc4.symm.trans hc5)
  have hk : ∃ k, s.vm.classes[ce.cls]? = some k := by obtain ⟨k9, h9, -⟩ := Vm.findClass_spec hcl; exact ⟨k9, h9⟩
  obtain ⟨g1, hg1⟩ := X.frames_eq
  have hS : (T.setTop (F0 m pc ls rest)).pushFrame (.throwing q) = T.setFrames (.throwing q :: .java (F0 m pc ls rest) :: below) := by
    rw [State.pushFrame, State.frames_setTop _ hg1, State.setTop_of_frames _ hg1, State.setFrames_setFrames]
  obtain ⟨vm', hW', hend⟩ := hc_rows (e := e) (s0 := s) (f := F0 m pc ls rest) (a := q) (cell := ce) (by rw [hv]; intro k h; cases h) hk x suf hx h0 ⟨c4, hcl5, hasg⟩ (pre.map (·.1)) ((T.setTop (F0 m pc ls rest)).pushFrame (.throwing q)) X.warmed (by rw [throwing_heap, hT]; exact hcell) (fun z hz => by
    obtain ⟨y, hy, rfl⟩ := List.mem_map.mp hz
    obtain ⟨p1, p2, p3, a8, b8, p4, p5, p6⟩ := hpass y hy
    obtain ⟨c6, hc6, hcl6⟩ := Cond.classLink_spec hown p3 e.platform hpl
    cases Option.some.inj (p4.symm.trans hcl)
    cases Option.some.inj (p5.symm.trans hc6)
    exact ⟨p1, p2, _, hcl6, p6⟩)
  rw [← hsplit] at hend
  obtain ⟨t, a1, b1⟩ := kk (T.setVm vm') hT (X.noted hW')
  refine ⟨t, ?_, b1⟩
  obtain ⟨hgo, hw⟩ := X.here.throwing (g := F0 m pc ls rest) q
  refine Steps.head hgo hw ?_
  rw [stepThread_throwing (frames_entered X.here.top _), (hc_step (S := (T.setTop (F0 m pc ls rest)).pushFrame (.throwing q)) (meth := meth) (code := c) (f := F0 m pc ls rest) X.method' X.code hend).1]
  have e9 : (((T.setTop (F0 m pc ls rest)).pushFrame (.throwing q)).setVm vm').setFrames (.java { F0 m pc ls rest with pc := x.handlerPc, stack := [.ref q] } :: T.frames.tail) = (T.setVm vm').setTop (F0 m x.handlerPc ls [.ref q]) := by
    rw [hS, hg1, List.tail_cons, State.setTop_of_frames (s := T.setVm vm') _ hg1]
    show ((T.setVm vm').setFrames _).setFrames _ = _
    rw [State.setFrames_setFrames]
  rw [e9]
  exact a1
end HC

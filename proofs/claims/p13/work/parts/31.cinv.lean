/-! the class: what each cell is, by its kind; contracts' start, ends and calls -/
abbrev kS : Type := ClassId × ClassId × ClassId × ClassId
abbrev rfs (g : Nat → Option Nat) : (Nat → Int32) ⊕ (Nat → Int64) ⊕ (Nat → UInt32) ⊕ (Nat → UInt64) ⊕ (Nat → Option Nat) := .inr (.inr (.inr (.inr g)))
/-- r is a cell of kind k -/
def ty (τ : Nat → Nat) (L : List Nat) (r k : Nat) : Prop := r ∈ L ∧ τ r = k
/-- r is one of the six OBJECTS -/
def tyS (τ : Nat → Nat) (L : List Nat) (r : Nat) : Prop := r ∈ L ∧ (τ r = 0 ∨ τ r = 1 ∨ τ r = 2 ∨ τ r = 3 ∨ τ r = 4 ∨ τ r = 6)
def tyO (τ : Nat → Nat) (L : List Nat) (r : Option Nat) (k : Nat) : Prop := ∀ y, r = some y → ty τ L y k
def tySO (τ : Nat → Nat) (L : List Nat) (r : Option Nat) : Prop := ∀ y, r = some y → tyS τ L y
def cOk (ks : kS) (τ : Nat → Nat) (L : List Nat) (ψ : Int32) (e : va_E) (k : Nat) : Prop :=
  if k = 0 then ∃ (n k r o d : _), e = .inr (0, [.int n, .int k, .ref r, .int o, .int d]) ∧ ty τ L r 5
  else if k = 1 then ∃ (n k r b h : _), e = .inr (1, [.int n, .int k, .ref r, .int b, .int h]) ∧ ty τ L r 5
  else if k = 2 then ∃ (n k r h : _), e = .inr (2, [.int n, .int k, .ref r, .int h]) ∧ ty τ L r 5
  else if k = 3 then ∃ (n k r o b h q : _), e = .inr (3, [.int n, .int k, .ref r, .int o, .int b, .int h, .ref q]) ∧ ty τ L r 5 ∧ ty τ L q 5
  else if k = 4 then ∃ (n k r q h z : _) (c : Nat), e = .inr (4, [.int n, .int k, .ref r, .ref q, .int h, .int z]) ∧ ty τ L r 5 ∧ ty τ L q (100 + c) ∧ (1 ≤ c ∧ c ≤ 100) ∧ 0 ≤ h ∧ h < nI c
  else if k = 5 then ∃ (n q : _), e = .inr (5, [.int n, .ref q]) ∧ (0 ≤ n ∧ n ≤ 8) ∧ ty τ L q 13
  else if k = 6 then ∃ (n k r p : _), e = .inr (6, [.int n, .int k, .ref r, .int p]) ∧ ty τ L r 5
  else if k = 7 then ∃ (n st x at9 w i wk sy rw kp an cd sz : _), e = .inr (7, [.int n, .int st, .int x, .int at9, .int w, .int i, .long wk, va_rf sy, va_rf rw, .int kp, .int an, .ref cd, .int sz]) ∧ tySO τ L sy ∧ tyO τ L rw 5 ∧ ty τ L cd 12
  else if k = 8 then ∃ (cd sz pl by9 at9 : _), e = .inr (8, [.ref cd, .int sz, .int ψ, .int pl, .ref by9, .int at9]) ∧ ty τ L cd 12 ∧ ty τ L by9 11 ∧ (0 ≤ ψ ∧ ψ ≤ 1600) ∧ 0 ≤ at9 ∧ at9 ≤ 1601
  else if k = 9 then ∃ (tp sy st : _) (ck sp : Int64) (la : Int32), e = .inr (9, [.ref tp, .ref sy, .ref st, .long ck, .long sp, .int la]) ∧ ty τ L tp 8 ∧ ty τ L sy 15 ∧ ty τ L st 14
  else if k = 11 then ∃ g, e = .inl (ks.1, 1600, .inl g)
  else if k = 12 then ∃ g, e = .inl (ks.2.1, 240, .inl g)
  else if k = 13 then ∃ g, e = .inl (ks.2.2.1, 8, rfs g) ∧ ∀ j, tyO τ L (g j) 7
  else if k = 14 then ∃ g, e = .inl (ks.2.2.1, 8, rfs g) ∧ ∀ j, j < 8 → ∃ y, g j = some y ∧ ty τ L y 7
  else if k = 15 then ∃ g, e = .inl (ks.2.2.2, 24, rfs g) ∧ ∀ j, tySO τ L (g j)
  else if k = 99 then True
  else ∃ g, e = .inl (ks.2.1, k - 100, .inl g) ∧ 101 ≤ k ∧ k ≤ 200
def cI (ks : kS) (τ : Nat → Nat) (L : List Nat) (ψ : Int32) (f : Nat → va_E) : Prop := ∀ a, a ∈ L → cOk ks τ L ψ (f a) (τ a)
theorem cI_up {ks : kS} {τ : Nat → Nat} {L : List Nat} {ψ : Int32} {f f1 : Nat → va_E} {a k : Nat} {e : va_E} (h : cI ks τ L ψ f) (hk : τ a = k) (e1 : f1 = va_up f a e) (he : cOk ks τ L ψ e k) : cI ks τ L ψ f1 := by
  intro b hb
  rw [e1]
  by_cases q : b = a
  · subst q; rw [va_up_self, hk]; exact he
  · rw [va_up_ne _ _ q]; exact h b hb
theorem up_s {f f1 : Nat → va_E} {a : Nat} {e : va_E} (e1 : f1 = va_up f a e) : f1 a = e := by rw [e1, va_up_self]
theorem up_n {τ : Nat → Nat} {f f1 : Nat → va_E} {a b k j : Nat} {e e2 : va_E} (e1 : f1 = va_up f a e) (ha : τ a = k) (hb : τ b = j) (hne : j ≠ k) (h : f b = e2) : f1 b = e2 := by
  rw [e1, va_up_ne _ _ (fun z => hne (by rw [← hb, z, ha]))]; exact h
section OP
variable {ks : kS} {τ : Nat → Nat} {L : List Nat} {ψ : Int32} {f : Nat → va_E} {a : Nat}
theorem op0 (h : cI ks τ L ψ f) (t : ty τ L a 0) : ∃ (n k r o d : _), f a = .inr (0, [.int n, .int k, .ref r, .int o, .int d]) ∧ ty τ L r 5 := by have q := h a t.1; rw [t.2] at q; simpa [cOk] using q
theorem op1 (h : cI ks τ L ψ f) (t : ty τ L a 1) : ∃ (n k r b h : _), f a = .inr (1, [.int n, .int k, .ref r, .int b, .int h]) ∧ ty τ L r 5 := by have q := h a t.1; rw [t.2] at q; simpa [cOk] using q
theorem op2 (h : cI ks τ L ψ f) (t : ty τ L a 2) : ∃ (n k r h : _), f a = .inr (2, [.int n, .int k, .ref r, .int h]) ∧ ty τ L r 5 := by have q := h a t.1; rw [t.2] at q; simpa [cOk] using q
theorem op3 (h : cI ks τ L ψ f) (t : ty τ L a 3) : ∃ (n k r o b h q : _), f a = .inr (3, [.int n, .int k, .ref r, .int o, .int b, .int h, .ref q]) ∧ ty τ L r 5 ∧ ty τ L q 5 := by have q := h a t.1; rw [t.2] at q; simpa [cOk] using q
theorem op4 (h : cI ks τ L ψ f) (t : ty τ L a 4) : ∃ (n k r q h z : _) (c : Nat), f a = .inr (4, [.int n, .int k, .ref r, .ref q, .int h, .int z]) ∧ ty τ L r 5 ∧ ty τ L q (100 + c) ∧ (1 ≤ c ∧ c ≤ 100) ∧ 0 ≤ h ∧ h < nI c := by have q := h a t.1; rw [t.2] at q; simpa [cOk] using q
theorem op5 (h : cI ks τ L ψ f) (t : ty τ L a 5) : ∃ (n q : _), f a = .inr (5, [.int n, .ref q]) ∧ (0 ≤ n ∧ n ≤ 8) ∧ ty τ L q 13 := by have q := h a t.1; rw [t.2] at q; simpa [cOk] using q
theorem op6 (h : cI ks τ L ψ f) (t : ty τ L a 6) : ∃ (n k r p : _), f a = .inr (6, [.int n, .int k, .ref r, .int p]) ∧ ty τ L r 5 := by have q := h a t.1; rw [t.2] at q; simpa [cOk] using q
theorem op7 (h : cI ks τ L ψ f) (t : ty τ L a 7) : ∃ (n st x at9 w i wk sy rw kp an cd sz : _), f a = .inr (7, [.int n, .int st, .int x, .int at9, .int w, .int i, .long wk, va_rf sy, va_rf rw, .int kp, .int an, .ref cd, .int sz]) ∧ tySO τ L sy ∧ tyO τ L rw 5 ∧ ty τ L cd 12 := by have q := h a t.1; rw [t.2] at q; simpa [cOk] using q
theorem op8 (h : cI ks τ L ψ f) (t : ty τ L a 8) : ∃ (cd sz pl by9 at9 : _), f a = .inr (8, [.ref cd, .int sz, .int ψ, .int pl, .ref by9, .int at9]) ∧ ty τ L cd 12 ∧ ty τ L by9 11 ∧ (0 ≤ ψ ∧ ψ ≤ 1600) ∧ 0 ≤ at9 ∧ at9 ≤ 1601 := by have q := h a t.1; rw [t.2] at q; simpa [cOk] using q
theorem op9 (h : cI ks τ L ψ f) (t : ty τ L a 9) : ∃ (tp sy st : _) (ck sp : Int64) (la : Int32), f a = .inr (9, [.ref tp, .ref sy, .ref st, .long ck, .long sp, .int la]) ∧ ty τ L tp 8 ∧ ty τ L sy 15 ∧ ty τ L st 14 := by have q := h a t.1; rw [t.2] at q; simpa [cOk] using q
theorem op11 (h : cI ks τ L ψ f) (t : ty τ L a 11) : ∃ g, f a = .inl (ks.1, 1600, .inl g) := by have q := h a t.1; rw [t.2] at q; simpa [cOk] using q
theorem op12 (h : cI ks τ L ψ f) (t : ty τ L a 12) : ∃ g, f a = .inl (ks.2.1, 240, .inl g) := by have q := h a t.1; rw [t.2] at q; simpa [cOk] using q
theorem op13 (h : cI ks τ L ψ f) (t : ty τ L a 13) : ∃ g, f a = .inl (ks.2.2.1, 8, rfs g) ∧ ∀ j, tyO τ L (g j) 7 := by have q := h a t.1; rw [t.2] at q; simpa [cOk] using q
theorem op14 (h : cI ks τ L ψ f) (t : ty τ L a 14) : ∃ g, f a = .inl (ks.2.2.1, 8, rfs g) ∧ ∀ j, j < 8 → ∃ y, g j = some y ∧ ty τ L y 7 := by have q := h a t.1; rw [t.2] at q; simpa [cOk] using q
theorem op15 (h : cI ks τ L ψ f) (t : ty τ L a 15) : ∃ g, f a = .inl (ks.2.2.2, 24, rfs g) ∧ ∀ j, tySO τ L (g j) := by have q := h a t.1; rw [t.2] at q; simpa [cOk] using q
theorem opN {c : Nat} (h : cI ks τ L ψ f) (t : ty τ L a (100 + c)) (hc : 1 ≤ c ∧ c ≤ 100) : ∃ g, f a = .inl (ks.2.1, c, .inl g) := by
  have q := h a t.1
  rw [t.2] at q
  unfold cOk at q
  rw [if_neg (by omega), if_neg (by omega), if_neg (by omega), if_neg (by omega), if_neg (by omega), if_neg (by omega), if_neg (by omega), if_neg (by omega), if_neg (by omega), if_neg (by omega), if_neg (by omega), if_neg (by omega), if_neg (by omega), if_neg (by omega), if_neg (by omega), if_neg (by omega)] at q
  obtain ⟨g, e, -⟩ := q
  exact ⟨g, by rw [e, show 100 + c - 100 = c by omega]⟩
end OP
/-- what stands outside: kept while nothing of it is written -/
def cNk (A : Nat → Prop) (N : State → Prop) : Prop := ∀ u U : State, u.WarmedH U.vm → u.heap.size ≤ U.heap.size → (∀ q : Nat, q < u.heap.size → ¬ A q → U.heap[q]? = u.heap[q]?) → N u → N U
def cB (D : va_G) (ks : kS) (τ : Nat → Nat) (L : List Nat) (A : Nat → Prop) (N : State → Prop) (x : Int32 × (Nat → va_E)) (U : State) : Prop := cV D L x.2 A U.heap ∧ cI ks τ L x.1 x.2 ∧ va_K D vwCl (cT ks) U ∧ N U
section CC
variable {p : Program} {l : Launch} {e : Env} {R : Room} {s : State} {m : MethodId} {args : Array Value} {below : List Frame} {meth : Method} {c : Code} {H : Heap} {locs : List Loc} {cells slots : Nat} {Q : State → Prop}
variable {cc : ByteArray} {pc : Nat} {ls : Array Slot} {rest : List Value} {D : va_G} {ks : kS} {τ : Nat → Nat} {L : List Nat} {A : Nat → Prop} {N : State → Prop} {ψ : Int32} {f : Nat → va_E} {H0 : Heap} {own : String} {a : Nat}
variable {y : MethodName} {cy : ByteArray} {n nL idx : Nat} {rm : Room} {As st0 av : List Value}
theorem cblind (hN : cNk A N) : FrameBlind (va_Pc av (cB D ks τ L A N (ψ, f))) := fun a U g mk q => by
  obtain ⟨q0, q1, q2, q3, q4⟩ := q
  exact ⟨q0, q1, q2, va_K.moved (u := U) (U := U.calling g mk a) (Vm.Alike.refl U.vm) q3, hN U (U.calling g mk a) (State.WarmedH.refl U) (Nat.le_refl _) (fun _ _ _ => rfl) q4⟩
theorem cMet {ret : Option FieldType} {Qc : Array Value → State → Outcome → State → Prop} (hy : plainName y.cls = true) (hown : y.cls = own) (hn : (lg_sl av).length ≤ n)
    (body : ∀ (p : Program) (e : Env) (s : State) (m : MethodId) (below : List Frame) (meth : Method) (c : Code) (ls : Array Slot), cC own p s m av.toArray c cy D ks → c.maxLocals = n → meth.sig.returnType = ret → meth.locks = false → cV D L f A s.heap → cI ks τ L ψ f → N s → lv_has ls n (lv_args 0 av) →
      W p l e rm s m av.toArray below meth c s.heap [] 0 0 (MQ below Qc av.toArray s 0 0 A) (F0 m 0 ls [])) :
    Met l y (Cond.code y cy n ret :: tC) rm (va_Pc av (cB D ks τ L A N (ψ, f))) Qc 0 0 A := by
  refine Met.ofW (cc := cy) (maxL := n) (ret := ret) hy rfl ?_
  intro p e s m args below meth c s₁ B hml hv
  obtain ⟨rfl, hV, hI, hK, hNs⟩ := hv
  have hts := atoms_spec (ws := Cond.code y cy n ret :: tC) B.pre
  have hf : s.vm.findClass y.cls = some m.cls := findClass_of_methodNamed B.named
  have hl := lv_entry av (n := n) hn
  rw [lg_entry_eq]
  exact body p e s m below meth c _ ⟨B.exec, B.bytes, hown ▸ hf, fun w h => hts w (List.mem_cons_of_mem _ h), hK⟩ hml B.returns B.notSynchronized hV hI hNs hl
theorem cNt {t : State} (hN : cNk A N) (hNs : N s) (hS : va_S A s.heap H locs) (ht : t.heap = H) (hW : s.WarmedH t.vm) : N t :=
  hN s t hW (by rw [ht]; exact hS.1) (fun q h1 h2 => by rw [ht]; exact hS.2.1 q h1 h2) hNs
theorem cRetV {post : Int32 × (Nat → va_E) → Prop} (C9 : cC own p s m args c cc D ks) (hr : meth.sig.returnType = none) (hlocks : meth.locks = false) (hN : cNk A N) (hNs : N s) (V : cV D L f A H) (I : cI ks τ L ψ f) (hS : va_S A s.heap H locs) (hp : post (ψ, f)) (hdg : decode cc pc = .ok (.return_, 1)) :
    W p l e R s m args below meth c H locs cells slots (MQ below (va_Qv post (cB D ks τ L A N) A) args s cells slots A) (F0 m pc ls []) := by
  obtain ⟨hx, hb, -, -, hK⟩ := C9
  exact W.vret hx hb hr (fun t ht hW => ⟨⟨(ψ, f), rfl, hp, by rw [ht]; exact V, I, va_K.moved hW.alike hK, cNt hN hNs hS ht hW⟩, hS.F ht⟩) hS.2.2 hdg hlocks
theorem cRetI {post : Int32 → Int32 × (Nat → va_E) → Prop} {v : Int32} (C9 : cC own p s m args c cc D ks) (hr : meth.sig.returnType = some .int) (hlocks : meth.locks = false) (hN : cNk A N) (hNs : N s) (V : cV D L f A H) (I : cI ks τ L ψ f) (hS : va_S A s.heap H locs) (hp : post v (ψ, f)) (hdg : decode cc pc = .ok (.ireturn, 1)) :
    W p l e R s m args below meth c H locs cells slots (MQ below (va_Qi post (cB D ks τ L A N) A) args s cells slots A) (F0 m pc ls [.int v]) := by
  obtain ⟨hx, hb, -, -, hK⟩ := C9
  exact W.iret hx hb hr (fun t ht hW => ⟨⟨v, (ψ, f), rfl, hp, by rw [ht]; exact V, I, va_K.moved hW.alike hK, cNt hN hNs hS ht hW⟩, hS.F ht⟩) hS.2.2 hdg hlocks
theorem cRetZ {post : Int32 → Int32 × (Nat → va_E) → Prop} {v : Int32} (C9 : cC own p s m args c cc D ks) (hr : meth.sig.returnType = some .boolean) (hlocks : meth.locks = false) (hN : cNk A N) (hNs : N s) (V : cV D L f A H) (I : cI ks τ L ψ f) (hS : va_S A s.heap H locs) (hv : narrow .boolean (.int v) = .int v) (hp : post v (ψ, f)) (hdg : decode cc pc = .ok (.ireturn, 1)) :
    W p l e R s m args below meth c H locs cells slots (MQ below (va_Qi post (cB D ks τ L A N) A) args s cells slots A) (F0 m pc ls [.int v]) := by
  obtain ⟨hx, hb, -, -, hK⟩ := C9
  exact W.zret hx hb hr hv (fun t ht hW => ⟨⟨v, (ψ, f), rfl, hp, by rw [ht]; exact V, I, va_K.moved hW.alike hK, cNt hN hNs hS ht hW⟩, hS.F ht⟩) hS.2.2 hdg hlocks
theorem cRetL {post : Int64 → Int32 × (Nat → va_E) → Prop} {v : Int64} (C9 : cC own p s m args c cc D ks) (hr : meth.sig.returnType = some .long) (hlocks : meth.locks = false) (hN : cNk A N) (hNs : N s) (V : cV D L f A H) (I : cI ks τ L ψ f) (hS : va_S A s.heap H locs) (hp : post v (ψ, f)) (hdg : decode cc pc = .ok (.lreturn, 1)) :
    W p l e R s m args below meth c H locs cells slots (MQ below (va_Ql post (cB D ks τ L A N) A) args s cells slots A) (F0 m pc ls [.long v]) := by
  obtain ⟨hx, hb, -, -, hK⟩ := C9
  exact W.lret hx hb hr (fun t ht hW => ⟨⟨v, (ψ, f), rfl, hp, by rw [ht]; exact V, I, va_K.moved hW.alike hK, cNt hN hNs hS ht hW⟩, hS.F ht⟩) hS.2.2 hdg hlocks
theorem cRetR {post : Option Nat → Int32 × (Nat → va_E) → Prop} {v : Option Nat} {C : String} (C9 : cC own p s m args c cc D ks) (hr : meth.sig.returnType = some (.object C)) (hlocks : meth.locks = false) (hN : cNk A N) (hNs : N s) (V : cV D L f A H) (I : cI ks τ L ψ f) (hS : va_S A s.heap H locs) (hp : post v (ψ, f)) (hdg : decode cc pc = .ok (.areturn, 1)) :
    W p l e R s m args below meth c H locs cells slots (MQ below (va_Qq post (cB D ks τ L A N) A) args s cells slots A) (F0 m pc ls [va_rf v]) := by
  obtain ⟨hx, hb, -, -, hK⟩ := C9
  exact W.aret hx hb hr (Or.inl ⟨_, rfl⟩) (by cases v <;> simp [va_rf]) (fun t ht hW => ⟨⟨v, (ψ, f), rfl, hp, by rw [ht]; exact V, I, va_K.moved hW.alike hK, cNt hN hNs hS ht hW⟩, hS.F ht⟩) hS.2.2 hdg hlocks
end CC
-- cells as they must be
section MK
variable {ks : kS} {τ : Nat → Nat} {L : List Nat} {ψ : Int32}
theorem mk0 {n k o d : Int32} {r : Nat} (h1 : ty τ L r 5) : cOk ks τ L ψ (.inr (0, [.int n, .int k, .ref r, .int o, .int d])) 0 := by simp [cOk, h1]
theorem mk1 {n k b h : Int32} {r : Nat} (h1 : ty τ L r 5) : cOk ks τ L ψ (.inr (1, [.int n, .int k, .ref r, .int b, .int h])) 1 := by simp [cOk, h1]
theorem mk2 {n k h : Int32} {r : Nat} (h1 : ty τ L r 5) : cOk ks τ L ψ (.inr (2, [.int n, .int k, .ref r, .int h])) 2 := by simp [cOk, h1]
theorem mk3 {n k o b h : Int32} {r q : Nat} (h1 : ty τ L r 5) (h2 : ty τ L q 5) : cOk ks τ L ψ (.inr (3, [.int n, .int k, .ref r, .int o, .int b, .int h, .ref q])) 3 := by
  show ∃ _, _
  exact ⟨n, k, r, o, b, h, q, rfl, h1, h2⟩
theorem mk4 {n k h z : Int32} {r q c : Nat} (h1 : ty τ L r 5) (h2 : ty τ L q (100 + c)) (h3 : 1 ≤ c ∧ c ≤ 100) (h4 : 0 ≤ h) (h5 : h < nI c) : cOk ks τ L ψ (.inr (4, [.int n, .int k, .ref r, .ref q, .int h, .int z])) 4 := by
  show ∃ _, _
  exact ⟨n, k, r, q, h, z, c, rfl, h1, h2, h3, h4, h5⟩
theorem mk5 {n : Int32} {q : Nat} (h1 : 0 ≤ n ∧ n ≤ 8) (h2 : ty τ L q 13) : cOk ks τ L ψ (.inr (5, [.int n, .ref q])) 5 := by simp [cOk, h1, h2]
theorem mk6 {n k p : Int32} {r : Nat} (h1 : ty τ L r 5) : cOk ks τ L ψ (.inr (6, [.int n, .int k, .ref r, .int p])) 6 := by simp [cOk, h1]
theorem mk7 {n st x at9 w i kp an sz : Int32} {wk : Int64} {sy rw : Option Nat} {cd : Nat} (h1 : tySO τ L sy) (h2 : tyO τ L rw 5) (h3 : ty τ L cd 12) : cOk ks τ L ψ (.inr (7, [.int n, .int st, .int x, .int at9, .int w, .int i, .long wk, va_rf sy, va_rf rw, .int kp, .int an, .ref cd, .int sz])) 7 := by
  show ∃ _, _
  exact ⟨n, st, x, at9, w, i, wk, sy, rw, kp, an, cd, sz, rfl, h1, h2, h3⟩
theorem mk12 {g : Nat → Int32} : cOk ks τ L ψ (.inl (ks.2.1, 240, .inl g)) 12 := by simp [cOk]
theorem mk13 {g : Nat → Option Nat} (h : ∀ j, tyO τ L (g j) 7) : cOk ks τ L ψ (.inl (ks.2.2.1, 8, rfs g)) 13 := by
  show ∃ _, _
  exact ⟨g, rfl, h⟩
theorem tyO_n {k : Nat} : tyO τ L none k := fun _ h => by cases h
theorem tyO_s {y k : Nat} (h : ty τ L y k) : tyO τ L (some y) k := fun _ q => by cases q; exact h
theorem tySO_n : tySO τ L none := fun _ h => by cases h
theorem tySO_s {y : Nat} (h : tyS τ L y) : tySO τ L (some y) := fun _ q => by cases q; exact h
theorem tyO_up {g : Nat → Option Nat} {i k : Nat} {v : Option Nat} (h : ∀ j, tyO τ L (g j) k) (hv : tyO τ L v k) : ∀ j, tyO τ L (va_up g i v j) k := by
  intro j
  by_cases q : j = i
  · subst q; rw [va_up_self]; exact hv
  · rw [va_up_ne _ _ q]; exact h j
end MK
theorem tyS_of {τ : Nat → Nat} {L : List Nat} {y k : Nat} (h : ty τ L y k) (hk : k = 0 ∨ k = 1 ∨ k = 2 ∨ k = 3 ∨ k = 4 ∨ k = 6) : tyS τ L y := ⟨h.1, by rw [h.2]; exact hk⟩
theorem mkN {ks : kS} {τ : Nat → Nat} {L : List Nat} {ψ : Int32} {c : Nat} {g : Nat → Int32} (hc : 1 ≤ c ∧ c ≤ 100) : cOk ks τ L ψ (.inl (ks.2.1, c, .inl g)) (100 + c) := by
  unfold cOk
  rw [if_neg (by omega), if_neg (by omega), if_neg (by omega), if_neg (by omega), if_neg (by omega), if_neg (by omega), if_neg (by omega), if_neg (by omega), if_neg (by omega), if_neg (by omega), if_neg (by omega), if_neg (by omega), if_neg (by omega), if_neg (by omega), if_neg (by omega), if_neg (by omega)]
  exact ⟨g, by rw [show 100 + c - 100 = c by omega], by omega, by omega⟩
theorem mk11 {ks : kS} {τ : Nat → Nat} {L : List Nat} {ψ : Int32} {g : Nat → Int32} : cOk ks τ L ψ (.inl (ks.1, 1600, .inl g)) 11 := by simp [cOk]
theorem cq_in {i : Int32} {c : Nat} (hc : 1 ≤ c ∧ c ≤ 100) (h0 : 0 ≤ i) (h1 : i < nI c) : vp_in i c := by
  rw [vp_in_iff]
  have a : (0 : Int) ≤ i.toInt := Int32.le_iff_toInt_le.mp h0
  have b := Int32.lt_iff_toInt_lt.mp h1
  rw [nI_toInt (by omega)] at b
  exact ⟨a, b⟩
theorem cq_n {c : Nat} (hc : 1 ≤ c ∧ c ≤ 100) : 1 ≤ nI c ∧ nI c ≤ 100 := by
  have a := nI_le (a := 1) hc.1 (by omega)
  have b := nI_le (b := 100) hc.2 (by decide)
  exact ⟨a, b⟩
theorem cq_h {h x : Int32} {c : Nat} (e : x = h + 1) (h0 : 0 ≤ h) (h1 : h < nI c) (hc : 1 ≤ c ∧ c ≤ 100) (hl : ¬ nI c ≤ h + 1) : 0 ≤ x ∧ x < nI c := by
  have q := cq_n hc
  generalize nI c = N at *
  subst e; clear hc; grind
theorem cq_0 {c : Nat} (hc : 1 ≤ c ∧ c ≤ 100) : (0 : Int32) ≤ 0 ∧ (0 : Int32) < nI c := by
  have q := cq_n hc
  generalize nI c = N at *
  clear hc; grind

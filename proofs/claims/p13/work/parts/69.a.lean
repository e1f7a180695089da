/-! the law's helpers: words, their world, rows (laid by wip/gen_help.py) -/
def tH : List Cond := [.classLink RL 13 "java/lang/IndexOutOfBoundsException", .methodLink RL 7 yX12_feed, .instanceMethod yX12_feed, .selects RX12 yX12_feed yX12_feed, .classLink RL 19 "java/lang/IllegalArgumentException", .methodLink RL 15 yX12_end, .instanceMethod yX12_end, .selects RX12 yX12_end yX12_end, .classLink RL 25 "java/lang/IllegalStateException", .methodLink RL 21 yX12_make, .instanceMethod yX12_make, .selects RX12 yX12_make yX12_make, .classLink RL 30 "java/util/NoSuchElementException", .methodLink RL 27 yX12_drop, .instanceMethod yX12_drop, .selects RX12 yX12_drop yX12_drop, .classLink RL 36 "java/lang/UnsupportedOperationException", .methodLink RL 32 yX12_thread, .instanceMethod yX12_thread, .selects RX12 yX12_thread yX12_thread, .methodLink RL 38 yX12_step, .instanceMethod yX12_step, .selects RX12 yX12_step yX12_step, .methodLink RL 41 yX12_run, .instanceMethod yX12_run, .selects RX12 yX12_run yX12_run, .methodLink RL 45 yX12_tick, .instanceMethod yX12_tick, .selects RX12 yX12_tick yX12_tick, .methodLink RL 48 yX12_interrupt, .instanceMethod yX12_interrupt, .selects RX12 yX12_interrupt yX12_interrupt, .methodLink RL 51 yX12_look, .instanceMethod yX12_look, .selects RX12 yX12_look yX12_look, .methodLink RL 54 yX12_sync, .instanceMethod yX12_sync, .selects RX12 yX12_sync yX12_sync, .methodLink RL 58 yX12_count, .instanceMethod yX12_count, .selects RX12 yX12_count yX12_count]
def tL : List Cond := tH ++ tC
theorem tH_good : tH.all goodWord = true := by decide +kernel
theorem tL_C : ∀ w ∈ tC, w ∈ tL := fun w h => List.mem_append_right _ h
theorem tL_self : GoodIn tL tL := goodIn_sub (fun _ h => h) (by unfold tL; rw [List.all_append, tH_good, tC_good]; rfl)
theorem gH_v {own C : String} {idx : Nat} {y : MethodName} {cy : Cond} (h1 : Cond.methodLink own idx y ∈ tL) (h2 : Cond.instanceMethod y ∈ tL) (h3 : Cond.selects C y y ∈ tL) (h4 : Cond.initialized C ∈ tL) (h5 : cy ∈ tL) : GoodIn tL (wsV own idx C y (cy :: tC)) := by
  intro w hw
  rcases List.mem_append.mp hw with h | h
  · simp only [List.mem_cons, List.not_mem_nil, or_false] at h
    rcases h with rfl | rfl | rfl | rfl
    · exact tL_self _ h1
    · exact tL_self _ h2
    · exact tL_self _ h3
    · exact tL_self _ h4
  · rcases List.mem_cons.mp h with rfl | h
    · exact tL_self _ h5
    · exact tL_self _ (tL_C _ h)
def nNx : List (String × String) := [("java/lang/IllegalStateException", "java/lang/IllegalArgumentException"), ("java/lang/IllegalStateException", "java/util/NoSuchElementException"), ("java/lang/UnsupportedOperationException", "java/lang/IllegalStateException"), ("java/lang/IllegalArgumentException", "java/util/NoSuchElementException"), ("java/lang/UnsupportedOperationException", "java/util/NoSuchElementException"), ("java/lang/UnsupportedOperationException", "java/lang/IllegalArgumentException")]
/-- what the class may write, and the answers' cell -/
def Ah (A : Nat → Prop) (ao : Nat) : Nat → Prop := fun q => A q ∨ q = ao
/-- what stands outside of both -/
def nH (κ : kC) (A : Nat → Prop) (ao : Nat) (U : State) : Prop := N0 κ (Ah A ao) U ∧ ao < U.heap.size ∧ ∀ x ∈ nNx, va_Nc x.1 x.2 U
theorem N0_nar {κ : kC} {A B : Nat → Prop} {U : State} (h : N0 κ A U) (hAB : ∀ q, B q → A q) (hB : ∀ q, U.heap.size ≤ q → B q) : N0 κ B U := by
  obtain ⟨h1, h2, h3, ⟨tw, h4a, h4b⟩, ⟨ts, h5a, h5b⟩, h6, h7, h7b, h8, h9, h10, ⟨h11, h12⟩, h14, h13⟩ := h
  refine ⟨fun i hi => ?_, fun j hj => ?_, h3, ⟨tw, h4a.narrow hAB, h4b.narrow hAB⟩, ⟨ts, h5a.narrow hAB, h5b.narrow hAB⟩, fun x hx => (h6 x hx).narrow hAB, h7.narrow hAB, h7b.narrow hAB, h8, h9, h10, ⟨h11.narrow hAB, h12.narrow hAB⟩, h14, hB⟩
  · obtain ⟨a1, a2, a3, a4, a5⟩ := h1 i hi
    exact ⟨a1.narrow hAB, a2.narrow hAB, a3.narrow hAB, a4.narrow hAB, a5.narrow hAB⟩
  · obtain ⟨a1, a2, a3, a4⟩ := h2 j hj
    exact ⟨a1.narrow hAB, a2.narrow hAB, a3.narrow hAB, a4.narrow hAB⟩
theorem nH_k {κ : kC} {A : Nat → Prop} {ao : Nat} : cNk (Ah A ao) (nH κ A ao) := fun u U hW hz hq h => ⟨N0_k u U hW hz hq h.1, Nat.lt_of_lt_of_le h.2.1 hz, fun x hx => va_Nc.moved hW.alike (h.2.2 x hx)⟩
theorem nH_kA {κ : kC} {A : Nat → Prop} {ao : Nat} : cNk A (nH κ A ao) := fun u U hW hz hq h => nH_k u U hW hz (fun q h1 h2 => hq q h1 (fun z => h2 (Or.inl z))) h
theorem nH_0 {κ : kC} {A : Nat → Prop} {ao : Nat} : ∀ U, nH κ A ao U → N0 κ A U := fun U h => N0_nar h.1 (fun q z => Or.inl z) (fun q hq => (h.1.2.2.2.2.2.2.2.2.2.2.2.2.2 q hq).resolve_right (fun z => Nat.lt_irrefl _ (Nat.lt_of_lt_of_le h.2.1 (by rw [← z]; exact hq))))
def oP (D : va_G) (cL : ClassId) (ao : Nat) (g : Nat → Int64) (H : Heap) : Prop := va_P D vwCl [(ao, .inl (cL, 1, .inr (.inl g)))] H
theorem oP_lt {D : va_G} {cL : ClassId} {ao : Nat} {g : Nat → Int64} {H : Heap} (h : oP D cL ao g H) : ao < H.size := (h 0 _ rfl).lt
theorem oP_k {D : va_G} {cL : ClassId} {ao : Nat} {g : Nat → Int64} {H H1 : Heap} (h : oP D cL ao g H) (hq : H1[ao]? = H[ao]?) : oP D cL ao g H1 := va_P.kept h (fun k q hk => by
  have hz : k < 1 := (List.getElem?_eq_some_iff.mp hk).1
  rw [show k = 0 by omega] at hk
  cases hk
  exact hq)
abbrev hXx : Type := Int32 × (Nat → va_E) × (Nat → Int64)
def hB (D : va_G) (ks : kS) (τ : Nat → Nat) (L : List Nat) (A : Nat → Prop) (κ : kC) (cL : ClassId) (ao : Nat) (x : hXx) (U : State) : Prop := cB D ks τ L A (nH κ A ao) (x.1, x.2.1) U ∧ oP D cL ao x.2.2 U.heap ∧ va_K D vwCl [(cL, .long)] U
def hC (p : Program) (s : State) (m : MethodId) (args : Array Value) (c : Code) (cc : ByteArray) (D : va_G) (ks : kS) (cL : ClassId) : Prop := p.tables.exec = Jvm.exec ∧ c.code = cc ∧ s.vm.findClass RL = some m.cls ∧ (∀ w ∈ tL, w.before args s = true) ∧ va_K D vwCl (cT ks) s ∧ va_K D vwCl [(cL, .long)] s
section HR
variable {p : Program} {l : Launch} {e : Env} {R : Room} {s : State} {m : MethodId} {args : Array Value} {below : List Frame} {meth : Method} {c : Code} {H : Heap} {locs : List Loc} {cells slots : Nat} {Q : State → Prop}
variable {cc : ByteArray} {pc : Nat} {ls : Array Slot} {rest : List Value} {D : va_G} {ks : kS} {τ : Nat → Nat} {L : List Nat} {A : Nat → Prop} {ψ : Int32} {f : Nat → va_E} {g : Nat → Int64} {a ao : Nat} {κ : kC} {cL : ClassId}
variable {y : MethodName} {cy : ByteArray} {n nL idx mc ms : Nat} {rm : Room} {As st0 av : List Value} {Qc : Array Value → State → Outcome → State → Prop} {Es : List String} {px : String → Int32 × (Nat → va_E) → Prop}
theorem hblind : FrameBlind (va_Pc av (hB D ks τ L A κ cL ao (ψ, f, g))) := fun a U gf mk q => by
  obtain ⟨q0, q1, q2, q3⟩ := q
  exact ⟨q0, (cblind (av := av) nH_kA a U gf mk ⟨q0, q1⟩).2, q2, va_K.moved (u := U) (U := U.calling gf mk a) (Vm.Alike.refl U.vm) q3⟩
theorem hMet {hh : List (Nat × Nat × Nat × Nat)} (hy : plainName y.cls = true) (hown : y.cls = RL) (hn : (lg_sl av).length ≤ n)
    (body : ∀ (p : Program) (e : Env) (s : State) (m : MethodId) (below : List Frame) (meth : Method) (c : Code) (ls : Array Slot), hC p s m av.toArray c cy D ks cL → c.maxLocals = n → meth.sig.returnType = some .int → meth.locks = false → c.exceptionTable.toList = tableOf hh → cV D L f A s.heap → cI ks τ L ψ f → nH κ A ao s → oP D cL ao g s.heap → lv_has ls n (lv_args 0 av) →
      W p l e rm s m av.toArray below meth c s.heap [] 0 0 (MQ below Qc av.toArray s mc ms (Ah A ao)) (F0 m 0 ls [])) :
    Met l y (Cond.codeWith y cy n (some .int) hh :: tL) rm (va_Pc av (hB D ks τ L A κ cL ao (ψ, f, g))) Qc mc ms (Ah A ao) := by
  refine MetFree.of_bodyS (code := cy) (maxLocals := n) (ret := some .int) hy ?_ ?_
  · intro args s m h hn9
    obtain ⟨m9, meth, c, hn8, h1, h2, h3, h4, -, h5, h6, -⟩ := Cond.codeWith_spec (atoms_spec (ws := Cond.codeWith y cy n (some .int) hh :: tL) h _ List.mem_cons_self)
    cases hn9.symm.trans hn8
    exact ⟨meth, c, h1, h2, h3, h4, h5, h6⟩
  · intro p e s m args below meth c s₁ B hml hv _
    obtain ⟨rfl, ⟨hV, hI, hK, hN⟩, hO, hK2⟩ := hv
    have hts := atoms_spec (ws := Cond.codeWith y cy n (some .int) hh :: tL) B.pre
    have hf : s.vm.findClass y.cls = some m.cls := findClass_of_methodNamed B.named
    have hl := lv_entry av (n := n) hn
    have hh0 : s₁.heap = s.heap := by rw [B.state]; rfl
    have K := body p e s m below meth c _ ⟨B.exec, B.bytes, hown ▸ hf, fun w h => hts w (List.mem_cons_of_mem _ h), hK, hK2⟩ hml B.returns B.notSynchronized (vx_table (x := y) B (hts _ List.mem_cons_self)) hV hI hN hO hl
    rw [← lg_entry_eq] at K
    obtain ⟨t, a1, o, b1, b2, b3⟩ := K s₁ hh0 (Stand.of_body B)
    exact ⟨t, o, a1, b1, b2, ⟨b3.1, b3.2⟩⟩
/-- the class is called -/
theorem hRun {XC : String → State → State → Prop} {ret : Option FieldType} {fs : List Value} (C : hC p s m args c cc D ks cL) (hml : c.maxLocals = nL) (hN : nH κ A ao s) (V : cV D L f A H) (I : cI ks τ L ψ f) (hS : va_S (Ah A ao) s.heap H locs) (ha : a ∈ L) (hf : f a = .inr (9, fs))
    (hM : vx_Met l y (Cond.code y cy n ret :: tC) rm (va_Pc (.ref a :: As) (cB D ks τ L A (nH κ A ao) (ψ, f))) Qc XC mc ms A) (hg : GoodIn tL (wsV RL idx RX12 y (Cond.code y cy n ret :: tC))) (hk : cOkY y RX12 As.length)
    (hR : rm.cells = mc ∧ rm.slots = ms ∧ rm.frames + 1 ≤ R.frames ∧ 8 + (n + 11) + rm.locals ≤ R.locals) (hsz : ls.size = nL) (hst : st0 = As.reverse ++ .ref a :: rest) (hro : (rest.map fun v => v.category).sum ≤ 8)
    (hdg : decode cc pc = .ok (.invokevirtual idx, 3)) (hcs : cells + mc ≤ R.cells ∧ slots + ms ≤ R.slots) :
    vx_Run p l e R s m args below meth c H locs cells slots mc ms (F0 m pc ls st0) rest (Qc (Value.ref a :: As).toArray) XC A := by
  obtain ⟨hx, hb, hown, hts, hK, -⟩ := C
  obtain ⟨q0, hq⟩ := va_pl0 (f := f) ha
  rw [hf] at hq
  exact vx_runV (As := As) (rest := rest) ⟨hx, hb, hml, hown, hts⟩ hM (cwV As.length hts hg rfl hR.1 hR.2.1 hk hR.2.2) ⟨cblind nH_kA, va_recv hK V.1 (q := (RX12, TX12, 6)) rfl hq, fun U hU hW => ⟨rfl, by rw [hU]; exact V, I, va_K.moved hW.alike hK, cNt (A := Ah A ao) nH_k hN hS hU hW⟩⟩ rfl rfl hsz hst (lv_room hro) hdg hcs
theorem hGoI {post : Int32 → Int32 × (Nat → va_E) → Prop} {a : Array Value} (hr : vx_Run p l e R s m args below meth c H locs cells slots mc ms (F0 m pc ls st0) rest (va_Qi post (cB D ks τ L A (nH κ A ao)) A a) (cX D ks τ L A Es px) A) (hS : va_S (Ah A ao) s.heap H locs) (hO : oP D cL ao g H) (hao : ¬ A ao)
    (kx : ∀ (E : String) (ce : Cell) (q9 : Addr) (ψ1 : Int32) (f1 : Nat → va_E) (H1 : Heap) (locs1 : List Loc), E ∈ Es → px E (ψ1, f1) → cV D L f1 A H1 → cI ks τ L ψ1 f1 → oP D cL ao g H1 → va_S (Ah A ao) s.heap H1 locs1 → H1[q9]? = some ce → ce.vm = .none → s.vm.findClass E = some ce.cls → vx_W p l e R s m args below meth c H1 locs1 (cells + mc) (slots + ms) Q (F0 m pc ls rest) q9)
    (kk : ∀ (r : Int32) (ψ1 : Int32) (f1 : Nat → va_E) (H1 : Heap) (locs1 : List Loc), post r (ψ1, f1) → cV D L f1 A H1 → cI ks τ L ψ1 f1 → oP D cL ao g H1 → va_S (Ah A ao) s.heap H1 locs1 → W p l e R s m args below meth c H1 locs1 (cells + mc) (slots + ms) Q (F0 m (pc + 3) ls (.int r :: rest))) : W p l e R s m args below meth c H locs cells slots Q (F0 m pc ls st0) :=
  vx_calli hr hS (fun _ _ h => Or.inl h) (fun _ h => Or.inl h) (fun _ _ h => Or.inl h)
    (fun E ce q9 u t H1 locs1 ht al hp hb hz hk hS1 hc hv hcl => kx E ce q9 u.1 u.2 H1 locs1 hb.1.1 hb.1.2 (by rw [← ht]; exact hb.2.1) hb.2.2.1 (oP_k hO (hk ao (oP_lt hO) hao)) hS1 hc hv hcl)
    (fun r u t H1 locs1 ht al hp hB hz hk hS1 => kk r u.1 u.2 H1 locs1 hp (by rw [← ht]; exact hB.1) hB.2.1 (oP_k hO (hk ao (oP_lt hO) hao)) hS1)
theorem hGoL {post : Int64 → Int32 × (Nat → va_E) → Prop} {a : Array Value} (hr : vx_Run p l e R s m args below meth c H locs cells slots mc ms (F0 m pc ls st0) rest (va_Ql post (cB D ks τ L A (nH κ A ao)) A a) (cX D ks τ L A Es px) A) (hS : va_S (Ah A ao) s.heap H locs) (hO : oP D cL ao g H) (hao : ¬ A ao)
    (kx : ∀ (E : String) (ce : Cell) (q9 : Addr) (ψ1 : Int32) (f1 : Nat → va_E) (H1 : Heap) (locs1 : List Loc), E ∈ Es → px E (ψ1, f1) → cV D L f1 A H1 → cI ks τ L ψ1 f1 → oP D cL ao g H1 → va_S (Ah A ao) s.heap H1 locs1 → H1[q9]? = some ce → ce.vm = .none → s.vm.findClass E = some ce.cls → vx_W p l e R s m args below meth c H1 locs1 (cells + mc) (slots + ms) Q (F0 m pc ls rest) q9)
    (kk : ∀ (r : Int64) (ψ1 : Int32) (f1 : Nat → va_E) (H1 : Heap) (locs1 : List Loc), post r (ψ1, f1) → cV D L f1 A H1 → cI ks τ L ψ1 f1 → oP D cL ao g H1 → va_S (Ah A ao) s.heap H1 locs1 → W p l e R s m args below meth c H1 locs1 (cells + mc) (slots + ms) Q (F0 m (pc + 3) ls (.long r :: rest))) : W p l e R s m args below meth c H locs cells slots Q (F0 m pc ls st0) :=
  vx_calll hr hS (fun _ _ h => Or.inl h) (fun _ h => Or.inl h) (fun _ _ h => Or.inl h)
    (fun E ce q9 u t H1 locs1 ht al hp hb hz hk hS1 hc hv hcl => kx E ce q9 u.1 u.2 H1 locs1 hb.1.1 hb.1.2 (by rw [← ht]; exact hb.2.1) hb.2.2.1 (oP_k hO (hk ao (oP_lt hO) hao)) hS1 hc hv hcl)
    (fun r u t H1 locs1 ht al hp hB hz hk hS1 => kk r u.1 u.2 H1 locs1 hp (by rw [← ht]; exact hB.1) hB.2.1 (oP_k hO (hk ao (oP_lt hO) hao)) hS1)
theorem hGoN {post : Int32 → nX → Prop} {a : Array Value} (hr : vx_Run p l e R s m args below meth c H locs cells slots mc ms (F0 m pc ls st0) rest (va_Qi post (cBn D ks A (nH κ A ao) ψ) A a) (cX D ks τ L A Es px) A) (hS : va_S (Ah A ao) s.heap H locs) (hO : oP D cL ao g H) (hao : ¬ A ao)
    (kx : ∀ (E : String) (ce : Cell) (q9 : Addr) (ψ1 : Int32) (f1 : Nat → va_E) (H1 : Heap) (locs1 : List Loc), E ∈ Es → px E (ψ1, f1) → cV D L f1 A H1 → cI ks τ L ψ1 f1 → oP D cL ao g H1 → va_S (Ah A ao) s.heap H1 locs1 → H1[q9]? = some ce → ce.vm = .none → s.vm.findClass E = some ce.cls → vx_W p l e R s m args below meth c H1 locs1 (cells + mc) (slots + ms) Q (F0 m pc ls rest) q9)
    (kk : ∀ (r : Int32) (f1 : Nat → va_E) (τ1 : Nat → Nat) (L1 : List Nat) (H1 : Heap) (locs1 : List Loc), post r (f1, τ1, L1) → cV D L1 f1 A H1 → cI ks τ1 L1 ψ f1 → oP D cL ao g H1 → va_S (Ah A ao) s.heap H1 locs1 → W p l e R s m args below meth c H1 locs1 (cells + mc) (slots + ms) Q (F0 m (pc + 3) ls (.int r :: rest))) : W p l e R s m args below meth c H locs cells slots Q (F0 m pc ls st0) :=
  vx_calli hr hS (fun _ _ h => Or.inl h) (fun _ h => Or.inl h) (fun _ _ h => Or.inl h)
    (fun E ce q9 u t H1 locs1 ht al hp hb hz hk hS1 hc hv hcl => kx E ce q9 u.1 u.2 H1 locs1 hb.1.1 hb.1.2 (by rw [← ht]; exact hb.2.1) hb.2.2.1 (oP_k hO (hk ao (oP_lt hO) hao)) hS1 hc hv hcl)
    (fun r u t H1 locs1 ht al hp hB hz hk hS1 => kk r u.1 u.2.1 u.2.2 H1 locs1 hp (by rw [← ht]; exact hB.1) hB.2.1 (oP_k hO (hk ao (oP_lt hO) hao)) hS1)
/-- the answer goes into the answers' cell -/
theorem hSt {x : Int64} (C : hC p s m args c cc D ks cL) (V : cV D L f A H) (hO : oP D cL ao g H) (hS : va_S (Ah A ao) s.heap H locs) (hao : ¬ A ao) (hdg : decode cc pc = .ok (.lastore, 1))
    (kk : ∀ (g1 : Nat → Int64) (H1 : Heap) (locs1 : List Loc), g1 0 = x → cV D L f A H1 → oP D cL ao g1 H1 → va_S (Ah A ao) s.heap H1 locs1 → W p l e R s m args below meth c H1 locs1 cells slots Q (F0 m (pc + 1) ls rest)) : W p l e R s m args below meth c H locs cells slots Q (F0 m pc ls (.long x :: .int 0 :: .ref ao :: rest)) := by
  obtain ⟨hx, hb, hown, hts, hK, hK2⟩ := C
  have hD : va_D (Ah A ao) [(ao, (.inl (cL, 1, .inr (.inl g)) : va_E))] := ⟨fun i j p q hi hj he => by
    have h1 : i < 1 := (List.getElem?_eq_some_iff.mp hi).1
    have h2 : j < 1 := (List.getElem?_eq_some_iff.mp hj).1
    omega, fun k q hk => by
    have h1 : k < 1 := (List.getElem?_eq_some_iff.mp hk).1
    rw [show k = 0 by omega] at hk
    cases hk
    exact Or.inr rfl⟩
  have hP : va_P D vwCl [(ao, .inl (cL, 1, .inr (.inl g)))] H := hO
  refine W.last hx hb (hP 0 _ rfl) ((hK2.2 0 _ rfl).1 1 (fun j => .long (g j))) (fun q => by cases q) (by show ¬ ((0 : Int32) < 0 ∨ (arrV cL 1 _).slots.size ≤ _); rw [arrV_size]; show ¬ ((0 : Int32) < 0 ∨ 1 ≤ Int32.toNatClampNeg 0); decide) rfl rfl hdg fun H1 e z oq => ?_
  refine kk (vp_updL g 0 x) H1 _ (by simp [vp_updL]) ⟨V.1.kept (fun k q hk => oq q.1 (fun z9 => hao (by have z8 : q.1 = ao := z9; rw [← z8]; exact V.2.2 k q hk))), V.2⟩ ?_ (hS.put z oq (Or.inr rfl))
  intro k q hk
  have h1 : k < 1 := (List.getElem?_eq_some_iff.mp hk).1
  rw [show k = 0 by omega] at hk
  cases hk
  show H1[ao]? = some (vp_cell _ _)
  rw [e, vp_cell_l, vp_cell_l, arrV_store]
  congr 2
  funext q
  by_cases hq : q = 0
  · subst hq; simp [updV, vp_updL]
  · simp [updV, vp_updL, hq]
theorem hRet {post : Int32 → hXx → Prop} {v : Int32} (C : hC p s m args c cc D ks cL) (hr : meth.sig.returnType = some .int) (hlk : meth.locks = false) (hN : nH κ A ao s) (V : cV D L f A H) (I : cI ks τ L ψ f) (hO : oP D cL ao g H) (hS : va_S (Ah A ao) s.heap H locs) (hp : post v (ψ, f, g)) (hdg : decode cc pc = .ok (.ireturn, 1)) :
    W p l e R s m args below meth c H locs cells slots (MQ below (va_Qi post (hB D ks τ L A κ cL ao) (Ah A ao)) args s cells slots (Ah A ao)) (F0 m pc ls [.int v]) := by
  obtain ⟨hx, hb, hown, hts, hK, hK2⟩ := C
  exact W.iret hx hb hr (fun t ht hW => ⟨⟨v, (ψ, f, g), rfl, hp, ⟨by rw [ht]; exact V, I, va_K.moved hW.alike hK, cNt (A := Ah A ao) nH_k hN hS ht hW⟩, by rw [ht]; exact hO, va_K.moved hW.alike hK2⟩, hS.F ht⟩) hS.2.2 hdg hlk
theorem hRetN {post : Int32 → nX × (Nat → Int64) → Prop} {v : Int32} (C : hC p s m args c cc D ks cL) (hr : meth.sig.returnType = some .int) (hlk : meth.locks = false) (hN : nH κ A ao s) (V : cV D L f A H) (I : cI ks τ L ψ f) (hO : oP D cL ao g H) (hS : va_S (Ah A ao) s.heap H locs) (hp : post v ((f, τ, L), g)) (hdg : decode cc pc = .ok (.ireturn, 1)) :
    W p l e R s m args below meth c H locs cells slots (MQ below (va_Qi post (fun (x : nX × (Nat → Int64)) U => hB D ks x.1.2.1 x.1.2.2 A κ cL ao (ψ, x.1.1, x.2) U) (Ah A ao)) args s cells slots (Ah A ao)) (F0 m pc ls [.int v]) := by
  obtain ⟨hx, hb, hown, hts, hK, hK2⟩ := C
  exact W.iret hx hb hr (fun t ht hW => ⟨⟨v, ((f, τ, L), g), rfl, hp, ⟨by rw [ht]; exact V, I, va_K.moved hW.alike hK, cNt (A := Ah A ao) nH_k hN hS ht hW⟩, by rw [ht]; exact hO, va_K.moved hW.alike hK2⟩, hS.F ht⟩) hS.2.2 hdg hlk
/-- what a helper tells: the thrown number, the answer, the view behind -/
def hPo {α : Type} (cv : α → Int64) (F : Int32 × α × xS) (r : Int32) (f : Nat → va_E) (g : Nat → Int64) : Prop := ∃ v : α, F = (r, v, view f) ∧ (r = 0 → g 0 = cv v)
/-- the same of make -/
def hMk (τ : Nat → Nat) (L : List Nat) (f : Nat → va_E) (o0 : Nat) (i1 i2 r : Int32) (x : nX × (Nat → Int64)) : Prop := ((∀ b, b ∈ L → b ∈ x.1.2.2 ∧ x.1.2.1 b = τ b) ∧ ∀ b, b ∈ x.1.2.2 → b ∉ L → x.1.2.1 b ≠ 8) ∧
  ((r = 0 ∧ ∃ v : Int32, x.2 0 = Int32.toInt64 v ∧ FC_X12_fits (view f) i1 i2 ≠ 0 ∧ (0 ≤ v ∧ v < 24) ∧ ∃ f6 f9 y9 a9, (v, view f6) = FC_X12_leastFree (view f) o0 ∧ gW τ L f6 x.1.2.1 x.1.2.2 f9 ∧ nOb L x.1.2.1 x.1.2.2 f9 y9 v i1 i2 ∧ xR (view f6) o0 1 = some a9 ∧ view x.1.1 = xwQ (view f9) a9 v (some y9)) ∨
   (r = 1 ∧ FC_X12_fits (view f) i1 i2 = 0 ∧ view x.1.1 = view f) ∨ (r = 2 ∧ FC_X12_fits (view f) i1 i2 ≠ 0 ∧ ∃ r8, (r8 < 0 ∨ 24 ≤ r8) ∧ (r8, view x.1.1) = FC_X12_leastFree (view f) o0))
theorem hCast {E : String} (hN : nH κ A ao s) (h : Cond.castable E E ∈ nwL) : (Cond.castable E E).before args s = true := va_Nw.use rfl (hN.1.2.2.2.2.2.2.2.2.1 _ h)
end HR
theorem tHl19 : Cond.classLink RL 19 "java/lang/IllegalArgumentException" ∈ tL := List.mem_of_getElem? (i := 4) (by decide +kernel)
theorem tHl25 : Cond.classLink RL 25 "java/lang/IllegalStateException" ∈ tL := List.mem_of_getElem? (i := 8) (by decide +kernel)
theorem tHl13 : Cond.classLink RL 13 "java/lang/IndexOutOfBoundsException" ∈ tL := List.mem_of_getElem? (i := 0) (by decide +kernel)
theorem tHl30 : Cond.classLink RL 30 "java/util/NoSuchElementException" ∈ tL := List.mem_of_getElem? (i := 12) (by decide +kernel)
theorem tHl36 : Cond.classLink RL 36 "java/lang/UnsupportedOperationException" ∈ tL := List.mem_of_getElem? (i := 16) (by decide +kernel)
theorem gH_feed : GoodIn tL (wsV RL 7 RX12 yX12_feed (Cond.code yX12_feed cX12_feed 6 (some .int) :: tC)) := gH_v (List.mem_of_getElem? (i := 1) (by decide +kernel)) (List.mem_of_getElem? (i := 2) (by decide +kernel)) (List.mem_of_getElem? (i := 3) (by decide +kernel)) (List.mem_of_getElem? (i := 484) (by decide +kernel)) (List.mem_of_getElem? (i := 442) (by decide +kernel))
theorem okH_feed : cOkY yX12_feed RX12 5 := by unfold cOkY; decide +kernel
theorem gH_end : GoodIn tL (wsV RL 15 RX12 yX12_end (Cond.code yX12_end cX12_end 2 (some .int) :: tC)) := gH_v (List.mem_of_getElem? (i := 5) (by decide +kernel)) (List.mem_of_getElem? (i := 6) (by decide +kernel)) (List.mem_of_getElem? (i := 7) (by decide +kernel)) (List.mem_of_getElem? (i := 484) (by decide +kernel)) (List.mem_of_getElem? (i := 449) (by decide +kernel))
theorem okH_end : cOkY yX12_end RX12 1 := by unfold cOkY; decide +kernel
theorem gH_make : GoodIn tL (wsV RL 21 RX12 yX12_make (Cond.code yX12_make cX12_make 4 (some .int) :: tC)) := gH_v (List.mem_of_getElem? (i := 9) (by decide +kernel)) (List.mem_of_getElem? (i := 10) (by decide +kernel)) (List.mem_of_getElem? (i := 11) (by decide +kernel)) (List.mem_of_getElem? (i := 484) (by decide +kernel)) (List.mem_of_getElem? (i := 490) (by decide +kernel))
theorem okH_make : cOkY yX12_make RX12 2 := by unfold cOkY; decide +kernel
theorem gH_drop : GoodIn tL (wsV RL 27 RX12 yX12_drop (Cond.code yX12_drop cX12_drop 2 (some .int) :: tC)) := gH_v (List.mem_of_getElem? (i := 13) (by decide +kernel)) (List.mem_of_getElem? (i := 14) (by decide +kernel)) (List.mem_of_getElem? (i := 15) (by decide +kernel)) (List.mem_of_getElem? (i := 484) (by decide +kernel)) (List.mem_of_getElem? (i := 508) (by decide +kernel))
theorem okH_drop : cOkY yX12_drop RX12 1 := by unfold cOkY; decide +kernel
theorem gH_thread : GoodIn tL (wsV RL 32 RX12 yX12_thread (Cond.code yX12_thread cX12_thread 3 (some .int) :: tC)) := gH_v (List.mem_of_getElem? (i := 17) (by decide +kernel)) (List.mem_of_getElem? (i := 18) (by decide +kernel)) (List.mem_of_getElem? (i := 19) (by decide +kernel)) (List.mem_of_getElem? (i := 484) (by decide +kernel)) (List.mem_of_getElem? (i := 522) (by decide +kernel))
theorem okH_thread : cOkY yX12_thread RX12 0 := by unfold cOkY; decide +kernel
theorem gH_step : GoodIn tL (wsV RL 38 RX12 yX12_step (Cond.code yX12_step cX12_step 3 (some .int) :: tC)) := gH_v (List.mem_of_getElem? (i := 20) (by decide +kernel)) (List.mem_of_getElem? (i := 21) (by decide +kernel)) (List.mem_of_getElem? (i := 22) (by decide +kernel)) (List.mem_of_getElem? (i := 484) (by decide +kernel)) (List.mem_of_getElem? (i := 580) (by decide +kernel))
theorem okH_step : cOkY yX12_step RX12 1 := by unfold cOkY; decide +kernel
theorem gH_run : GoodIn tL (wsV RL 41 RX12 yX12_run (Cond.code yX12_run cX12_run 8 (some .int) :: tC)) := gH_v (List.mem_of_getElem? (i := 23) (by decide +kernel)) (List.mem_of_getElem? (i := 24) (by decide +kernel)) (List.mem_of_getElem? (i := 25) (by decide +kernel)) (List.mem_of_getElem? (i := 484) (by decide +kernel)) (List.mem_of_getElem? (i := 590) (by decide +kernel))
theorem okH_run : cOkY yX12_run RX12 3 := by unfold cOkY; decide +kernel
theorem gH_tick : GoodIn tL (wsV RL 45 RX12 yX12_tick (Cond.code yX12_tick cX12_tick 7 (some .int) :: tC)) := gH_v (List.mem_of_getElem? (i := 26) (by decide +kernel)) (List.mem_of_getElem? (i := 27) (by decide +kernel)) (List.mem_of_getElem? (i := 28) (by decide +kernel)) (List.mem_of_getElem? (i := 484) (by decide +kernel)) (List.mem_of_getElem? (i := 591) (by decide +kernel))
theorem okH_tick : cOkY yX12_tick RX12 1 := by unfold cOkY; decide +kernel
theorem gH_interrupt : GoodIn tL (wsV RL 48 RX12 yX12_interrupt (Cond.code yX12_interrupt cX12_interrupt 5 (some .int) :: tC)) := gH_v (List.mem_of_getElem? (i := 29) (by decide +kernel)) (List.mem_of_getElem? (i := 30) (by decide +kernel)) (List.mem_of_getElem? (i := 31) (by decide +kernel)) (List.mem_of_getElem? (i := 484) (by decide +kernel)) (List.mem_of_getElem? (i := 597) (by decide +kernel))
theorem okH_interrupt : cOkY yX12_interrupt RX12 1 := by unfold cOkY; decide +kernel
theorem gH_look : GoodIn tL (wsV RL 51 RX12 yX12_look (Cond.code yX12_look cX12_look 4 (some .int) :: tC)) := gH_v (List.mem_of_getElem? (i := 32) (by decide +kernel)) (List.mem_of_getElem? (i := 33) (by decide +kernel)) (List.mem_of_getElem? (i := 34) (by decide +kernel)) (List.mem_of_getElem? (i := 484) (by decide +kernel)) (List.mem_of_getElem? (i := 598) (by decide +kernel))
theorem okH_look : cOkY yX12_look RX12 2 := by unfold cOkY; decide +kernel
theorem gH_sync : GoodIn tL (wsV RL 54 RX12 yX12_sync (Cond.code yX12_sync cX12_sync 4 (some .long) :: tC)) := gH_v (List.mem_of_getElem? (i := 35) (by decide +kernel)) (List.mem_of_getElem? (i := 36) (by decide +kernel)) (List.mem_of_getElem? (i := 37) (by decide +kernel)) (List.mem_of_getElem? (i := 484) (by decide +kernel)) (List.mem_of_getElem? (i := 651) (by decide +kernel))
theorem okH_sync : cOkY yX12_sync RX12 2 := by unfold cOkY; decide +kernel
theorem gH_count : GoodIn tL (wsV RL 58 RX12 yX12_count (Cond.code yX12_count cX12_count 3 (some .long) :: tC)) := gH_v (List.mem_of_getElem? (i := 38) (by decide +kernel)) (List.mem_of_getElem? (i := 39) (by decide +kernel)) (List.mem_of_getElem? (i := 40) (by decide +kernel)) (List.mem_of_getElem? (i := 484) (by decide +kernel)) (List.mem_of_getElem? (i := 652) (by decide +kernel))
theorem okH_count : cOkY yX12_count RX12 1 := by unfold cOkY; decide +kernel

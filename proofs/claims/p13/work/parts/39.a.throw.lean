/-! the class: what throws; its class is told -/
/-- behind a call that may have thrown (its code is not 0) -/
def gT {α β : Type} (c : Int32 × α × xS) (d : β) (k : α → xS → Int32 × β × xS) : Int32 × β × xS := if c.1 = 0 then k c.2.1 c.2.2 else (c.1, d, c.2.2)
theorem gT_e {α β : Type} {a : Int32 × β × xS} {F : Int32 × α × xS} {d : β} {k : α → xS → Int32 × β × xS} {y : α} {X : xS} (h : a = gT F d k) (e : ((0 : Int32), y, X) = F) : a = k y X := by
  subst e; exact h
theorem gT_x {α β : Type} {a : Int32 × β × xS} {F : Int32 × α × xS} {d : β} {k : α → xS → Int32 × β × xS} {c : Int32} {y : α} {X : xS} (h : a = gT F d k) (e : (c, y, X) = F) (hc : ¬ c = 0) : a = (c, d, X) := by
  subst e; rw [h]; exact if_neg hc
/-- behind a throw of the class: one of Es, the world as it must be -/
def cX (D : va_G) (ks : kS) (τ : Nat → Nat) (L : List Nat) (A : Nat → Prop) (Es : List String) (px : String → Int32 × (Nat → va_E) → Prop) : String → State → State → Prop :=
  vx_X (fun _ => True) (fun E x t => (E ∈ Es ∧ px E x) ∧ cV D L x.2 A t.heap ∧ cI ks τ L x.1 x.2 ∧ va_K D vwCl (cT ks) t) A
theorem cV_ext {D : va_G} {L : List Nat} {f : Nat → va_E} {A : Nat → Prop} {H H1 : Heap} (V : cV D L f A H) (h : ∀ q : Nat, q < H.size → H1[q]? = H[q]?) : cV D L f A H1 :=
  ⟨V.1.kept (fun k q hk => h q.1 ((V.1 k q hk).lt)), V.2⟩
section CX
variable {p : Program} {l : Launch} {e : Env} {R : Room} {s : State} {m : MethodId} {args : Array Value} {below : List Frame} {meth : Method} {c : Code} {H : Heap} {locs : List Loc} {cells slots : Nat} {Q : State → Prop}
variable {cc : ByteArray} {pc : Nat} {ls : Array Slot} {rest : List Value} {D : va_G} {ks : kS} {τ : Nat → Nat} {L : List Nat} {A : Nat → Prop} {N : State → Prop} {ψ : Int32} {f : Nat → va_E} {H0 : Heap} {own : String} {a : Nat} {κ : kC}
variable {y : MethodName} {cy : ByteArray} {n nL idx mc ms : Nat} {rm : Room} {As st0 av : List Value} {Qc : Array Value → State → Outcome → State → Prop} {XC : String → State → State → Prop} {Es Fs : List String} {px qx : String → Int32 × (Nat → va_E) → Prop}
theorem cMetX {ret : Option FieldType} (hy : plainName y.cls = true) (hown : y.cls = own) (hn : (lg_sl av).length ≤ n)
    (body : ∀ (p : Program) (e : Env) (s : State) (m : MethodId) (below : List Frame) (meth : Method) (c : Code) (ls : Array Slot), cC own p s m av.toArray c cy D ks → c.maxLocals = n → meth.sig.returnType = ret → meth.locks = false → (∀ x ∈ c.exceptionTable.toList, False) → cV D L f A s.heap → cI ks τ L ψ f → N s → lv_has ls n (lv_args 0 av) →
      W p l e rm s m av.toArray below meth c s.heap [] 0 0 (vx_MQ below Qc XC av.toArray s mc ms A) (F0 m 0 ls [])) :
    vx_Met l y (Cond.code y cy n ret :: tC) rm (va_Pc av (cB D ks τ L A N (ψ, f))) Qc XC mc ms A := by
  refine vx_ofW (cc := cy) (maxL := n) (ret := ret) hy rfl ?_
  intro p e s m args below meth c s₁ B hml hT hv
  obtain ⟨rfl, hV, hI, hK, hNs⟩ := hv
  have hts := atoms_spec (ws := Cond.code y cy n ret :: tC) B.pre
  have hf : s.vm.findClass y.cls = some m.cls := findClass_of_methodNamed B.named
  have hl := lv_entry av (n := n) hn
  rw [lg_entry_eq]
  exact body p e s m below meth c _ ⟨B.exec, B.bytes, hown ▸ hf, fun w h => hts w (List.mem_cons_of_mem _ h), hK⟩ hml B.returns B.notSynchronized hT hV hI hNs hl
/-- an end of a body that may throw, by a return -/
theorem cRx {g : JFrame} (h1 : cells ≤ mc) (h2 : slots ≤ ms) (k : W p l e R s m args below meth c H locs mc ms (MQ below Qc args s mc ms A) g) : W p l e R s m args below meth c H locs cells slots (vx_MQ below Qc XC args s mc ms A) g :=
  fun T hT X => vx_ret k T hT (stand_widen X h1 h2)
theorem cXof {cls : String} (C9 : cC own p s m args c cc D ks) (V : cV D L f A H) (I : cI ks τ L ψ f) (hS : va_S A s.heap H locs) (hE : cls ∈ Es) (hp : px cls (ψ, f)) : ∀ t : State, s.vm.Alike t.vm → H.size ≤ t.heap.size → (∀ q : Nat, q < H.size → t.heap[q]? = H[q]?) → cX D ks τ L A Es px cls s t := by
  intro t al hz hq
  refine ⟨(ψ, f), trivial, ⟨⟨hE, hp⟩, cV_ext V hq, I, va_K.moved al C9.2.2.2.2⟩, Nat.le_trans hS.1 hz, fun q h1 h2 => ?_⟩
  rw [hq q (Nat.lt_of_lt_of_le h1 hS.1)]
  exact hS.2.1 q h1 h2
/-- throw new cls(text) -/
theorem cThr {cls text : String} {names : List String} {ik is ic : Nat} (C9 : cC RX12 p s m args c cc D ks) (hN : N0 κ A s) (V : cV D L f A H) (I : cI ks τ L ψ f) (hS : va_S A s.heap H locs) (hlt : l.stackTraces = false) (hT : ∀ x ∈ c.exceptionTable.toList, False) (hlk : meth.locks = false) (hml : c.maxLocals = nL) (hsz : ls.size = nL)
    (hX : (Bundle.fit cls = true ∧ ∀ n ∈ names, Bundle.fit n = true) ∧ (Cond.classLink RX12 ik cls).before args s = true ∧ (Cond.initialized cls).before args s = true ∧ (∀ w ∈ vx_atS RX12 ic cls names, w.before args s = true) ∧ ∀ w ∈ Cond.classLink RX12 ik cls :: Cond.initialized cls :: vx_atS RX12 ic cls names, vx_ot w = true)
    (hm : (is, text) ∈ nMs) (hE : cls ∈ Es) (hp : px cls (ψ, f)) (hR : names.length + 3 < R.frames ∧ (rest.map fun v => v.category).sum + (13 * (names.length + 1) + 43) ≤ R.locals ∧ cells + 1 ≤ R.cells ∧ slots + 6 ≤ R.slots) (hc : cells + 1 ≤ mc ∧ slots + 6 ≤ ms)
    (d0 : decode cc pc = .ok (.new ik, 3)) (d3 : decode cc (pc + 3) = .ok (.dup, 1)) (d4 : decode cc (pc + 4) = .ok (.ldc is, 2)) (d6 : decode cc (pc + 6) = .ok (.invokespecial ic, 3)) (d9 : decode cc (pc + 9) = .ok (.athrow, 1)) :
    W p l e R s m args below meth c H locs cells slots (vx_MQ below Qc (cX D ks τ L A Es px) args s mc ms A) (F0 m pc ls rest) := by
  obtain ⟨sa, hstr⟩ := hN.2.2.2.2.2.2.2.2.2.2.1 (is, text) hm
  exact vx_throwS C9.1 C9.2.1 hlt C9.2.2.1 hX.1.1 hX.1.2 hX.2.1 hX.2.2.1 hstr hX.2.2.2.1 hX.2.2.2.2 hN.2.2.2.2.2.2.2.2.2.2.2.1.1 hN.2.2.2.2.2.2.2.2.2.2.2.1.2 hS (hsz.trans hml.symm) d0 d3 d4 d6 d9 (fun x hx => (hT x hx).elim) hR.1 (by have := hR.2.1; omega) hR.2.2.1 hR.2.2.2 hlk (cXof C9 V I hS hE hp) hS.2.2 hc.1 hc.2
theorem cThN {text : String} {ik is ic : Nat} (C9 : cC RX12 p s m args c cc D ks) (hN : N0 κ A s) (V : cV D L f A H) (I : cI ks τ L ψ f) (hS : va_S A s.heap H locs) (hlt : l.stackTraces = false) (hT : ∀ x ∈ c.exceptionTable.toList, False) (hlk : meth.locks = false) (hml : c.maxLocals = nL) (hsz : ls.size = nL)
    (hX : (Cond.classLink RX12 ik nsN).before args s = true ∧ (Cond.initialized nsN).before args s = true ∧ (∀ w ∈ nsA RX12 ic, w.before args s = true) ∧ ∀ w ∈ Cond.classLink RX12 ik nsN :: Cond.initialized nsN :: nsA RX12 ic, vx_ot w = true)
    (hm : (is, text) ∈ nMs) (hE : nsN ∈ Es) (hp : px nsN (ψ, f)) (hR : 5 < R.frames ∧ (rest.map fun v => v.category).sum + 82 ≤ R.locals ∧ cells + 1 ≤ R.cells ∧ slots + 6 ≤ R.slots) (hc : cells + 1 ≤ mc ∧ slots + 6 ≤ ms)
    (d0 : decode cc pc = .ok (.new ik, 3)) (d3 : decode cc (pc + 3) = .ok (.dup, 1)) (d4 : decode cc (pc + 4) = .ok (.ldc is, 2)) (d6 : decode cc (pc + 6) = .ok (.invokespecial ic, 3)) (d9 : decode cc (pc + 9) = .ok (.athrow, 1)) :
    W p l e R s m args below meth c H locs cells slots (vx_MQ below Qc (cX D ks τ L A Es px) args s mc ms A) (F0 m pc ls rest) := by
  obtain ⟨sa, hstr⟩ := hN.2.2.2.2.2.2.2.2.2.2.1 (is, text) hm
  exact ns_throw C9.1 C9.2.1 hlt C9.2.2.1 hX.1 hX.2.1 hstr hX.2.2.1 hX.2.2.2 hN.2.2.2.2.2.2.2.2.2.2.2.1.1 hN.2.2.2.2.2.2.2.2.2.2.2.1.2 hS (hsz.trans hml.symm) d0 d3 d4 d6 d9 (fun x hx => (hT x hx).elim) hR.1 hR.2.1 hR.2.2.1 hR.2.2.2 hlk (cXof C9 V I hS hE hp) hS.2.2 hc.1 hc.2
theorem cThrW {cls text : String} {names : List String} {ik is ic : Nat} (C9 : cC RX12 p s m args c cc D ks) (hN : N0 κ A s) (V : cV D L f A H) (I : cI ks τ L ψ f) (hS : va_S A s.heap H locs) (hlt : l.stackTraces = false) (hT : ∀ x ∈ c.exceptionTable.toList, False) (hlk : meth.locks = false) (hml : c.maxLocals = nL) (hsz : ls.size = nL)
    (hX : (Bundle.fit cls = true ∧ ∀ n ∈ names, Bundle.fit n = true) ∧ (Cond.classLink RX12 ik cls).before args s = true ∧ (Cond.initialized cls).before args s = true ∧ (∀ w ∈ vx_atS RX12 ic cls names, w.before args s = true) ∧ ∀ w ∈ Cond.classLink RX12 ik cls :: Cond.initialized cls :: vx_atS RX12 ic cls names, vx_ot w = true)
    (hm : (is, text) ∈ nMs) (hE : cls ∈ Es) (hp : px cls (ψ, f)) (hR : names.length + 3 < R.frames ∧ (rest.map fun v => v.category).sum + (13 * (names.length + 1) + 43) ≤ R.locals ∧ cells + 1 ≤ R.cells ∧ slots + 6 ≤ R.slots) (hc : cells + 1 ≤ mc ∧ slots + 6 ≤ ms)
    (d0 : decode cc pc = .ok (.new ik, 3)) (d3 : decode cc (pc + 3) = .ok (.dup, 1)) (d4 : decode cc (pc + 4) = .ok (.ldc_w is, 3)) (d7 : decode cc (pc + 7) = .ok (.invokespecial ic, 3)) (d10 : decode cc (pc + 10) = .ok (.athrow, 1)) :
    W p l e R s m args below meth c H locs cells slots (vx_MQ below Qc (cX D ks τ L A Es px) args s mc ms A) (F0 m pc ls rest) := by
  obtain ⟨sa, hstr⟩ := hN.2.2.2.2.2.2.2.2.2.2.1 (is, text) hm
  exact vx_throwSW C9.1 C9.2.1 hlt C9.2.2.1 hX.1.1 hX.1.2 hX.2.1 hX.2.2.1 hstr hX.2.2.2.1 hX.2.2.2.2 hN.2.2.2.2.2.2.2.2.2.2.2.1.1 hN.2.2.2.2.2.2.2.2.2.2.2.1.2 hS (hsz.trans hml.symm) d0 d3 d4 d7 d10 (fun x hx => (hT x hx).elim) hR.1 hR.2.1 hR.2.2.1 hR.2.2.2 hlk (cXof C9 V I hS hE hp) hS.2.2 hc.1 hc.2
/-- a call of what may throw -/
theorem cRunX {ret : Option FieldType} {ci : Nat} {fs : List Value} {C : String} {T : u_T} {K : Nat} (C9 : cC own p s m args c cc D ks) (hml : c.maxLocals = nL) (hN : cNk A N) (hNs : N s) (V : cV D L f A H) (I : cI ks τ L ψ f) (hS : va_S A s.heap H locs) (ha : a ∈ L) (hf : f a = .inr (ci, fs)) (hc : vwCl[ci]? = some (C, T, K))
    (hM : vx_Met l y (Cond.code y cy n ret :: tC) rm (va_Pc (.ref a :: As) (cB D ks τ L A N (ψ, f))) Qc XC mc ms A) (hg : GoodIn tC (wsV own idx C y (Cond.code y cy n ret :: tC))) (hk : cOkY y C As.length)
    (hR : rm.cells = mc ∧ rm.slots = ms ∧ rm.frames + 1 ≤ R.frames ∧ 8 + (n + 11) + rm.locals ≤ R.locals) (hsz : ls.size = nL) (hst : st0 = As.reverse ++ .ref a :: rest) (hro : (rest.map fun v => v.category).sum ≤ 8)
    (hdg : decode cc pc = .ok (.invokevirtual idx, 3)) (hcs : cells + mc ≤ R.cells ∧ slots + ms ≤ R.slots) :
    vx_Run p l e R s m args below meth c H locs cells slots mc ms (F0 m pc ls st0) rest (Qc (Value.ref a :: As).toArray) XC A := by
  obtain ⟨hx, hb, hown, hts, hK⟩ := C9
  obtain ⟨q0, hq⟩ := va_pl0 (f := f) ha
  rw [hf] at hq
  exact vx_runV (As := As) (rest := rest) ⟨hx, hb, hml, hown, hts⟩ hM (cwV As.length hts hg rfl hR.1 hR.2.1 hk hR.2.2) ⟨cblind hN, va_recv hK V.1 hc hq, fun U hU hW => ⟨rfl, by rw [hU]; exact V, I, va_K.moved hW.alike hK, cNt hN hNs hS hU hW⟩⟩ rfl rfl hsz hst (lv_room hro) hdg hcs
theorem cGoQX {post : Option Nat → Int32 × (Nat → va_E) → Prop} {a : Array Value} {mc1 ms1 : Nat} (hr : vx_Run p l e R s m args below meth c H locs cells slots mc1 ms1 (F0 m pc ls st0) rest (va_Qq post (cB D ks τ L A N) A a) (cX D ks τ L A Fs qx) A) (hS : va_S A s.heap H locs) (hT : ∀ x ∈ c.exceptionTable.toList, False) (hlk : meth.locks = false)
    (hEs : ∀ E ∈ Fs, E ∈ Es) (hpx : ∀ E x, qx E x → px E x) (hc : cells + mc1 ≤ mc ∧ slots + ms1 ≤ ms)
    (kk : ∀ (r : Option Nat) (ψ1 : Int32) (f1 : Nat → va_E) (H1 : Heap) (locs1 : List Loc), post r (ψ1, f1) → cV D L f1 A H1 → cI ks τ L ψ1 f1 → va_S A s.heap H1 locs1 → W p l e R s m args below meth c H1 locs1 (cells + mc1) (slots + ms1) (vx_MQ below Qc (cX D ks τ L A Es px) args s mc ms A) (F0 m (pc + 3) ls (va_rf r :: rest))) :
    W p l e R s m args below meth c H locs cells slots (vx_MQ below Qc (cX D ks τ L A Es px) args s mc ms A) (F0 m pc ls st0) := by
  intro T hT9 X
  rcases hr T hT9 X with ⟨v, st₀, t, T', L9, h0, X', hL, e1, e2, ⟨⟨r, u, hv, hp, hb⟩, hF⟩, st⟩ | ⟨q, st₀, t, T', L9, E, ce, h0, X', hL, e1, e2, ⟨u, hp, hb, hF⟩, hce, hcv, hcl, st⟩
  · cases hv
    obtain ⟨k1, k2, k3⟩ := vx_keep h0 e1 hS (fun _ _ h => h) (fun _ h => h) hL hF
    obtain ⟨t2, a1, b1⟩ := kk r u.1 u.2 T'.heap (locs ++ L9) hp (by rw [e1]; exact hb.1) hb.2.1 k3 T' rfl X'
    exact ⟨t2, st t2 a1, b1⟩
  · obtain ⟨k1, k2, k3⟩ := vx_keep h0 e1 hS (fun _ _ h => h) (fun _ h => h) hL hF
    have ho : vx_W p l e R s m args below meth c T'.heap (locs ++ L9) (cells + mc1) (slots + ms1) (vx_MQ below Qc (cX D ks τ L A Es px) args s mc ms A) (F0 m pc ls rest) q :=
      vx_out (fun x hx => (hT x hx).elim) hlk (by rw [e1]; exact hce) hcv hcl (fun t9 ht9 al => ⟨u, trivial, ⟨⟨hEs E hb.1.1, hpx E u hb.1.2⟩, by rw [ht9, e1]; exact hb.2.1, hb.2.2.1, by
        have hsT : s.vm.Alike t.vm := by rw [← e2]; exact X'.warmed.alike
        exact va_K.moved (u := s) al (va_K.moved (u := t) (Vm.Alike.symm hsT) hb.2.2.2)⟩, k3.F ht9⟩) k3.2.2 hc.1 hc.2
    obtain ⟨t2, a1, b1⟩ := ho T' rfl X'
    exact ⟨t2, st.trans a1, b1⟩
end CX
-- the words of a throw
abbrev xW (ik ic : Nat) (cls : String) (args : Array Value) (s : State) : Prop := (Bundle.fit cls = true ∧ ∀ n ∈ xNm, Bundle.fit n = true) ∧ (Cond.classLink RX12 ik cls).before args s = true ∧ (Cond.initialized cls).before args s = true ∧ (∀ w ∈ vx_atS RX12 ic cls xNm, w.before args s = true) ∧ ∀ w ∈ Cond.classLink RX12 ik cls :: Cond.initialized cls :: vx_atS RX12 ic cls xNm, vx_ot w = true
theorem nwL_ot : ∀ w ∈ nwL, w.onTables = true := by decide +kernel
theorem xW_of {κ : kC} {A : Nat → Prop} {args : Array Value} {s : State} {ik ic : Nat} {cls : String} (hts : ∀ w ∈ tC, w.before args s = true) (h0 : N0 κ A s) (h1 : Bundle.fit cls = true) (h2 : Cond.classLink RX12 ik cls ∈ tC) (h3 : Cond.initialized cls ∈ tC) (h4 : ∀ w ∈ (vx_atS RX12 ic cls xNm).filter goodWord, w ∈ tC) (h5 : (vx_atS RX12 ic cls xNm).all (fun w => goodWord w || decide (w ∈ nwL)) = true) (h6 : (Cond.classLink RX12 ik cls :: Cond.initialized cls :: vx_atS RX12 ic cls xNm).all vx_ot = true) : xW ik ic cls args s := by
  refine ⟨⟨h1, by decide +kernel⟩, hts _ h2, hts _ h3, vx_hat (B := nwL) (fun w h => hts w (h4 w h)) (fun w h => ?_) (fun w h => va_Nw.use (nwL_ot w h) (h0.2.2.2.2.2.2.2.2.1 w h)), fun w h => List.all_eq_true.mp h6 w h⟩
  obtain ⟨hw, hg⟩ := List.mem_filter.mp h
  have q := List.all_eq_true.mp h5 w hw
  simp only [Bool.or_eq_true, decide_eq_true_eq] at q
  rcases q with q | q
  · rw [q] at hg; exact absurd hg (by decide)
  · exact q
set_option maxRecDepth 100000 in
theorem xw_38_42 {κ : kC} {A : Nat → Prop} {args : Array Value} {s : State} (hts : ∀ w ∈ tC, w.before args s = true) (h0 : N0 κ A s) : xW 38 42 "java/lang/IndexOutOfBoundsException" args s := xW_of hts h0 (by decide +kernel) tCl_X12_38 tCi_X12_38 tC_x42 (by decide +kernel) (by decide +kernel)
set_option maxRecDepth 100000 in
theorem xw_48_52 {κ : kC} {A : Nat → Prop} {args : Array Value} {s : State} (hts : ∀ w ∈ tC, w.before args s = true) (h0 : N0 κ A s) : xW 48 52 "java/lang/IllegalArgumentException" args s := xW_of hts h0 (by decide +kernel) tCl_X12_48 tCi_X12_48 tC_x52 (by decide +kernel) (by decide +kernel)
set_option maxRecDepth 100000 in
theorem xw_63_67 {κ : kC} {A : Nat → Prop} {args : Array Value} {s : State} (hts : ∀ w ∈ tC, w.before args s = true) (h0 : N0 κ A s) : xW 63 67 "java/lang/IllegalStateException" args s := xW_of hts h0 (by decide +kernel) tCl_X12_63 tCi_X12_63 tC_x67 (by decide +kernel) (by decide +kernel)
set_option maxRecDepth 100000 in
theorem xw_72_76 {κ : kC} {A : Nat → Prop} {args : Array Value} {s : State} (hts : ∀ w ∈ tC, w.before args s = true) (h0 : N0 κ A s) : (Cond.classLink RX12 72 nsN).before args s = true ∧ (Cond.initialized nsN).before args s = true ∧ (∀ w ∈ nsA RX12 76, w.before args s = true) ∧ ∀ w ∈ Cond.classLink RX12 72 nsN :: Cond.initialized nsN :: nsA RX12 76, vx_ot w = true := by
  have h5 : (nsA RX12 76).all (fun w => goodWord w || decide (w ∈ nwL)) = true := by decide +kernel
  have h6 : (Cond.classLink RX12 72 nsN :: Cond.initialized nsN :: nsA RX12 76).all vx_ot = true := by decide +kernel
  refine ⟨hts _ tCl_X12_72, hts _ tCi_X12_72, vx_hat (B := nwL) (fun w h => hts w (tC_x76 w h)) (fun w h => ?_) (fun w h => va_Nw.use (nwL_ot w h) (h0.2.2.2.2.2.2.2.2.1 w h)), fun w h => List.all_eq_true.mp h6 w h⟩
  obtain ⟨hw, hg⟩ := List.mem_filter.mp h
  have q := List.all_eq_true.mp h5 w hw
  simp only [Bool.or_eq_true, decide_eq_true_eq] at q
  rcases q with q | q
  · rw [q] at hg; exact absurd hg (by decide)
  · exact q
set_option maxRecDepth 100000 in
theorem xw_89_93 {κ : kC} {A : Nat → Prop} {args : Array Value} {s : State} (hts : ∀ w ∈ tC, w.before args s = true) (h0 : N0 κ A s) : xW 89 93 "java/lang/UnsupportedOperationException" args s := xW_of hts h0 (by decide +kernel) tCl_X12_89 tCi_X12_89 tC_x93 (by decide +kernel) (by decide +kernel)
theorem tySO_up {τ : Nat → Nat} {L : List Nat} {g : Nat → Option Nat} {i : Nat} {v : Option Nat} (h : ∀ j, tySO τ L (g j)) (hv : tySO τ L v) : ∀ j, tySO τ L (va_up g i v j) := by
  intro j
  by_cases q : j = i
  · subst q; rw [va_up_self]; exact hv
  · rw [va_up_ne _ _ q]; exact h j
theorem mk15 {ks : kS} {τ : Nat → Nat} {L : List Nat} {ψ : Int32} {g : Nat → Option Nat} (h : ∀ j, tySO τ L (g j)) : cOk ks τ L ψ (.inl (ks.2.2.2, 24, rfs g)) 15 := by
  show ∃ _, _
  exact ⟨g, rfl, h⟩

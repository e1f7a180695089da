/-! the class: what makes cells (laid by wip/gen_cnew.py) -/
def gVt (τ : Nat → Nat) (L : List Nat) (τ1 : Nat → Nat) (L1 : List Nat) : Prop := ∀ b, b ∈ L → τ b ≠ 99 → b ∈ L1 ∧ τ1 b = τ b
section GT
variable {ks : kS} {τ τ1 : Nat → Nat} {L L1 : List Nat} {ψ : Int32} {e : va_E} {k : Nat}
theorem ty_g {r j : Nat} (g : gVt τ L τ1 L1) (hj : j ≠ 99) (h : ty τ L r j) : ty τ1 L1 r j := by
  have q := g r h.1 (by rw [h.2]; exact hj)
  exact ⟨q.1, q.2.trans h.2⟩
theorem tyO_g {r : Option Nat} {j : Nat} (g : gVt τ L τ1 L1) (hj : j ≠ 99) (h : tyO τ L r j) : tyO τ1 L1 r j := fun y hy => ty_g g hj (h y hy)
theorem tyS_g {r : Nat} (g : gVt τ L τ1 L1) (h : tyS τ L r) : tyS τ1 L1 r := by
  obtain ⟨h1, h2⟩ := h
  have q := g r h1 (by rcases h2 with z | z | z | z | z | z <;> rw [z] <;> decide)
  exact ⟨q.1, by rw [q.2]; exact h2⟩
theorem tySO_g {r : Option Nat} (g : gVt τ L τ1 L1) (h : tySO τ L r) : tySO τ1 L1 r := fun y hy => tyS_g g (h y hy)
theorem cOk_g (g : gVt τ L τ1 L1) (h : cOk ks τ L ψ e k) : cOk ks τ1 L1 ψ e k := by
  unfold cOk at h ⊢
  by_cases c0 : k = 0
  · rw [if_pos c0] at h ⊢
    obtain ⟨n, k0, r, o, d, e1, t⟩ := h
    exact ⟨n, k0, r, o, d, e1, ty_g g (by decide) t⟩
  rw [if_neg c0] at h ⊢
  by_cases c1 : k = 1
  · rw [if_pos c1] at h ⊢
    obtain ⟨n, k0, r, o, d, e1, t⟩ := h
    exact ⟨n, k0, r, o, d, e1, ty_g g (by decide) t⟩
  rw [if_neg c1] at h ⊢
  by_cases c2 : k = 2
  · rw [if_pos c2] at h ⊢
    obtain ⟨n, k0, r, o, e1, t⟩ := h
    exact ⟨n, k0, r, o, e1, ty_g g (by decide) t⟩
  rw [if_neg c2] at h ⊢
  by_cases c3 : k = 3
  · rw [if_pos c3] at h ⊢
    obtain ⟨n, k0, r, o, b, h0, q, e1, t, t2⟩ := h
    exact ⟨n, k0, r, o, b, h0, q, e1, ty_g g (by decide) t, ty_g g (by decide) t2⟩
  rw [if_neg c3] at h ⊢
  by_cases c4 : k = 4
  · rw [if_pos c4] at h ⊢
    obtain ⟨n, k0, r, q, h0, z, c, e1, t, t2, t3⟩ := h
    exact ⟨n, k0, r, q, h0, z, c, e1, ty_g g (by decide) t, ty_g g (by omega) t2, t3⟩
  rw [if_neg c4] at h ⊢
  by_cases c5 : k = 5
  · rw [if_pos c5] at h ⊢
    obtain ⟨n, q, e1, t, t2⟩ := h
    exact ⟨n, q, e1, t, ty_g g (by decide) t2⟩
  rw [if_neg c5] at h ⊢
  by_cases c6 : k = 6
  · rw [if_pos c6] at h ⊢
    obtain ⟨n, k0, r, o, e1, t⟩ := h
    exact ⟨n, k0, r, o, e1, ty_g g (by decide) t⟩
  rw [if_neg c6] at h ⊢
  by_cases c7 : k = 7
  · rw [if_pos c7] at h ⊢
    obtain ⟨n, st, x, a9, w, i, wk, sy, rw9, kp, an, cd, sz, e1, t, t2, t3⟩ := h
    exact ⟨n, st, x, a9, w, i, wk, sy, rw9, kp, an, cd, sz, e1, tySO_g g t, tyO_g g (by decide) t2, ty_g g (by decide) t3⟩
  rw [if_neg c7] at h ⊢
  by_cases c8 : k = 8
  · rw [if_pos c8] at h ⊢
    obtain ⟨cd, sz, pl, b9, a9, e1, t, t2, t3⟩ := h
    exact ⟨cd, sz, pl, b9, a9, e1, ty_g g (by decide) t, ty_g g (by decide) t2, t3⟩
  rw [if_neg c8] at h ⊢
  by_cases c9 : k = 9
  · rw [if_pos c9] at h ⊢
    obtain ⟨tp, sy, st, ck, sp, la, e1, t, t2, t3⟩ := h
    exact ⟨tp, sy, st, ck, sp, la, e1, ty_g g (by decide) t, ty_g g (by decide) t2, ty_g g (by decide) t3⟩
  rw [if_neg c9] at h ⊢
  by_cases c11 : k = 11
  · rw [if_pos c11] at h ⊢; exact h
  rw [if_neg c11] at h ⊢
  by_cases c12 : k = 12
  · rw [if_pos c12] at h ⊢; exact h
  rw [if_neg c12] at h ⊢
  by_cases c13 : k = 13
  · rw [if_pos c13] at h ⊢
    obtain ⟨g0, e1, t⟩ := h
    exact ⟨g0, e1, fun j => tyO_g g (by decide) (t j)⟩
  rw [if_neg c13] at h ⊢
  by_cases c14 : k = 14
  · rw [if_pos c14] at h ⊢
    obtain ⟨g0, e1, t⟩ := h
    exact ⟨g0, e1, fun j hj => by obtain ⟨y, z1, z2⟩ := t j hj; exact ⟨y, z1, ty_g g (by decide) z2⟩⟩
  rw [if_neg c14] at h ⊢
  by_cases c15 : k = 15
  · rw [if_pos c15] at h ⊢
    obtain ⟨g0, e1, t⟩ := h
    exact ⟨g0, e1, fun j => tySO_g g (t j)⟩
  rw [if_neg c15] at h ⊢
  exact h
end GT
/-- the pool has grown: what was is as it was, no new tape -/
def gW (τ : Nat → Nat) (L : List Nat) (f : Nat → va_E) (τ1 : Nat → Nat) (L1 : List Nat) (f1 : Nat → va_E) : Prop := (∀ b, b ∈ L → b ∈ L1 ∧ τ1 b = τ b ∧ f1 b = f b) ∧ ∀ b, b ∈ L1 → b ∉ L → τ1 b ≠ 8
/-- .. all but o -/
def gU (τ : Nat → Nat) (L : List Nat) (f : Nat → va_E) (o : Nat) (τ1 : Nat → Nat) (L1 : List Nat) (f1 : Nat → va_E) : Prop := (∀ b, b ∈ L → b ≠ o → b ∈ L1 ∧ τ1 b = τ b ∧ f1 b = f b) ∧ ∀ b, b ∈ L1 → b ∉ L → τ1 b ≠ 8
section GW
variable {ks : kS} {τ τ1 τ2 : Nat → Nat} {L L1 L2 : List Nat} {ψ : Int32} {f f1 f2 : Nat → va_E} {o q k : Nat} {e : va_E} {D : va_G} {A : Nat → Prop} {H1 : Heap}
theorem gW.t (g : gW τ L f τ1 L1 f1) : gVt τ L τ1 L1 := fun b hb _ => ⟨(g.1 b hb).1, (g.1 b hb).2.1⟩
theorem gW.ty {r j : Nat} (g : gW τ L f τ1 L1 f1) (h : ty τ L r j) : ty τ1 L1 r j := ⟨(g.1 r h.1).1, (g.1 r h.1).2.1.trans h.2⟩
theorem gW.tyS {r : Nat} (g : gW τ L f τ1 L1 f1) (h : tyS τ L r) : tyS τ1 L1 r := tyS_g g.t h
theorem gW.eq {r : Nat} {e : va_E} (g : gW τ L f τ1 L1 f1) (h : r ∈ L) (hf : f r = e) : f1 r = e := (g.1 r h).2.2.trans hf
theorem gU_rf : gU τ L f o τ L f := ⟨fun b hb _ => ⟨hb, rfl, rfl⟩, fun b h1 h2 => absurd h1 h2⟩
theorem gU_up (g : gU τ L f o τ1 L1 f1) (e2 : f2 = va_up f1 o e) : gU τ L f o τ1 L1 f2 :=
  ⟨fun b hb hn => ⟨(g.1 b hb hn).1, (g.1 b hb hn).2.1, by rw [e2, va_up_ne _ _ hn]; exact (g.1 b hb hn).2.2⟩, g.2⟩
theorem gU_w (g : gU τ L f o τ1 L1 f1) (w : gW τ1 L1 f1 τ2 L2 f2) : gU τ L f o τ2 L2 f2 :=
  ⟨fun b hb hn => by
    obtain ⟨a1, a2, a3⟩ := g.1 b hb hn
    obtain ⟨b1, b2, b3⟩ := w.1 b a1
    exact ⟨b1, b2.trans a2, b3.trans a3⟩, fun b h1 h2 => by
    by_cases z : b ∈ L1
    · rw [(w.1 b z).2.1]; exact g.2 b z h2
    · exact w.2 b h1 z⟩
/-- .. a second call upon o -/
theorem gU_o (g : gU τ L f o τ1 L1 f1) (w : gU τ1 L1 f1 o τ2 L2 f2) (ho : o ∈ L) : gU τ L f o τ2 L2 f2 :=
  ⟨fun b hb hn => by
    obtain ⟨a1, a2, a3⟩ := g.1 b hb hn
    obtain ⟨b1, b2, b3⟩ := w.1 b a1 hn
    exact ⟨b1, b2.trans a2, b3.trans a3⟩, fun b h1 h2 => by
    by_cases z : b ∈ L1
    · have hn : b ≠ o := fun y => h2 (by rw [y]; exact ho)
      rw [(w.1 b z hn).2.1]; exact g.2 b z h2
    · exact w.2 b h1 z⟩
/-- a new cell, and its constructor -/
theorem gNew (g : gW τ L f τ1 L1 f1) (hq : q ∉ L) (w : gU τ1 L1 f1 q τ2 L2 f2) (h8 : ty τ2 L2 q k) (hk : k ≠ 8) : gW τ L f τ2 L2 f2 :=
  ⟨fun b hb => by
    obtain ⟨a1, a2, a3⟩ := g.1 b hb
    have hn : b ≠ q := fun y => hq (by rw [← y]; exact hb)
    obtain ⟨b1, b2, b3⟩ := w.1 b a1 hn
    exact ⟨b1, b2.trans a2, b3.trans a3⟩, fun b h1 h2 => by
    by_cases y : b = q
    · rw [y, h8.2]; exact hk
    · by_cases z : b ∈ L1
      · rw [(w.1 b z y).2.1]; exact g.2 b z h2
      · exact w.2 b h1 z⟩
theorem grow (hP : va_P D vwCl (va_pl L f ++ [(q, e)]) H1) (hD : va_D A (va_pl L f ++ [(q, e)])) (I : cI ks τ L ψ f) (he : ∀ (τ1 : Nat → Nat) (L1 : List Nat), cOk ks τ1 L1 ψ e k) (hk : k ≠ 8) :
    ∃ (τ1 : Nat → Nat) (L1 : List Nat) (f1 : Nat → va_E), gW τ L f τ1 L1 f1 ∧ q ∉ L ∧ ty τ1 L1 q k ∧ f1 q = e ∧ cV D L1 f1 A H1 ∧ cI ks τ1 L1 ψ f1 := by
  have hq : q ∉ L := va_pl_fresh2 (X := []) (by rw [List.nil_append]; exact hD)
  have g : gW τ L f (va_up τ q k) (L ++ [q]) (va_up f q e) := by
    refine ⟨fun b hb => ?_, fun b h1 h2 => ?_⟩
    · have hn : b ≠ q := fun y => hq (by rw [← y]; exact hb)
      exact ⟨List.mem_append_left _ hb, va_up_ne _ _ hn, va_up_ne _ _ hn⟩
    · rcases List.mem_append.mp h1 with z | z
      · exact absurd z h2
      · rw [List.mem_singleton.mp z, va_up_self]; exact hk
  refine ⟨va_up τ q k, L ++ [q], va_up f q e, g, hq, ⟨List.mem_append_right _ (List.mem_singleton.mpr rfl), va_up_self _ _ _⟩, va_up_self _ _ _, ?_, ?_⟩
  · rw [va_pl_push hq] at hP hD
    exact ⟨hP, hD⟩
  · intro b hb
    rcases List.mem_append.mp hb with z | z
    · obtain ⟨-, a2, a3⟩ := g.1 b z
      rw [a2, a3]
      exact cOk_g g.t (I b z)
    · rw [List.mem_singleton.mp z, va_up_self, va_up_self]
      exact he _ _
/-- a raw cell gets its kind -/
theorem rekind (I : cI ks τ L ψ f) (t : ty τ L o 99) (he : ∀ τ1 : Nat → Nat, gVt τ L τ1 L → cOk ks τ1 L ψ (f o) k) : ∃ τ1 : Nat → Nat, gVt τ L τ1 L ∧ (∀ b, b ≠ o → τ1 b = τ b) ∧ ty τ1 L o k ∧ cI ks τ1 L ψ f := by
  have g : gVt τ L (va_up τ o k) L := fun b hb h9 => ⟨hb, va_up_ne _ _ (fun y => h9 (by rw [y]; exact t.2))⟩
  refine ⟨va_up τ o k, g, fun b hn => va_up_ne _ _ hn, ⟨t.1, va_up_self _ _ _⟩, fun b hb => ?_⟩
  by_cases y : b = o
  · rw [y, va_up_self]; exact he _ g
  · rw [va_up_ne _ _ y]; exact cOk_g g (I b hb)
theorem gU_k (g : gU τ L f o τ1 L1 f1) (h : ∀ b, b ≠ o → τ2 b = τ1 b) (ho : o ∈ L) : gU τ L f o τ2 L1 f1 :=
  ⟨fun b hb hn => ⟨(g.1 b hb hn).1, (h b hn).trans (g.1 b hb hn).2.1, (g.1 b hb hn).2.2⟩, fun b h1 h2 => by
    rw [h b (fun y => h2 (by rw [y]; exact ho))]; exact g.2 b h1 h2⟩
theorem cI_raw {a : Nat} (I : cI ks τ L ψ f) (h : τ a = 99) (e1 : f1 = va_up f a e) : cI ks τ L ψ f1 := cI_up I h e1 (by unfold cOk; rw [if_neg (by decide), if_neg (by decide), if_neg (by decide), if_neg (by decide), if_neg (by decide), if_neg (by decide), if_neg (by decide), if_neg (by decide), if_neg (by decide), if_neg (by decide), if_neg (by decide), if_neg (by decide), if_neg (by decide), if_neg (by decide), if_neg (by decide), if_pos rfl]; trivial)
theorem cOk99 : cOk ks τ L ψ e 99 := by unfold cOk; rw [if_neg (by decide), if_neg (by decide), if_neg (by decide), if_neg (by decide), if_neg (by decide), if_neg (by decide), if_neg (by decide), if_neg (by decide), if_neg (by decide), if_neg (by decide), if_neg (by decide), if_neg (by decide), if_neg (by decide), if_neg (by decide), if_neg (by decide), if_pos rfl]; trivial
end GW
abbrev nX : Type := (Nat → va_E) × (Nat → Nat) × List Nat
def cBn (D : va_G) (ks : kS) (A : Nat → Prop) (N : State → Prop) (ψ : Int32) (x : nX) (U : State) : Prop := cB D ks x.2.1 x.2.2 A N (ψ, x.1) U
theorem tCoi : Cond.instanceMethod Lib.objectInit ∈ tC := List.mem_of_getElem? (i := 2) (by decide +kernel)
theorem tCoc : Cond.code Lib.objectInit ⟨#[0xb1]⟩ 1 none ∈ tC := List.mem_of_getElem? (i := 3) (by decide +kernel)
section CN2
variable {p : Program} {l : Launch} {e : Env} {R : Room} {s : State} {m : MethodId} {args : Array Value} {below : List Frame} {meth : Method} {c : Code} {H : Heap} {locs : List Loc} {cells slots : Nat} {Q : State → Prop}
variable {cc : ByteArray} {pc : Nat} {ls : Array Slot} {rest : List Value} {D : va_G} {ks : kS} {τ : Nat → Nat} {L : List Nat} {A : Nat → Prop} {N : State → Prop} {ψ : Int32} {f : Nat → va_E} {H0 : Heap} {own : String} {a : Nat} {κ : kC}
variable {y : MethodName} {cy : ByteArray} {n nL idx index mc ms : Nat} {rm : Room} {As st0 av : List Value} {Qc : Array Value → State → Outcome → State → Prop}
theorem cMetN {ret : Option FieldType} (hy : plainName y.cls = true) (hown : y.cls = own) (hn : (lg_sl av).length ≤ n)
    (body : ∀ (p : Program) (e : Env) (s : State) (m : MethodId) (below : List Frame) (meth : Method) (c : Code) (ls : Array Slot), cC own p s m av.toArray c cy D ks → c.maxLocals = n → meth.sig.returnType = ret → meth.locks = false → meth.name = y.name → cV D L f A s.heap → cI ks τ L ψ f → N s → lv_has ls n (lv_args 0 av) →
      W p l e rm s m av.toArray below meth c s.heap [] 0 0 (MQ below Qc av.toArray s mc ms A) (F0 m 0 ls [])) :
    Met l y (Cond.code y cy n ret :: tC) rm (va_Pc av (cB D ks τ L A N (ψ, f))) Qc mc ms A := by
  refine Met.ofW (cc := cy) (maxL := n) (ret := ret) hy rfl ?_
  intro p e s m args below meth c s₁ B hml hv
  obtain ⟨rfl, hV, hI, hK, hNs⟩ := hv
  have hts := atoms_spec (ws := Cond.code y cy n ret :: tC) B.pre
  have hf : s.vm.findClass y.cls = some m.cls := findClass_of_methodNamed B.named
  have hl := lv_entry av (n := n) hn
  rw [lg_entry_eq]
  exact body p e s m below meth c _ ⟨B.exec, B.bytes, hown ▸ hf, fun w h => hts w (List.mem_cons_of_mem _ h), hK⟩ hml B.returns B.notSynchronized (name_of_methodNamed B.named B.method).1 hV hI hNs hl
theorem cWd {g : JFrame} (h : cells ≤ mc ∧ slots ≤ ms) (k : W p l e R s m args below meth c H locs mc ms Q g) : W p l e R s m args below meth c H locs cells slots Q g := fun T hT X => k T hT (stand_widen X h.1 h.2)
theorem cRetN {post : nX → Prop} (C9 : cC own p s m args c cc D ks) (hr : meth.sig.returnType = none) (hlk : meth.locks = false) (hN : cNk A N) (hNs : N s) (V : cV D L f A H) (I : cI ks τ L ψ f) (hS : va_S A s.heap H locs) (hp : post (f, τ, L)) (hc : cells ≤ mc ∧ slots ≤ ms) (hdg : decode cc pc = .ok (.return_, 1)) :
    W p l e R s m args below meth c H locs cells slots (MQ below (va_Qv post (cBn D ks A N ψ) A) args s mc ms A) (F0 m pc ls []) := by
  obtain ⟨hx, hb, -, -, hK⟩ := C9
  exact cWd hc (W.vret hx hb hr (fun t ht hW => ⟨⟨(f, τ, L), rfl, hp, by rw [ht]; exact V, I, va_K.moved hW.alike hK, cNt hN hNs hS ht hW⟩, hS.F ht⟩) hS.2.2 hdg hlk)
theorem cRetNq {post : Option Nat → nX → Prop} {v : Option Nat} {C : String} (C9 : cC own p s m args c cc D ks) (hr : meth.sig.returnType = some (.object C)) (hlk : meth.locks = false) (hN : cNk A N) (hNs : N s) (V : cV D L f A H) (I : cI ks τ L ψ f) (hS : va_S A s.heap H locs) (hp : post v (f, τ, L)) (hc : cells ≤ mc ∧ slots ≤ ms) (hdg : decode cc pc = .ok (.areturn, 1)) :
    W p l e R s m args below meth c H locs cells slots (MQ below (va_Qq post (cBn D ks A N ψ) A) args s mc ms A) (F0 m pc ls [va_rf v]) := by
  obtain ⟨hx, hb, -, -, hK⟩ := C9
  exact cWd hc (W.aret hx hb hr (Or.inl ⟨_, rfl⟩) (by cases v <;> simp [va_rf]) (fun t ht hW => ⟨⟨v, (f, τ, L), rfl, hp, by rw [ht]; exact V, I, va_K.moved hW.alike hK, cNt hN hNs hS ht hW⟩, hS.F ht⟩) hS.2.2 hdg hlk)
theorem cRetNi {post : Int32 → nX → Prop} {v : Int32} (C9 : cC own p s m args c cc D ks) (hr : meth.sig.returnType = some .int) (hlk : meth.locks = false) (hN : cNk A N) (hNs : N s) (V : cV D L f A H) (I : cI ks τ L ψ f) (hS : va_S A s.heap H locs) (hp : post v (f, τ, L)) (hdg : decode cc pc = .ok (.ireturn, 1)) :
    W p l e R s m args below meth c H locs cells slots (MQ below (va_Qi post (cBn D ks A N ψ) A) args s cells slots A) (F0 m pc ls [.int v]) := by
  obtain ⟨hx, hb, -, -, hK⟩ := C9
  exact W.iret hx hb hr (fun t ht hW => ⟨⟨v, (f, τ, L), rfl, hp, by rw [ht]; exact V, I, va_K.moved hW.alike hK, cNt hN hNs hS ht hW⟩, hS.F ht⟩) hS.2.2 hdg hlk
theorem gI_c {w : Cond} (h : w ∈ tC) : GoodIn tC (w :: tC) := fun x hx => by
  rcases List.mem_cons.mp hx with rfl | z
  · exact tC_self _ h
  · exact tC_self _ z
theorem cRunI (C9 : cC own p s m args c cc D ks) (hml : c.maxLocals = nL) (hN : cNk A N) (hNs : N s) (V : cV D L f A H) (I : cI ks τ L ψ f) (hS : va_S A s.heap H locs)
    (hM : Met l y (Cond.code y cy n none :: tC) rm (va_Pc (.ref a :: As) (cB D ks τ L A N (ψ, f))) Qc mc ms A) (hw : Cond.code y cy n none ∈ tC ∧ Cond.initialized y.cls ∈ tC ∧ Cond.instanceMethod y ∈ tC ∧ Cond.methodLink own idx y ∈ tC) (hy1 : y.name = "<init>") (hk : cOkY y y.cls As.length)
    (hR : rm.cells = mc ∧ rm.slots = ms ∧ rm.frames + 1 ≤ R.frames ∧ 8 + (n + 11) + rm.locals ≤ R.locals) (hsz : ls.size = nL) (hst : st0 = As.reverse ++ .ref a :: rest) (hro : (rest.map fun v => v.category).sum ≤ 8)
    (hdg : decode cc pc = .ok (.invokespecial idx, 3)) (hcs : cells + mc ≤ R.cells ∧ slots + ms ≤ R.slots) :
    va_Run p l e R s m args below meth c H locs cells slots mc ms (F0 m pc ls st0) rest (Qc (Value.ref a :: As).toArray) A := by
  obtain ⟨hx, hb, hown, hts, hK⟩ := C9
  exact va_runI (As := As) (rest := rest) ⟨hx, hb, hml, hown, hts⟩ hM (cwI As.length hts (gI_c hw.1) rfl hR.1 hR.2.1 (hts _ hw.2.1) (hts _ hw.2.2.2) (hts _ hw.2.2.1) hy1 hk.2 hR.2.2) ⟨cblind hN, fun U hU hW => ⟨rfl, by rw [hU]; exact V, I, va_K.moved hW.alike hK, cNt hN hNs hS hU hW⟩⟩ rfl rfl hsz hst (lv_room hro) hdg hcs
theorem cRunIN {host : String} (C9 : cC own p s m args c cc D ks) (hml : c.maxLocals = nL) (hN : cNk A N) (hNs : N s) (h0 : N0 κ A s) (V : cV D L f A H) (I : cI ks τ L ψ f) (hS : va_S A s.heap H locs)
    (hM : Met l y (Cond.code y cy n none :: tC) rm (va_Pc (.ref a :: As) (cB D ks τ L A N (ψ, f))) Qc mc ms A) (hw : Cond.code y cy n none ∈ tC ∧ Cond.initialized y.cls ∈ tC ∧ Cond.instanceMethod y ∈ tC ∧ Cond.methodLinkNest own idx y host ∈ nwL) (hy1 : y.name = "<init>") (hk : cOkY y y.cls As.length)
    (hR : rm.cells = mc ∧ rm.slots = ms ∧ rm.frames + 1 ≤ R.frames ∧ 8 + (n + 11) + rm.locals ≤ R.locals) (hsz : ls.size = nL) (hst : st0 = As.reverse ++ .ref a :: rest) (hro : (rest.map fun v => v.category).sum ≤ 8)
    (hdg : decode cc pc = .ok (.invokespecial idx, 3)) (hcs : cells + mc ≤ R.cells ∧ slots + ms ≤ R.slots) :
    va_Run p l e R s m args below meth c H locs cells slots mc ms (F0 m pc ls st0) rest (Qc (Value.ref a :: As).toArray) A := by
  obtain ⟨hx, hb, hown, hts, hK⟩ := C9
  exact va_runIN (As := As) (rest := rest) (host := host) ⟨hx, hb, hml, hown, hts⟩ hM ⟨va_cnB As.length hts (gI_c hw.1) rfl hR.1 hR.2.1 (h0.2.2.2.2.2.2.2.2.1 _ hw.2.2.2) (hts _ hw.2.1) hk.2 hR.2.2, hy1, hts _ hw.2.2.1⟩ ⟨cblind hN, fun U hU hW => ⟨rfl, by rw [hU]; exact V, I, va_K.moved hW.alike hK, cNt hN hNs hS hU hW⟩⟩ rfl rfl hsz hst (lv_room hro) hdg hcs
theorem cGoN {post : nX → Prop} {a : Array Value} (hr : va_Run p l e R s m args below meth c H locs cells slots mc ms (F0 m pc ls st0) rest (va_Qv post (cBn D ks A N ψ) A a) A) (hS : va_S A H0 H locs)
    (kk : ∀ (f1 : Nat → va_E) (τ1 : Nat → Nat) (L1 : List Nat) (H1 : Heap) (locs1 : List Loc), post (f1, τ1, L1) → cV D L1 f1 A H1 → cI ks τ1 L1 ψ f1 → va_S A H0 H1 locs1 → W p l e R s m args below meth c H1 locs1 (cells + mc) (slots + ms) Q (F0 m (pc + 3) ls rest)) : W p l e R s m args below meth c H locs cells slots Q (F0 m pc ls st0) :=
  va_callv hr hS (fun _ _ h => h) (fun _ h => h) (fun u t H1 locs1 ht hvm hw hB hz hk hS1 => kk u.1 u.2.1 u.2.2 H1 locs1 hw (by rw [← ht]; exact hB.1) hB.2.1 hS1)
theorem cGoNq {post : Option Nat → nX → Prop} {a : Array Value} (hr : va_Run p l e R s m args below meth c H locs cells slots mc ms (F0 m pc ls st0) rest (va_Qq post (cBn D ks A N ψ) A a) A) (hS : va_S A H0 H locs)
    (kk : ∀ (r : Option Nat) (f1 : Nat → va_E) (τ1 : Nat → Nat) (L1 : List Nat) (H1 : Heap) (locs1 : List Loc), post r (f1, τ1, L1) → cV D L1 f1 A H1 → cI ks τ1 L1 ψ f1 → va_S A H0 H1 locs1 → W p l e R s m args below meth c H1 locs1 (cells + mc) (slots + ms) Q (F0 m (pc + 3) ls (va_rf r :: rest))) : W p l e R s m args below meth c H locs cells slots Q (F0 m pc ls st0) :=
  va_callq hr hS (fun _ _ h => h) (fun _ h => h) (fun r u t H1 locs1 ht hvm hw hB hz hk hS1 => kk r u.1 u.2.1 u.2.2 H1 locs1 hw (by rw [← ht]; exact hB.1) hB.2.1 hS1)
/-- new -/
theorem cNw {C : String} {T : u_T} {K ci : Nat} {fs : List Value} (C9 : cC own p s m args c cc D ks) (h0 : N0 κ A s) (V : cV D L f A H) (I : cI ks τ L ψ f) (hS : va_S A s.heap H locs) (hc : vwCl[ci]? = some (C, T, K)) (hin : ∀ w ∈ u_ws C T K, w ∈ tC) (ty0 : Nat → FieldType) (hty : ∀ k, k < K → parseFieldDescriptor (T k).2.2.1 = some (ty0 k))
    (hw : Cond.classLink own index C ∈ tC ∧ Cond.instantiable C K ∈ tC ∧ Cond.initialized C ∈ tC) (hfs : ∀ j, j < K → defaultValue (ty0 j) = vp_V fs j) (hcs : cells + 1 ≤ R.cells ∧ slots + K ≤ R.slots) (hdg : decode cc pc = .ok (.new index, 3))
    (kk : ∀ (q : Nat) (τ1 : Nat → Nat) (L1 : List Nat) (f1 : Nat → va_E) (H1 : Heap), gW τ L f τ1 L1 f1 → q ∉ L → ty τ1 L1 q 99 → f1 q = .inr (ci, fs) → cV D L1 f1 A H1 → cI ks τ1 L1 ψ f1 → va_S A s.heap H1 locs → W p l e R s m args below meth c H1 locs (cells + 1) (slots + K) Q (F0 m (pc + 3) ls (.ref q :: rest))) : W p l e R s m args below meth c H locs cells slots Q (F0 m pc ls rest) := by
  obtain ⟨hx, hb, hown, hts, hK⟩ := C9
  refine va_new hx hb hts hin ty0 hty hown (hts _ hw.1) (hts _ hw.2.1) (hts _ hw.2.2) hK V.1 V.2 hS h0.2.2.2.2.2.2.2.2.2.2.2.2.2 hc hfs hcs.1 hcs.2 hdg (fun q H1 hP hD hS1 => ?_)
  obtain ⟨τ1, L1, f1, g1, g2, g3, g4, g5, g6⟩ := grow (k := 99) hP hD I (fun _ _ => cOk99) (by decide)
  exact kk q τ1 L1 f1 H1 g1 g2 g3 g4 g5 g6 hS1
/-- newarray of ints (t0 = 1) or bytes (t0 = 0) -/
theorem cNa {atype : ArrayType} {ty9 : FieldType} {v : Int32} {K k t0 : Nat} {cA0 : ClassId} (C9 : cC own p s m args c cc D ks) (h0 : N0 κ A s) (V : cV D L f A H) (I : cI ks τ L ψ f) (hS : va_S A s.heap H locs) (hw : Cond.arrayClass (newarray.typeOf atype) ∈ tC) (hty : newarray.typeOf atype = ty9) (ht : (cT ks)[t0]? = some (cA0, ty9)) (hra : ∀ (U : State) (cA : ClassId), va_RA U cA ty9 → U.vm.findClass ("[" ++ ty9.toString) = some cA)
    (ha : ∀ cA : ClassId, vp_cell cA (K, .inl (fun _ => 0)) = arrV cA K (fun _ => defaultValue ty9)) (hn : ¬ v < 0) (hK9 : v.toNatClampNeg = K) (hbytes : K * componentBytes ty9 ≤ 536870912) (he : ∀ (τ1 : Nat → Nat) (L1 : List Nat), cOk ks τ1 L1 ψ (.inl (cA0, K, .inl (fun _ => 0))) k) (hk8 : k ≠ 8) (hcs : cells + 1 ≤ R.cells ∧ slots + K ≤ R.slots) (hdg : decode cc pc = .ok (.newarray atype, 2))
    (kk : ∀ (q : Nat) (τ1 : Nat → Nat) (L1 : List Nat) (f1 : Nat → va_E) (H1 : Heap), gW τ L f τ1 L1 f1 → q ∉ L → ty τ1 L1 q k → cV D L1 f1 A H1 → cI ks τ1 L1 ψ f1 → va_S A s.heap H1 locs → W p l e R s m args below meth c H1 locs (cells + 1) (slots + K) Q (F0 m (pc + 2) ls (.ref q :: rest))) : W p l e R s m args below meth c H locs cells slots Q (F0 m pc ls (.int v :: rest)) := by
  obtain ⟨hx, hb, hown, hts, hK⟩ := C9
  refine va_newa hx hb (hts _ hw) hty hK V.1 V.2 hS h0.2.2.2.2.2.2.2.2.2.2.2.2.2 ha hn hK9 hbytes hcs.1 hcs.2 hdg (fun q cA H1 hK1 hP hD hS1 => ?_)
  have e1 := hra s cA0 (hK.2 t0 _ ht).2
  have e2 := hra s cA (hK1.2 4 (cA, ty9) rfl).2
  have ec : cA = cA0 := Option.some.inj (e2.symm.trans e1)
  subst ec
  obtain ⟨τ1, L1, f1, g1, g2, g3, g4, g5, g6⟩ := grow (k := k) hP hD I he hk8
  exact kk q τ1 L1 f1 H1 g1 g2 g3 g5 g6 hS1
/-- anewarray of Strands (t0 = 2) or Syncs (t0 = 3) -/
theorem cNq {C : String} {v : Int32} {K k t0 : Nat} {cA0 : ClassId} (C9 : cC own p s m args c cc D ks) (h0 : N0 κ A s) (hao : va_AO C s) (V : cV D L f A H) (I : cI ks τ L ψ f) (hS : va_S A s.heap H locs) (hw : Cond.classLink own index C ∈ tC) (ht : (cT ks)[t0]? = some (cA0, .object C))
    (hn : ¬ v < 0) (hK9 : v.toNatClampNeg = K) (hbytes : K * 4 ≤ 536870912) (he : ∀ (τ1 : Nat → Nat) (L1 : List Nat), cOk ks τ1 L1 ψ (.inl (cA0, K, rfs (fun _ => none))) k) (hk8 : k ≠ 8) (hcs : cells + 1 ≤ R.cells ∧ slots + K ≤ R.slots) (hdg : decode cc pc = .ok (.anewarray index, 3))
    (kk : ∀ (q : Nat) (τ1 : Nat → Nat) (L1 : List Nat) (f1 : Nat → va_E) (H1 : Heap), gW τ L f τ1 L1 f1 → q ∉ L → ty τ1 L1 q k → f1 q = .inl (cA0, K, rfs (fun _ => none)) → cV D L1 f1 A H1 → cI ks τ1 L1 ψ f1 → va_S A s.heap H1 locs → W p l e R s m args below meth c H1 locs (cells + 1) (slots + K) Q (F0 m (pc + 3) ls (.ref q :: rest))) : W p l e R s m args below meth c H locs cells slots Q (F0 m pc ls (.int v :: rest)) := by
  obtain ⟨hx, hb, hown, hts, hK⟩ := C9
  refine va_newq hx hb hown (hts _ hw) hao hK V.1 V.2 hS h0.2.2.2.2.2.2.2.2.2.2.2.2.2 hn hK9 hbytes hcs.1 hcs.2 hdg (fun q cA H1 hK1 hP hD hS1 => ?_)
  obtain ⟨-, -, -, -, -, e1⟩ := (hK.2 t0 _ ht).2
  obtain ⟨-, -, -, -, -, e2⟩ := (hK1.2 4 (cA, .object C) rfl).2
  have ec : cA = cA0 := Option.some.inj (e2.symm.trans e1)
  subst ec
  obtain ⟨τ1, L1, f1, g1, g2, g3, g4, g5, g6⟩ := grow (k := k) hP hD I he hk8
  exact kk q τ1 L1 f1 H1 g1 g2 g3 g4 g5 g6 hS1
/-- Object's constructor -/
theorem cObj (C9 : cC own p s m args c cc D ks) (hml : c.maxLocals = nL) (hsz : ls.size = nL) (hw : Cond.methodLink own idx Lib.objectInit ∈ tC) (hR : 1 ≤ R.frames ∧ 20 ≤ R.locals) (hdg : decode cc pc = .ok (.invokespecial idx, 3))
    (kk : W p l e R s m args below meth c H locs cells slots Q (F0 m (pc + 3) ls [])) : W p l e R s m args below meth c H locs cells slots Q (F0 m pc ls [.ref a]) := by
  obtain ⟨hx, hb, hown, hts, hK⟩ := C9
  refine W.objInit hx hb hown (hts _ hw) (hts _ tCoi) (hts _ tCoc) (g := F0 m pc ls [.ref a]) rfl (hsz.trans hml.symm) (rest := []) rfl hdg hR.1 ?_ kk
  have := lv_room (m := m) (pc := pc) (ls := ls) (rest := [.ref a]) (st := []) (Nat.zero_le _)
  have h2 := hR.2
  omega
/-- putfield in a constructor: a final field of its own class -/
theorem cPF {ref C : String} {T : u_T} {K ci : Nat} {fs : List Value} {v : Value} {ty : FieldType} (C9 : cC own p s m args c cc D ks) (V : cV D L f A H) (hS : va_S A H0 H locs) (ha : a ∈ L) (hf : f a = .inr (ci, fs)) (hc : vwCl[ci]? = some (C, T, K)) (hin : ∀ w ∈ u_ws C T K, w ∈ tC) (ty0 : Nat → FieldType) (hty : ∀ k, k < K → parseFieldDescriptor (T k).2.2.1 = some (ty0 k)) (hnm : ∀ a, a < K → ∀ b, b < K → a ≠ b → (T a).2.1 ≠ (T b).2.1) (k : Nat) (hk : k < K)
    (hl : Cond.fieldLink own index ref (T k).2.1 (T k).2.2.1 ∈ tC) (hsame : (T k).1 = ref) (hfin : (T k).2.2.2 = true) (hin2 : meth.name = "<init>") (hdecl : (T k).1 = own) (hd : parseFieldDescriptor (T k).2.2.1 = some ty) (hn : narrow ty v = v) (hfit : fits ty v = true) (hlen : k < fs.length) (hdg : decode cc pc = .ok (.putfield index, 3))
    (kk : ∀ (f1 : Nat → va_E) (H1 : Heap) (locs1 : List Loc), f1 = va_up f a (.inr (ci, fs.set k v)) → cV D L f1 A H1 → va_S A H0 H1 locs1 → W p l e R s m args below meth c H1 locs1 cells slots Q (F0 m (pc + 3) ls rest)) : W p l e R s m args below meth c H locs cells slots Q (F0 m pc ls (v :: .ref a :: rest)) := by
  obtain ⟨hx, hb, hown, hts, hK⟩ := C9
  obtain ⟨q0, hq0⟩ := va_pl0 (f := f) ha
  have hq := hq0
  rw [hf] at hq
  refine va_putF hx hb hts hin ty0 hty hnm hown hK V.1 V.2 hS q0 hq hc k hk (hts _ hl) (fun x h => by rw [← hsame]; exact h) hfin hin2 hdecl hd hn hfit hlen hdg (fun H1 locs1 hP hD hS1 => ?_)
  rw [va_pls V.2 ha hq0] at hP hD
  exact kk _ H1 locs1 rfl ⟨hP, hD⟩ hS1
end CN2
theorem tCo_X6_3 : Cond.methodLink RX6 3 Lib.objectInit ∈ tC := List.mem_of_getElem? (i := 1) (by decide +kernel)
theorem tCo_X9_3 : Cond.methodLink RX9 3 Lib.objectInit ∈ tC := List.mem_of_getElem? (i := 7) (by decide +kernel)
theorem tCn_X1_3 : Cond.code yX9_init cX9_init 3 none ∈ tC ∧ Cond.initialized RX9 ∈ tC ∧ Cond.instanceMethod yX9_init ∈ tC ∧ Cond.methodLink RX1 3 yX9_init ∈ tC := ⟨List.mem_of_getElem? (i := 6) (by decide +kernel), List.mem_of_getElem? (i := 19) (by decide +kernel), List.mem_of_getElem? (i := 18) (by decide +kernel), List.mem_of_getElem? (i := 17) (by decide +kernel)⟩
theorem tCn_X2_3 : Cond.code yX9_init cX9_init 3 none ∈ tC ∧ Cond.initialized RX9 ∈ tC ∧ Cond.instanceMethod yX9_init ∈ tC ∧ Cond.methodLink RX2 3 yX9_init ∈ tC := ⟨List.mem_of_getElem? (i := 6) (by decide +kernel), List.mem_of_getElem? (i := 19) (by decide +kernel), List.mem_of_getElem? (i := 18) (by decide +kernel), List.mem_of_getElem? (i := 112) (by decide +kernel)⟩
theorem tCn_X3_3 : Cond.code yX9_init cX9_init 3 none ∈ tC ∧ Cond.initialized RX9 ∈ tC ∧ Cond.instanceMethod yX9_init ∈ tC ∧ Cond.methodLink RX3 3 yX9_init ∈ tC := ⟨List.mem_of_getElem? (i := 6) (by decide +kernel), List.mem_of_getElem? (i := 19) (by decide +kernel), List.mem_of_getElem? (i := 18) (by decide +kernel), List.mem_of_getElem? (i := 141) (by decide +kernel)⟩
theorem tCn_X4_3 : Cond.code yX9_init cX9_init 3 none ∈ tC ∧ Cond.initialized RX9 ∈ tC ∧ Cond.instanceMethod yX9_init ∈ tC ∧ Cond.methodLink RX4 3 yX9_init ∈ tC := ⟨List.mem_of_getElem? (i := 6) (by decide +kernel), List.mem_of_getElem? (i := 19) (by decide +kernel), List.mem_of_getElem? (i := 18) (by decide +kernel), List.mem_of_getElem? (i := 168) (by decide +kernel)⟩
theorem tCn_X5_3 : Cond.code yX9_init cX9_init 3 none ∈ tC ∧ Cond.initialized RX9 ∈ tC ∧ Cond.instanceMethod yX9_init ∈ tC ∧ Cond.methodLink RX5 3 yX9_init ∈ tC := ⟨List.mem_of_getElem? (i := 6) (by decide +kernel), List.mem_of_getElem? (i := 19) (by decide +kernel), List.mem_of_getElem? (i := 18) (by decide +kernel), List.mem_of_getElem? (i := 226) (by decide +kernel)⟩
theorem tCn_X7_3 : Cond.code yX9_init cX9_init 3 none ∈ tC ∧ Cond.initialized RX9 ∈ tC ∧ Cond.instanceMethod yX9_init ∈ tC ∧ Cond.methodLink RX7 3 yX9_init ∈ tC := ⟨List.mem_of_getElem? (i := 6) (by decide +kernel), List.mem_of_getElem? (i := 19) (by decide +kernel), List.mem_of_getElem? (i := 18) (by decide +kernel), List.mem_of_getElem? (i := 259) (by decide +kernel)⟩
theorem tCo_X8_3 : Cond.methodLink RX8 3 Lib.objectInit ∈ tC := List.mem_of_getElem? (i := 280) (by decide +kernel)
theorem tCo_X10_3 : Cond.methodLink RX10 3 Lib.objectInit ∈ tC := List.mem_of_getElem? (i := 290) (by decide +kernel)
theorem tCo_X12_1 : Cond.methodLink RX12 1 Lib.objectInit ∈ tC := List.mem_of_getElem? (i := 387) (by decide +kernel)
theorem tCn_X12_32 : Cond.code yX8_init cX8_init 2 none ∈ tC ∧ Cond.initialized RX8 ∈ tC ∧ Cond.instanceMethod yX8_init ∈ tC ∧ Cond.methodLink RX12 32 yX8_init ∈ tC := ⟨List.mem_of_getElem? (i := 279) (by decide +kernel), List.mem_of_getElem? (i := 37) (by decide +kernel), List.mem_of_getElem? (i := 399) (by decide +kernel), List.mem_of_getElem? (i := 398) (by decide +kernel)⟩
theorem tCn_X12_212 : Cond.code yX4_init cX4_init 3 none ∈ tC ∧ Cond.initialized RX4 ∈ tC ∧ Cond.instanceMethod yX4_init ∈ tC ∧ Cond.methodLink RX12 212 yX4_init ∈ tC := ⟨List.mem_of_getElem? (i := 163) (by decide +kernel), List.mem_of_getElem? (i := 177) (by decide +kernel), List.mem_of_getElem? (i := 427) (by decide +kernel), List.mem_of_getElem? (i := 426) (by decide +kernel)⟩
theorem tCn_X12_217 : Cond.code yX7_init cX7_init 3 none ∈ tC ∧ Cond.initialized RX7 ∈ tC ∧ Cond.instanceMethod yX7_init ∈ tC ∧ Cond.methodLink RX12 217 yX7_init ∈ tC := ⟨List.mem_of_getElem? (i := 257) (by decide +kernel), List.mem_of_getElem? (i := 275) (by decide +kernel), List.mem_of_getElem? (i := 429) (by decide +kernel), List.mem_of_getElem? (i := 428) (by decide +kernel)⟩
theorem tCn_X12_222 : Cond.code yX5_init cX5_init 3 none ∈ tC ∧ Cond.initialized RX5 ∈ tC ∧ Cond.instanceMethod yX5_init ∈ tC ∧ Cond.methodLink RX12 222 yX5_init ∈ tC := ⟨List.mem_of_getElem? (i := 223) (by decide +kernel), List.mem_of_getElem? (i := 237) (by decide +kernel), List.mem_of_getElem? (i := 431) (by decide +kernel), List.mem_of_getElem? (i := 430) (by decide +kernel)⟩
theorem tCn_X12_225 : Cond.code yX2_init cX2_init 5 none ∈ tC ∧ Cond.initialized RX2 ∈ tC ∧ Cond.instanceMethod yX2_init ∈ tC ∧ Cond.methodLink RX12 225 yX2_init ∈ tC := ⟨List.mem_of_getElem? (i := 109) (by decide +kernel), List.mem_of_getElem? (i := 132) (by decide +kernel), List.mem_of_getElem? (i := 433) (by decide +kernel), List.mem_of_getElem? (i := 432) (by decide +kernel)⟩
theorem tCn_X12_230 : Cond.code yX1_init cX1_init 2 none ∈ tC ∧ Cond.initialized RX1 ∈ tC ∧ Cond.instanceMethod yX1_init ∈ tC ∧ Cond.methodLink RX12 230 yX1_init ∈ tC := ⟨List.mem_of_getElem? (i := 15) (by decide +kernel), List.mem_of_getElem? (i := 85) (by decide +kernel), List.mem_of_getElem? (i := 435) (by decide +kernel), List.mem_of_getElem? (i := 434) (by decide +kernel)⟩
theorem tCn_X12_233 : Cond.code yX3_init cX3_init 4 none ∈ tC ∧ Cond.initialized RX3 ∈ tC ∧ Cond.instanceMethod yX3_init ∈ tC ∧ Cond.methodLink RX12 233 yX3_init ∈ tC := ⟨List.mem_of_getElem? (i := 139) (by decide +kernel), List.mem_of_getElem? (i := 425) (by decide +kernel), List.mem_of_getElem? (i := 437) (by decide +kernel), List.mem_of_getElem? (i := 436) (by decide +kernel)⟩
theorem tCn_X12_9 : Cond.code yX10_init cX10_init 1 none ∈ tC ∧ Cond.initialized RX10 ∈ tC ∧ Cond.instanceMethod yX10_init ∈ tC ∧ Cond.methodLinkNest RX12 9 yX10_init RX12 ∈ nwL := ⟨List.mem_of_getElem? (i := 289) (by decide +kernel), List.mem_of_getElem? (i := 303) (by decide +kernel), List.mem_of_getElem? (i := 397) (by decide +kernel), by simp [nwL, RX12, RX12, yX10_init, RX10]⟩
theorem tCn_X9_11 : Cond.code yX6_init cX6_init 1 none ∈ tC ∧ Cond.initialized RX6 ∈ tC ∧ Cond.instanceMethod yX6_init ∈ tC ∧ Cond.methodLinkNest RX9 11 yX6_init RX12 ∈ nwL := ⟨List.mem_of_getElem? (i := 0) (by decide +kernel), List.mem_of_getElem? (i := 10) (by decide +kernel), List.mem_of_getElem? (i := 14) (by decide +kernel), by simp [nwL, RX9, RX12, yX6_init, RX6]⟩
theorem tCn_X4_17 : Cond.code yX6_init cX6_init 1 none ∈ tC ∧ Cond.initialized RX6 ∈ tC ∧ Cond.instanceMethod yX6_init ∈ tC ∧ Cond.methodLinkNest RX4 17 yX6_init RX12 ∈ nwL := ⟨List.mem_of_getElem? (i := 0) (by decide +kernel), List.mem_of_getElem? (i := 10) (by decide +kernel), List.mem_of_getElem? (i := 14) (by decide +kernel), by simp [nwL, RX4, RX12, yX6_init, RX6]⟩
theorem okN_X1_init : cOkY yX1_init (MethodName.cls yX1_init) 1 := by unfold cOkY; decide +kernel
theorem okN_X2_init : cOkY yX2_init (MethodName.cls yX2_init) 4 := by unfold cOkY; decide +kernel
theorem okN_X3_init : cOkY yX3_init (MethodName.cls yX3_init) 3 := by unfold cOkY; decide +kernel
theorem okN_X4_init : cOkY yX4_init (MethodName.cls yX4_init) 2 := by unfold cOkY; decide +kernel
theorem okN_X5_init : cOkY yX5_init (MethodName.cls yX5_init) 2 := by unfold cOkY; decide +kernel
theorem okN_X6_init : cOkY yX6_init (MethodName.cls yX6_init) 0 := by unfold cOkY; decide +kernel
theorem okN_X7_init : cOkY yX7_init (MethodName.cls yX7_init) 2 := by unfold cOkY; decide +kernel
theorem okN_X8_init : cOkY yX8_init (MethodName.cls yX8_init) 1 := by unfold cOkY; decide +kernel
theorem okN_X10_init : cOkY yX10_init (MethodName.cls yX10_init) 0 := by unfold cOkY; decide +kernel
theorem okN_X12_init : cOkY yX12_init (MethodName.cls yX12_init) 0 := by unfold cOkY; decide +kernel
theorem okN_X9_init : cOkY yX9_init (MethodName.cls yX9_init) 2 := by unfold cOkY; decide +kernel
theorem tCw_X6_9 : Cond.classLink RX6 9 RX8 ∈ tC ∧ Cond.instantiable RX8 13 ∈ tC ∧ Cond.initialized RX8 ∈ tC := ⟨List.mem_of_getElem? (i := 4) (by decide +kernel), List.mem_of_getElem? (i := 396) (by decide +kernel), List.mem_of_getElem? (i := 37) (by decide +kernel)⟩
theorem tCw_X9_9 : Cond.classLink RX9 9 RX6 ∈ tC ∧ Cond.instantiable RX6 2 ∈ tC ∧ Cond.initialized RX6 ∈ tC := ⟨List.mem_of_getElem? (i := 8) (by decide +kernel), List.mem_of_getElem? (i := 9) (by decide +kernel), List.mem_of_getElem? (i := 10) (by decide +kernel)⟩
theorem tCw_X4_15 : Cond.classLink RX4 15 RX6 ∈ tC ∧ Cond.instantiable RX6 2 ∈ tC ∧ Cond.initialized RX6 ∈ tC := ⟨List.mem_of_getElem? (i := 165) (by decide +kernel), List.mem_of_getElem? (i := 9) (by decide +kernel), List.mem_of_getElem? (i := 10) (by decide +kernel)⟩
theorem tCw_X12_7 : Cond.classLink RX12 7 RX10 ∈ tC ∧ Cond.instantiable RX10 6 ∈ tC ∧ Cond.initialized RX10 ∈ tC := ⟨List.mem_of_getElem? (i := 388) (by decide +kernel), List.mem_of_getElem? (i := 389) (by decide +kernel), List.mem_of_getElem? (i := 303) (by decide +kernel)⟩
theorem tCw_X12_22 : Cond.classLink RX12 22 RX8 ∈ tC ∧ Cond.instantiable RX8 13 ∈ tC ∧ Cond.initialized RX8 ∈ tC := ⟨List.mem_of_getElem? (i := 393) (by decide +kernel), List.mem_of_getElem? (i := 396) (by decide +kernel), List.mem_of_getElem? (i := 37) (by decide +kernel)⟩
theorem tCw_X12_147 : Cond.classLink RX12 147 RX4 ∈ tC ∧ Cond.instantiable RX4 7 ∈ tC ∧ Cond.initialized RX4 ∈ tC := ⟨List.mem_of_getElem? (i := 413) (by decide +kernel), List.mem_of_getElem? (i := 414) (by decide +kernel), List.mem_of_getElem? (i := 177) (by decide +kernel)⟩
theorem tCw_X12_215 : Cond.classLink RX12 215 RX7 ∈ tC ∧ Cond.instantiable RX7 4 ∈ tC ∧ Cond.initialized RX7 ∈ tC := ⟨List.mem_of_getElem? (i := 415) (by decide +kernel), List.mem_of_getElem? (i := 416) (by decide +kernel), List.mem_of_getElem? (i := 275) (by decide +kernel)⟩
theorem tCw_X12_220 : Cond.classLink RX12 220 RX5 ∈ tC ∧ Cond.instantiable RX5 6 ∈ tC ∧ Cond.initialized RX5 ∈ tC := ⟨List.mem_of_getElem? (i := 417) (by decide +kernel), List.mem_of_getElem? (i := 418) (by decide +kernel), List.mem_of_getElem? (i := 237) (by decide +kernel)⟩
theorem tCw_X12_223 : Cond.classLink RX12 223 RX2 ∈ tC ∧ Cond.instantiable RX2 5 ∈ tC ∧ Cond.initialized RX2 ∈ tC := ⟨List.mem_of_getElem? (i := 419) (by decide +kernel), List.mem_of_getElem? (i := 420) (by decide +kernel), List.mem_of_getElem? (i := 132) (by decide +kernel)⟩
theorem tCw_X12_228 : Cond.classLink RX12 228 RX1 ∈ tC ∧ Cond.instantiable RX1 5 ∈ tC ∧ Cond.initialized RX1 ∈ tC := ⟨List.mem_of_getElem? (i := 421) (by decide +kernel), List.mem_of_getElem? (i := 422) (by decide +kernel), List.mem_of_getElem? (i := 85) (by decide +kernel)⟩
theorem tCw_X12_231 : Cond.classLink RX12 231 RX3 ∈ tC ∧ Cond.instantiable RX3 4 ∈ tC ∧ Cond.initialized RX3 ∈ tC := ⟨List.mem_of_getElem? (i := 423) (by decide +kernel), List.mem_of_getElem? (i := 424) (by decide +kernel), List.mem_of_getElem? (i := 425) (by decide +kernel)⟩
theorem tCa_int : Cond.arrayClass (newarray.typeOf .int) ∈ tC := List.mem_of_getElem? (i := 224) (by decide +kernel)
theorem tCa_byte : Cond.arrayClass (newarray.typeOf .byte) ∈ tC := List.mem_of_getElem? (i := 293) (by decide +kernel)

/-! the law: its two worlds, its calls -/
/-- n0: the heap's size at the start; h1 .. h2: the reference's cells; h2: the answers' cell; all else from n0 on is the class's -/
def l0 (n0 : Nat) : Nat → Prop := fun q => n0 ≤ q
def lA (n0 h1 h2 : Nat) : Nat → Prop := fun q => (n0 ≤ q ∧ q < h1) ∨ h2 < q
def lMm (h1 h2 : Nat) : Nat → Prop := fun q => h1 ≤ q ∧ q < h2
theorem mV_k {D : va_G} {cs : ClassId × ClassId × ClassId} {o : Nat} {ad : Nat → Nat} {A : Nat → Prop} {S : mS} {H H1 : Heap} (V : mV D cs o ad A S H) (h : ∀ q, A q → q < H.size → H1[q]? = H[q]?) : mV D cs o ad A S H1 := ⟨V.1.kept (fun k q hk => h q.1 (V.2.2 k q hk) ((V.1 k q hk).lt)), V.2⟩
theorem cV_k {D : va_G} {L : List Nat} {f : Nat → va_E} {A : Nat → Prop} {H H1 : Heap} (V : cV D L f A H) (h : ∀ q, A q → q < H.size → H1[q]? = H[q]?) : cV D L f A H1 := ⟨V.1.kept (fun k q hk => h q.1 (V.2.2 k q hk) ((V.1 k q hk).lt)), V.2⟩
def lC (p : Program) (s : State) (m : MethodId) (c : Code) (b : Nat) (D : va_G) (ks : kS) (cs : ClassId × ClassId × ClassId) (κ : kC) : Prop := p.tables.exec = Jvm.exec ∧ c.code = cL_law ∧ s.vm.findClass RL = some m.cls ∧ c.maxLocals = 8 ∧ (∀ w ∈ lw_tbl, w.before #[Value.ref b] s = true) ∧ va_K D vwCl (cT ks) s ∧ va_K D vwCl (mT cs) s ∧ N0 κ (l0 s.heap.size) s ∧ ∀ x ∈ nNx, va_Nc x.1 x.2 s
/-- both worlds and the answers' cell -/
def lW (D : va_G) (ks : kS) (cs : ClassId × ClassId × ClassId) (n0 h1 h2 : Nat) (τ : Nat → Nat) (L : List Nat) (ψ : Int32) (f : Nat → va_E) (g : Nat → Int64) (om : Nat) (ad : Nat → Nat) (S : mS) (H : Heap) : Prop := cV D L f (lA n0 h1 h2) H ∧ cI ks τ L ψ f ∧ oP D cs.2.1 h2 g H ∧ mV D cs om ad (lMm h1 h2) S H
section LW
variable {p : Program} {l : Launch} {e : Env} {R : Room} {s : State} {m : MethodId} {below : List Frame} {meth : Method} {c : Code} {H : Heap} {locs : List Loc} {cells slots : Nat} {Q : State → Prop}
variable {pc : Nat} {ls : Array Slot} {rest : List Value} {D : va_G} {ks : kS} {cs : ClassId × ClassId × ClassId} {τ : Nat → Nat} {L : List Nat} {ψ : Int32} {f : Nat → va_E} {g : Nat → Int64} {b h1 h2 om : Nat} {ad : Nat → Nat} {S : mS} {κ : kC}
variable {y : MethodName} {cy : ByteArray} {n idx mc ms : Nat} {rm : Room} {As st0 : List Value}
theorem lNh (C : lC p s m c b D ks cs κ) (hn : s.heap.size ≤ h1 ∧ h1 ≤ h2) (hS : va_S (l0 s.heap.size) s.heap H locs) (hO : h2 < H.size) {U : State} (hU : U.heap = H) (hW : s.WarmedH U.vm) : nH κ (lA s.heap.size h1 h2) h2 U := by
  have h := N0_k s U hW (by rw [hU]; exact hS.1) (fun q x z => by rw [hU]; exact hS.2.1 q x z) C.2.2.2.2.2.2.2.1
  refine ⟨N0_nar h (fun q z => ?_) (fun q hq => ?_), by rw [hU]; exact hO, fun x hx => va_Nc.moved hW.alike (C.2.2.2.2.2.2.2.2 x hx)⟩
  · show s.heap.size ≤ q
    rcases z with (z | z) | z
    · exact z.1
    · omega
    · omega
  · rw [hU] at hq
    exact Or.inl (Or.inr (by omega))
theorem lA_0 (hn : s.heap.size ≤ h1 ∧ h1 ≤ h2) {q : Nat} (h : Ah (lA s.heap.size h1 h2) h2 q) : l0 s.heap.size q := by
  show s.heap.size ≤ q
  rcases h with (h | h) | h
  · exact h.1
  · omega
  · omega
theorem lM_0 (hn : s.heap.size ≤ h1 ∧ h1 ≤ h2) {q : Nat} (h : lMm h1 h2 q) : l0 s.heap.size q := Nat.le_trans hn.1 h.1
theorem lM_n (hn : s.heap.size ≤ h1 ∧ h1 ≤ h2) {q : Nat} (h : lMm h1 h2 q) : ¬ Ah (lA s.heap.size h1 h2) h2 q := by
  obtain ⟨a, z⟩ := h
  rintro ((h | h) | h) <;> omega
theorem lA_n (hn : s.heap.size ≤ h1 ∧ h1 ≤ h2) {q : Nat} (h : lA s.heap.size h1 h2 q) : ¬ lMm h1 h2 q := by
  rintro ⟨a, z⟩
  rcases h with h | h <;> omega
theorem lO_n : ¬ lA s.heap.size h1 h2 h2 ∨ ¬ (h1 ≤ h2) := by
  by_cases h : h1 ≤ h2
  · left; rintro (z | z) <;> omega
  · exact Or.inr h
theorem lHelp {hh : List (Nat × Nat × Nat × Nat)} {post : Int32 → hXx → Prop} (C : lC p s m c b D ks cs κ) (hn : s.heap.size ≤ h1 ∧ h1 ≤ h2) (X : lW D ks cs s.heap.size h1 h2 τ L ψ f g om ad S H) (hS : va_S (l0 s.heap.size) s.heap H locs)
    (hM : Met l y (Cond.codeWith y cy n (some .int) hh :: tL) rm (va_Pc As (hB D ks τ L (lA s.heap.size h1 h2) κ cs.2.1 h2 (ψ, f, g))) (va_Qi post (hB D ks τ L (lA s.heap.size h1 h2) κ cs.2.1 h2) (Ah (lA s.heap.size h1 h2) h2)) mc ms (Ah (lA s.heap.size h1 h2) h2)) (hw : GoodIn lw_tbl (va_wsS RL idx y (Cond.codeWith y cy n (some .int) hh :: tL))) (hk : cOkY y RL As.length)
    (hR : rm.cells = mc ∧ rm.slots = ms ∧ rm.frames + 1 ≤ R.frames ∧ 8 + (n + 11) + rm.locals ≤ R.locals) (hsz : ls.size = 8) (hst : st0 = As.reverse ++ rest) (hro : (rest.map fun v => v.category).sum ≤ 8) (hdg : decode cL_law pc = .ok (.invokestatic idx, 3)) (hcs : cells + mc ≤ R.cells ∧ slots + ms ≤ R.slots)
    (kk : ∀ (r ψ1 : Int32) (f1 : Nat → va_E) (g1 : Nat → Int64) (H1 : Heap) (locs1 : List Loc), post r (ψ1, f1, g1) → lW D ks cs s.heap.size h1 h2 τ L ψ1 f1 g1 om ad S H1 → va_S (l0 s.heap.size) s.heap H1 locs1 → W p l e R s m #[Value.ref b] below meth c H1 locs1 (cells + mc) (slots + ms) Q (F0 m (pc + 3) ls (.int r :: rest))) : W p l e R s m #[Value.ref b] below meth c H locs cells slots Q (F0 m pc ls st0) := by
  obtain ⟨hx, hb, hown, hml, hts, hK, hKm, -⟩ := id C
  obtain ⟨V, I, hO, M⟩ := X
  refine va_calli (vx_runSW (As := As) (rest := rest) ⟨hx, hb, hml, hown, hts⟩ hM (vx_cwSW As.length hts hw rfl hR.1 hR.2.1 hk.2 hR.2.2) ⟨hblind, fun U hU hW => ⟨rfl, ⟨by rw [hU]; exact V, I, va_K.moved hW.alike hK, lNh C hn hS (oP_lt hO) hU hW⟩, by rw [hU]; exact hO, va_K.moved hW.alike (hKm.sub [1] rfl)⟩⟩ rfl rfl hsz hst (lv_room hro) hdg hcs) hS (fun q _ z => lA_0 hn z) (fun q z => lA_0 hn z) (fun r u t H1 locs1 ht al hp hB hz hk9 hS1 => ?_)
  exact kk r u.1 u.2.1 u.2.2 H1 locs1 hp ⟨by rw [← ht]; exact hB.1.1, hB.1.2.1, by rw [← ht]; exact hB.2.1, mV_k M (fun q z hq => hk9 q hq (lM_n hn z))⟩ hS1
theorem lHelpN {hh : List (Nat × Nat × Nat × Nat)} {post : Int32 → nX × (Nat → Int64) → Prop} (C : lC p s m c b D ks cs κ) (hn : s.heap.size ≤ h1 ∧ h1 ≤ h2) (X : lW D ks cs s.heap.size h1 h2 τ L ψ f g om ad S H) (hS : va_S (l0 s.heap.size) s.heap H locs)
    (hM : Met l y (Cond.codeWith y cy n (some .int) hh :: tL) rm (va_Pc As (hB D ks τ L (lA s.heap.size h1 h2) κ cs.2.1 h2 (ψ, f, g))) (va_Qi post (fun (x : nX × (Nat → Int64)) U => hB D ks x.1.2.1 x.1.2.2 (lA s.heap.size h1 h2) κ cs.2.1 h2 (ψ, x.1.1, x.2) U) (Ah (lA s.heap.size h1 h2) h2)) mc ms (Ah (lA s.heap.size h1 h2) h2)) (hw : GoodIn lw_tbl (va_wsS RL idx y (Cond.codeWith y cy n (some .int) hh :: tL))) (hk : cOkY y RL As.length)
    (hR : rm.cells = mc ∧ rm.slots = ms ∧ rm.frames + 1 ≤ R.frames ∧ 8 + (n + 11) + rm.locals ≤ R.locals) (hsz : ls.size = 8) (hst : st0 = As.reverse ++ rest) (hro : (rest.map fun v => v.category).sum ≤ 8) (hdg : decode cL_law pc = .ok (.invokestatic idx, 3)) (hcs : cells + mc ≤ R.cells ∧ slots + ms ≤ R.slots)
    (kk : ∀ (r : Int32) (f1 : Nat → va_E) (τ1 : Nat → Nat) (L1 : List Nat) (g1 : Nat → Int64) (H1 : Heap) (locs1 : List Loc), post r ((f1, τ1, L1), g1) → lW D ks cs s.heap.size h1 h2 τ1 L1 ψ f1 g1 om ad S H1 → va_S (l0 s.heap.size) s.heap H1 locs1 → W p l e R s m #[Value.ref b] below meth c H1 locs1 (cells + mc) (slots + ms) Q (F0 m (pc + 3) ls (.int r :: rest))) : W p l e R s m #[Value.ref b] below meth c H locs cells slots Q (F0 m pc ls st0) := by
  obtain ⟨hx, hb, hown, hml, hts, hK, hKm, -⟩ := id C
  obtain ⟨V, I, hO, M⟩ := X
  refine va_calli (vx_runSW (As := As) (rest := rest) ⟨hx, hb, hml, hown, hts⟩ hM (vx_cwSW As.length hts hw rfl hR.1 hR.2.1 hk.2 hR.2.2) ⟨hblind, fun U hU hW => ⟨rfl, ⟨by rw [hU]; exact V, I, va_K.moved hW.alike hK, lNh C hn hS (oP_lt hO) hU hW⟩, by rw [hU]; exact hO, va_K.moved hW.alike (hKm.sub [1] rfl)⟩⟩ rfl rfl hsz hst (lv_room hro) hdg hcs) hS (fun q _ z => lA_0 hn z) (fun q z => lA_0 hn z) (fun r u t H1 locs1 ht al hp hB hz hk9 hS1 => ?_)
  exact kk r u.1.1 u.1.2.1 u.1.2.2 u.2 H1 locs1 hp ⟨by rw [← ht]; exact hB.1.1, hB.1.2.1, by rw [← ht]; exact hB.2.1, mV_k M (fun q z hq => hk9 q hq (lM_n hn z))⟩ hS1
/-- what the reference's calls keep -/
theorem lKeep (hn : s.heap.size ≤ h1 ∧ h1 ≤ h2) (X : lW D ks cs s.heap.size h1 h2 τ L ψ f g om ad S H) {S1 : mS} {H1 : Heap} (hk : ∀ q : Nat, q < H.size → ¬ lMm h1 h2 q → H1[q]? = H[q]?) (M1 : mV D cs om ad (lMm h1 h2) S1 H1) : lW D ks cs s.heap.size h1 h2 τ L ψ f g om ad S1 H1 :=
  ⟨cV_k X.1 (fun q z hq => hk q hq (lA_n hn z)), X.2.1, oP_k X.2.2.1 (hk h2 (oP_lt X.2.2.1) (fun z => Nat.lt_irrefl _ z.2)), M1⟩
theorem lModI {ret : Option FieldType} {post : Int32 → mS → Prop} (C : lC p s m c b D ks cs κ) (hn : s.heap.size ≤ h1 ∧ h1 ≤ h2) (X : lW D ks cs s.heap.size h1 h2 τ L ψ f g om ad S H) (hS : va_S (l0 s.heap.size) s.heap H locs)
    (hM : Met l y (Cond.code y cy n ret :: tM) rm (va_Pc (.ref om :: As) (mB D cs om ad (lMm h1 h2) S)) (va_Qi post (mB D cs om ad (lMm h1 h2)) (lMm h1 h2)) 0 0 (lMm h1 h2)) (hw : GoodIn lw_tbl (wsV RL idx RX13 y (Cond.code y cy n ret :: tM))) (hk : cOkY y RX13 As.length)
    (hR : rm.cells = 0 ∧ rm.slots = 0 ∧ rm.frames + 1 ≤ R.frames ∧ 8 + (n + 11) + rm.locals ≤ R.locals) (hsz : ls.size = 8) (hst : st0 = As.reverse ++ .ref om :: rest) (hro : (rest.map fun v => v.category).sum ≤ 8) (hdg : decode cL_law pc = .ok (.invokevirtual idx, 3)) (hcs : cells ≤ R.cells ∧ slots ≤ R.slots)
    (kk : ∀ (r : Int32) (S1 : mS) (H1 : Heap) (locs1 : List Loc), post r S1 → lW D ks cs s.heap.size h1 h2 τ L ψ f g om ad S1 H1 → va_S (l0 s.heap.size) s.heap H1 locs1 → W p l e R s m #[Value.ref b] below meth c H1 locs1 cells slots Q (F0 m (pc + 3) ls (.int r :: rest))) : W p l e R s m #[Value.ref b] below meth c H locs cells slots Q (F0 m pc ls st0) := by
  obtain ⟨hx, hb, hown, hml, hts, hK, hKm, -⟩ := id C
  refine va_calli (va_runV (As := As) (rest := rest) ⟨hx, hb, hml, hown, hts⟩ hM (cwV As.length hts hw rfl hR.1 hR.2.1 hk hR.2.2) ⟨mblind, va_recv hKm X.2.2.2.1 (ci := 10) (q0 := 0) rfl rfl, fun U hU hW => ⟨rfl, by rw [hU]; exact X.2.2.2, va_K.moved hW.alike hKm⟩⟩ rfl rfl hsz hst (lv_room hro) hdg hcs) hS (fun q _ z => lM_0 hn z) (fun q z => lM_0 hn z) (fun r u t H1 locs1 ht al hp hB hz hk9 hS1 => ?_)
  exact kk r u H1 locs1 hp (lKeep hn X hk9 (by rw [← ht]; exact hB.1)) hS1
theorem lModL {ret : Option FieldType} {post : Int64 → mS → Prop} (C : lC p s m c b D ks cs κ) (hn : s.heap.size ≤ h1 ∧ h1 ≤ h2) (X : lW D ks cs s.heap.size h1 h2 τ L ψ f g om ad S H) (hS : va_S (l0 s.heap.size) s.heap H locs)
    (hM : Met l y (Cond.code y cy n ret :: tM) rm (va_Pc (.ref om :: As) (mB D cs om ad (lMm h1 h2) S)) (va_Ql post (mB D cs om ad (lMm h1 h2)) (lMm h1 h2)) 0 0 (lMm h1 h2)) (hw : GoodIn lw_tbl (wsV RL idx RX13 y (Cond.code y cy n ret :: tM))) (hk : cOkY y RX13 As.length)
    (hR : rm.cells = 0 ∧ rm.slots = 0 ∧ rm.frames + 1 ≤ R.frames ∧ 8 + (n + 11) + rm.locals ≤ R.locals) (hsz : ls.size = 8) (hst : st0 = As.reverse ++ .ref om :: rest) (hro : (rest.map fun v => v.category).sum ≤ 8) (hdg : decode cL_law pc = .ok (.invokevirtual idx, 3)) (hcs : cells ≤ R.cells ∧ slots ≤ R.slots)
    (kk : ∀ (r : Int64) (S1 : mS) (H1 : Heap) (locs1 : List Loc), post r S1 → lW D ks cs s.heap.size h1 h2 τ L ψ f g om ad S1 H1 → va_S (l0 s.heap.size) s.heap H1 locs1 → W p l e R s m #[Value.ref b] below meth c H1 locs1 cells slots Q (F0 m (pc + 3) ls (.long r :: rest))) : W p l e R s m #[Value.ref b] below meth c H locs cells slots Q (F0 m pc ls st0) := by
  obtain ⟨hx, hb, hown, hml, hts, hK, hKm, -⟩ := id C
  refine va_calll (va_runV (As := As) (rest := rest) ⟨hx, hb, hml, hown, hts⟩ hM (cwV As.length hts hw rfl hR.1 hR.2.1 hk hR.2.2) ⟨mblind, va_recv hKm X.2.2.2.1 (ci := 10) (q0 := 0) rfl rfl, fun U hU hW => ⟨rfl, by rw [hU]; exact X.2.2.2, va_K.moved hW.alike hKm⟩⟩ rfl rfl hsz hst (lv_room hro) hdg hcs) hS (fun q _ z => lM_0 hn z) (fun q z => lM_0 hn z) (fun r u t H1 locs1 ht al hp hB hz hk9 hS1 => ?_)
  exact kk r u H1 locs1 hp (lKeep hn X hk9 (by rw [← ht]; exact hB.1)) hS1
/-- dead, called at once -/
theorem lDead {a : Nat} (C : lC p s m c b D ks cs κ) (hn : s.heap.size ≤ h1 ∧ h1 ≤ h2) (X : lW D ks cs s.heap.size h1 h2 τ L ψ f g om ad S H) (hS : va_S (l0 s.heap.size) s.heap H locs) (ha : ty τ L a 9)
    (hR : ({ frames := 1, cells := 0, slots := 0, locals := 24 } : Room).frames + 1 ≤ R.frames ∧ 8 + (4 + 11) + 24 ≤ R.locals) (hsz : ls.size = 8) (hst : st0 = [.ref a]) (hdg : decode cL_law pc = .ok (.invokevirtual 103, 3)) (hcs : cells ≤ R.cells ∧ slots ≤ R.slots)
    (kk : ∀ (r ψ1 : Int32) (f1 : Nat → va_E) (H1 : Heap) (locs1 : List Loc), (r, view f1) = FC_X12_dead (view f) a → lW D ks cs s.heap.size h1 h2 τ L ψ1 f1 g om ad S H1 → va_S (l0 s.heap.size) s.heap H1 locs1 → W p l e R s m #[Value.ref b] below meth c H1 locs1 cells slots Q (F0 m (pc + 3) ls [.int r])) : W p l e R s m #[Value.ref b] below meth c H locs cells slots Q (F0 m pc ls st0) := by
  obtain ⟨hx, hb, hown, hml, hts, hK, hKm, -⟩ := id C
  obtain ⟨V, I, hO, M⟩ := X
  obtain ⟨tp, sy, st9, ck, sp9, la, hf, -⟩ := op9 I ha
  obtain ⟨q0, hq⟩ := va_pl0 (f := f) ha.1
  rw [hf] at hq
  refine va_calli (va_runV (As := []) (rest := []) ⟨hx, hb, hml, hown, hts⟩ (c_X12_dead l D ks τ L (lA s.heap.size h1 h2) (nH κ (lA s.heap.size h1 h2) h2) nH_kA κ nH_0 ψ f a ha) (cwV 0 hts lG_103 rfl rfl rfl lK_103 hR) ⟨cblind nH_kA, va_recv hK V.1 (q := (RX12, TX12, 6)) rfl hq, fun U hU hW => ⟨rfl, by rw [hU]; exact V, I, va_K.moved hW.alike hK, lNh C hn hS (oP_lt hO) hU hW⟩⟩ rfl rfl hsz hst (lv_room (Nat.zero_le _)) hdg hcs) hS (fun q _ z => lA_0 hn (Or.inl z)) (fun q z => lA_0 hn (Or.inl z)) (fun r u t H1 locs1 ht al hp hB hz hk9 hS1 => ?_)
  have hno : ¬ lA s.heap.size h1 h2 h2 := by rintro (z | z) <;> omega
  exact kk r u.1 u.2 H1 locs1 hp.2 ⟨by rw [← ht]; exact hB.1, hB.2.1, oP_k hO (hk9 h2 (oP_lt hO) hno), mV_k M (fun q z hq => hk9 q hq (fun z9 => lM_n hn z (Or.inl z9)))⟩ hS1
end LW
theorem nI_plus (a k : Nat) : nI a + nI k = nI (a + k) := by
  unfold nI; rw [Int32.ofNat_add]
theorem s_inl {j Ls : Nat} (k : Nat) (hk : k < 6) (h : 6 * j + 6 ≤ Ls) (hL : Ls ≤ 3072) : vp_in (nI (6 * j) + nI k) Ls := by
  rw [nI_plus]; exact nI_in (by omega) (by omega)

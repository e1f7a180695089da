/-! the reference: its constructor (laid by wip/gen_minit.py) -/
theorem tMo : Cond.methodLink RX13 1 Lib.objectInit ∈ tM := List.mem_of_getElem? (i := 0) (by decide +kernel)
theorem tMoi : Cond.instanceMethod Lib.objectInit ∈ tM := List.mem_of_getElem? (i := 1) (by decide +kernel)
theorem tMoc : Cond.code Lib.objectInit ⟨#[0xb1]⟩ 1 none ∈ tM := List.mem_of_getElem? (i := 2) (by decide +kernel)
theorem tMai : Cond.arrayClass (newarray.typeOf .int) ∈ tM := List.mem_of_getElem? (i := 3) (by decide +kernel)
theorem tMal : Cond.arrayClass (newarray.typeOf .long) ∈ tM := List.mem_of_getElem? (i := 6) (by decide +kernel)
theorem tMab : Cond.arrayClass (newarray.typeOf .boolean) ∈ tM := List.mem_of_getElem? (i := 52) (by decide +kernel)
section MI
variable {p : Program} {l : Launch} {e : Env} {R : Room} {s : State} {m : MethodId} {args : Array Value} {below : List Frame} {meth : Method} {c : Code} {H : Heap} {locs : List Loc} {cells slots : Nat} {Q : State → Prop}
variable {cc : ByteArray} {pc : Nat} {ls : Array Slot} {rest : List Value} {D : va_G} {cs : ClassId × ClassId × ClassId} {A : Nat → Prop} {o q : Nat} {F : List Value} {Arr : va_W}
abbrev miV (D : va_G) (A : Nat → Prop) (ws : va_W) (H : Heap) : Prop := va_P D vwCl ws H ∧ va_D A ws
/-- a new array, at the end of the world -/
theorem miA {atype : ArrayType} {ty9 : FieldType} {v : Int32} {K t0 : Nat} {cA0 : ClassId} {a0 : vp_A} {ws : va_W} (C : mC p s m args c cc D cs) (V : miV D A ws H) (hS : va_S A s.heap H locs) (hA : ∀ q, s.heap.size ≤ q → A q) (hw : Cond.arrayClass (newarray.typeOf atype) ∈ tM) (hty : newarray.typeOf atype = ty9) (ht : (mT cs)[t0]? = some (cA0, ty9)) (hra : ∀ (U : State) (cA : ClassId), va_RA U cA ty9 → U.vm.findClass ("[" ++ ty9.toString) = some cA)
    (ha : ∀ cA : ClassId, vp_cell cA a0 = arrV cA K (fun _ => defaultValue ty9)) (hn : ¬ v < 0) (hK9 : v.toNatClampNeg = K) (hbytes : K * componentBytes ty9 ≤ 536870912) (hcs : cells + 1 ≤ R.cells ∧ slots + K ≤ R.slots) (hdg : decode cc pc = .ok (.newarray atype, 2))
    (kk : ∀ (q : Nat) (H1 : Heap), miV D A (ws ++ [(q, .inl (cA0, a0))]) H1 → va_S A s.heap H1 locs → W p l e R s m args below meth c H1 locs (cells + 1) (slots + K) Q (F0 m (pc + 2) ls (.ref q :: rest))) : W p l e R s m args below meth c H locs cells slots Q (F0 m pc ls (.int v :: rest)) := by
  obtain ⟨hx, hb, hown, hts, hK⟩ := C
  refine va_newa hx hb (hts _ hw) hty hK V.1 V.2 hS hA ha hn hK9 hbytes hcs.1 hcs.2 hdg (fun q cA H1 hK1 hP hD hS1 => ?_)
  have e1 := hra s cA0 (hK.2 t0 _ ht).2
  have e2 := hra s cA (hK1.2 3 (cA, ty9) rfl).2
  have ec : cA = cA0 := Option.some.inj (e2.symm.trans e1)
  subst ec
  exact kk q H1 ⟨hP, hD⟩ hS1
/-- it goes into its final field -/
theorem miF {v : Value} {ty : FieldType} {index : Nat} (C : mC p s m args c cc D cs) (V : miV D A ((o, .inr (10, F)) :: Arr) H) (hS : va_S A s.heap H locs) (k : Nat) (hk : k < 38) (hl : Cond.fieldLink RX13 index "TurnKeeperModel" (TX13 k).2.1 (TX13 k).2.2.1 ∈ tM) (hsame : (TX13 k).1 = "TurnKeeperModel") (hfin : (TX13 k).2.2.2 = true) (hin2 : meth.name = "<init>") (hd : parseFieldDescriptor (TX13 k).2.2.1 = some ty) (hn : narrow ty v = v) (hfit : fits ty v = true) (hlen : F.length = 38) (hdg : decode cc pc = .ok (.putfield index, 3))
    (kk : ∀ (H1 : Heap) (locs1 : List Loc), miV D A ((o, .inr (10, F.set k v)) :: Arr) H1 → va_S A s.heap H1 locs1 → W p l e R s m args below meth c H1 locs1 cells slots Q (F0 m (pc + 3) ls rest)) : W p l e R s m args below meth c H locs cells slots Q (F0 m pc ls (v :: .ref o :: rest)) := by
  obtain ⟨hx, hb, hown, hts, hK⟩ := C
  exact va_putF hx hb hts tM_lay tyX13 tyX13_ok nmX13 hown hK V.1 V.2 hS 0 rfl rfl k hk (hts _ hl) (fun x h => by rw [← hsame]; exact h) hfin hin2 hsame hd hn hfit (by rw [hlen]; exact hk) hdg (fun H1 locs1 hP hD hS1 => kk H1 locs1 ⟨hP, hD⟩ hS1)
theorem miP {v : Value} {ty : FieldType} {index : Nat} (C : mC p s m args c cc D cs) (V : miV D A ((o, .inr (10, F)) :: Arr) H) (hS : va_S A s.heap H locs) (k : Nat) (hk : k < 38) (hl : Cond.fieldLink RX13 index "TurnKeeperModel" (TX13 k).2.1 (TX13 k).2.2.1 ∈ tM) (hsame : (TX13 k).1 = "TurnKeeperModel") (hfin : (TX13 k).2.2.2 = false) (hd : parseFieldDescriptor (TX13 k).2.2.1 = some ty) (hn : narrow ty v = v) (hfit : fits ty v = true) (hlen : F.length = 38) (hdg : decode cc pc = .ok (.putfield index, 3))
    (kk : ∀ (H1 : Heap) (locs1 : List Loc), miV D A ((o, .inr (10, F.set k v)) :: Arr) H1 → va_S A s.heap H1 locs1 → W p l e R s m args below meth c H1 locs1 cells slots Q (F0 m (pc + 3) ls rest)) : W p l e R s m args below meth c H locs cells slots Q (F0 m pc ls (v :: .ref o :: rest)) := by
  obtain ⟨hx, hb, hown, hts, hK⟩ := C
  exact va_put hx hb hts tM_lay tyX13 tyX13_ok nmX13 hown hK V.1 V.2 hS 0 rfl rfl k hk (hts _ hl) (fun x h => by rw [← hsame]; exact h) hfin hd hn hfit (by rw [hlen]; exact hk) hdg (fun H1 locs1 hP hD hS1 => kk H1 locs1 ⟨hP, hD⟩ hS1)
/-- a word goes into the array of words -/
theorem miL {x0 x1 : Nat × va_E} {g : Nat → Int64} {i : Int32} {x : Int64} (C : mC p s m args c cc D cs) (V : miV D A [x0, x1, (q, .inl (cs.2.1, 34, .inr (.inl g)))] H) (hS : va_S A s.heap H locs) (h0 : 0 ≤ i) (h1 : i < 34) (hdg : decode cc pc = .ok (.lastore, 1))
    (kk : ∀ (g1 : Nat → Int64) (H1 : Heap) (locs1 : List Loc), (∀ j, g1 j = if j = i.toNatClampNeg then x else g j) → miV D A [x0, x1, (q, .inl (cs.2.1, 34, .inr (.inl g1)))] H1 → va_S A s.heap H1 locs1 → W p l e R s m args below meth c H1 locs1 cells slots Q (F0 m (pc + 1) ls rest)) : W p l e R s m args below meth c H locs cells slots Q (F0 m pc ls (.long x :: .int i :: .ref q :: rest)) := by
  obtain ⟨hx, hb, hown, hts, hK⟩ := C
  exact va_last hx hb hK V.1 V.2 hS 2 1 rfl rfl (vin (N := 34) rfl h0 h1) hdg (fun H1 locs1 hP hD hS1 => kk _ H1 locs1 (fun _ => rfl) ⟨hP, hD⟩ hS1)
theorem wg_s {g g1 : Nat → Int64} {n : Nat} {i : Int32} {x : Int64} (h : ∀ j, j < n → g j = wds.getD j 0) (e : ∀ j, g1 j = if j = i.toNatClampNeg then x else g j) (hi : i.toNatClampNeg = n) (hx : x = wds.getD n 0) : ∀ j, j < n + 1 → g1 j = wds.getD j 0 := fun j hj => by
  rw [e j, hi]
  by_cases c : j = n
  · rw [if_pos c, hx, c]
  · rw [if_neg c]; exact h j (by omega)
theorem arrV_eq {cI : ClassId} {K : Nat} {f g : Nat → Value} (h : ∀ j, j < K → f j = g j) : arrV cI K f = arrV cI K g := by
  unfold arrV
  congr 1
  exact Array.ext (by simp) (fun i h1 h2 => by simpa using h i (by simpa using h1))
end MI
/-- the reference's first state, but for its words -/
def mS0 (g : Nat → Int64) : mS := (fun k => if k = 3 then -1 else if k = 26 then 7 else 0, fun _ => 0, fun _ _ => 0, fun k i => if k = 4 then g i.toNatClampNeg else 0)
theorem mS0_inv (g : Nat → Int64) : mInv (mS0 g) := by
  have hA : ∀ k i, gA (mS0 g) k i = 0 := fun _ _ => rfl
  refine ⟨⟨show (0 : Int32) ≤ 0 by decide, show (0 : Int32) ≤ 1600 by decide, show (0 : Int32) ≤ 7 by decide, show (7 : Int32) < 8 by decide⟩, ?_, ?_, ?_, ?_, ?_, ?_, ?_⟩
  · intro t _ _
    simp only [hA]
    refine ⟨fun h => absurd h (by decide), fun h => absurd h (by decide), ?_⟩
    exact fun h => absurd rfl h
  · intro t k _ _ h0 _ h2
    simp only [hA] at h2
    exact absurd (Int32.lt_of_le_of_lt h0 h2) (by decide)
  · intro b _ _
    simp only [hA]
    exact ⟨by decide, by decide, by decide, fun h => absurd h (by decide)⟩
  · intro b i _ _ h0 h1
    simp only [hA] at h1
    exact absurd (Int32.lt_of_le_of_lt h0 h1) (by decide)
  · intro b i d j _ _ h0 h1
    simp only [hA] at h1
    exact absurd (Int32.lt_of_le_of_lt h0 h1) (by decide)
  · intro b i _ _ h0 h1
    simp only [hA] at h1
    exact absurd (Int32.lt_of_le_of_lt h0 h1) (by decide)
  · intro b _ _
    unfold rdis
    intro i j h0 h1 h2
    simp only [hA] at h2
    exact absurd (Int32.lt_of_le_of_lt h0 (Int32.lt_trans h1 h2)) (by decide)
def miAd (q1 q4 q5 q11 q12 q13 q14 q15 q16 q17 q18 q19 q20 q21 q22 q23 q28 q29 q30 q31 q32 q33 q34 q35 q36 q37 : Nat) : Nat → Nat := fun k => if k = 1 then q1 else if k = 4 then q4 else if k = 5 then q5 else if k = 11 then q11 else if k = 12 then q12 else if k = 13 then q13 else if k = 14 then q14 else if k = 15 then q15 else if k = 16 then q16 else if k = 17 then q17 else if k = 18 then q18 else if k = 19 then q19 else if k = 20 then q20 else if k = 21 then q21 else if k = 22 then q22 else if k = 23 then q23 else if k = 28 then q28 else if k = 29 then q29 else if k = 30 then q30 else if k = 31 then q31 else if k = 32 then q32 else if k = 33 then q33 else if k = 34 then q34 else if k = 35 then q35 else if k = 36 then q36 else if k = 37 then q37 else 0
abbrev miF0 : List Value := [.int 0, .null, .int 0, .int 0, .null, .null, .int 0, .int 0, .int 0, .int 0, .int 0, .null, .null, .null, .null, .null, .null, .null, .null, .null, .null, .null, .null, .null, .long 0, .long 0, .int 0, .int 0, .null, .null, .null, .null, .null, .null, .null, .null, .null, .null]
theorem mMetN {l : Launch} {D : va_G} {cs : ClassId × ClassId × ClassId} {A : Nat → Prop} {y : MethodName} {cy : ByteArray} {n mc ms : Nat} {rm : Room} {av : List Value} {Qc : Array Value → State → Outcome → State → Prop} {ret : Option FieldType} {ws0 : va_W} (hy : plainName y.cls = true) (hown : y.cls = RX13) (hn : (lg_sl av).length ≤ n)
    (body : ∀ (p : Program) (e : Env) (s : State) (m : MethodId) (below : List Frame) (meth : Method) (c : Code) (ls : Array Slot), mC p s m av.toArray c cy D cs → c.maxLocals = n → meth.sig.returnType = ret → meth.locks = false → meth.name = y.name → miV D A ws0 s.heap → (∀ q, s.heap.size ≤ q → A q) → lv_has ls n (lv_args 0 av) →
      W p l e rm s m av.toArray below meth c s.heap [] 0 0 (MQ below Qc av.toArray s mc ms A) (F0 m 0 ls [])) :
    Met l y (Cond.code y cy n ret :: tM) rm (va_Pc av (fun U => miV D A ws0 U.heap ∧ va_K D vwCl (mT cs) U ∧ ∀ q, U.heap.size ≤ q → A q)) Qc mc ms A := by
  refine Met.ofW (cc := cy) (maxL := n) (ret := ret) hy rfl ?_
  intro p e s m args below meth c s₁ B hml hv
  obtain ⟨rfl, hV, hK, hA⟩ := hv
  have hts := atoms_spec (ws := Cond.code y cy n ret :: tM) B.pre
  have hf : s.vm.findClass y.cls = some m.cls := findClass_of_methodNamed B.named
  have hl := lv_entry av (n := n) hn
  rw [lg_entry_eq]
  exact body p e s m below meth c _ ⟨B.exec, B.bytes, hown ▸ hf, fun w h => hts w (List.mem_cons_of_mem _ h), hK⟩ hml B.returns B.notSynchronized (name_of_methodNamed B.named B.method).1 hV hA hl
set_option maxHeartbeats 1000000 in
set_option maxRecDepth 100000 in
theorem c_init (l : Launch) (D : va_G) (cs : ClassId × ClassId × ClassId) (o : Nat) (A : Nat → Prop) : Met l yX13_init (Cond.code yX13_init cX13_init 1 none :: tM) ({ frames := 1, cells := 26, slots := 6842, locals := 20 }) (va_Pc [.ref o] (fun U => miV D A [(o, .inr (10, miF0))] U.heap ∧ va_K D vwCl (mT cs) U ∧ ∀ q, U.heap.size ≤ q → A q)) (va_Qv (fun _ => True) (fun (x : (Nat → Nat) × mS) U => mB D cs o x.1 A x.2 U ∧ mInv x.2 ∧ gI x.2 2 = 0 ∧ ∃ g, x.2 = mS0 g ∧ ∀ j, j < 34 → g j = wds.getD j 0) A) 26 6842 A := by
  refine mMetN (by decide) rfl (Nat.le_of_ble_eq_true rfl) ?_
  intro p e s m below meth c ls C hml hr hlk hmn V hA hl
  have hx := C.1
  have hb := C.2.1
  have hown := C.2.2.1
  have hts := C.2.2.2.1
  have hS : va_S A s.heap s.heap [] := va_S.rf
  have hl : lv_has ls 1 [(0, .ref o)] := hl
  refine lv_aload_n hx hb dX13_init_0 rfl (lv_at hl 0 rfl) ?_
  refine W.objInit hx hb hown (hts _ tMo) (hts _ tMoi) (hts _ tMoc) (g := F0 m 1 ls [.ref o]) rfl (hl.1.trans hml.symm) (rest := []) rfl dX13_init_1 (Nat.le_of_ble_eq_true rfl) (by have := lv_room (m := m) (pc := 1) (ls := ls) (rest := [.ref o]) (st := []) (Nat.zero_le _); show _ ≤ 20; omega) ?_
  refine W.eq (g2 := F0 m 4 ls []) rfl ?_
  refine lv_aload_n hx hb dX13_init_4 rfl (lv_at hl 0 rfl) ?_
  refine lv_sipush (v := 1600) hx hb dX13_init_5 (by decide) ?_
  refine miA (K := 1600) (t0 := 0) (a0 := (1600, .inl (fun _ => 0))) C V hS hA tMai rfl rfl (fun _ _ h => h) (fun _ => rfl) (by decide) (by decide) (by decide) ⟨Nat.le_of_ble_eq_true rfl, Nat.le_of_ble_eq_true rfl⟩ dX13_init_8 (fun q1 H V hS => ?_)
  have V : miV D A ([(o, .inr (10, [.int 0, .null, .int 0, .int 0, .null, .null, .int 0, .int 0, .int 0, .int 0, .int 0, .null, .null, .null, .null, .null, .null, .null, .null, .null, .null, .null, .null, .null, .long 0, .long 0, .int 0, .int 0, .null, .null, .null, .null, .null, .null, .null, .null, .null, .null])), (q1, .inl (cs.1, 1600, .inl (fun _ => 0)))] : va_W) H := V
  refine miF (v := .ref q1) (ty := .array .int) C V hS 1 (by decide) tMf1 rfl rfl hmn (by decide +kernel) rfl rfl rfl dX13_init_10 (fun H locs V hS => ?_)
  have V : miV D A ([(o, .inr (10, [.int 0, .ref q1, .int 0, .int 0, .null, .null, .int 0, .int 0, .int 0, .int 0, .int 0, .null, .null, .null, .null, .null, .null, .null, .null, .null, .null, .null, .null, .null, .long 0, .long 0, .int 0, .int 0, .null, .null, .null, .null, .null, .null, .null, .null, .null, .null])), (q1, .inl (cs.1, 1600, .inl (fun _ => 0)))] : va_W) H := V
  refine lv_aload_n hx hb dX13_init_13 rfl (lv_at hl 0 rfl) ?_
  refine lv_iconst (v := (-1)) hx hb dX13_init_14 (by decide) ?_
  refine miP (v := .int (-1)) (ty := .int) C V hS 3 (by decide) tMf3 rfl rfl (by decide +kernel) rfl rfl rfl dX13_init_15 (fun H locs V hS => ?_)
  have V : miV D A ([(o, .inr (10, [.int 0, .ref q1, .int 0, .int (-1), .null, .null, .int 0, .int 0, .int 0, .int 0, .int 0, .null, .null, .null, .null, .null, .null, .null, .null, .null, .null, .null, .null, .null, .long 0, .long 0, .int 0, .int 0, .null, .null, .null, .null, .null, .null, .null, .null, .null, .null])), (q1, .inl (cs.1, 1600, .inl (fun _ => 0)))] : va_W) H := V
  refine lv_aload_n hx hb dX13_init_18 rfl (lv_at hl 0 rfl) ?_
  refine lv_bipush (v := 34) hx hb dX13_init_19 (by decide) ?_
  refine miA (K := 34) (t0 := 1) (a0 := (34, .inr (.inl (fun _ => 0)))) C V hS hA tMal rfl rfl (fun _ _ h => h) (fun _ => rfl) (by decide) (by decide) (by decide) ⟨Nat.le_of_ble_eq_true rfl, Nat.le_of_ble_eq_true rfl⟩ dX13_init_21 (fun q4 H V hS => ?_)
  have V : miV D A ([(o, .inr (10, [.int 0, .ref q1, .int 0, .int (-1), .null, .null, .int 0, .int 0, .int 0, .int 0, .int 0, .null, .null, .null, .null, .null, .null, .null, .null, .null, .null, .null, .null, .null, .long 0, .long 0, .int 0, .int 0, .null, .null, .null, .null, .null, .null, .null, .null, .null, .null])), (q1, .inl (cs.1, 1600, .inl (fun _ => 0))), (q4, .inl (cs.2.1, 34, .inr (.inl (fun _ => 0))))] : va_W) H := V
  refine lv_dup hx hb dX13_init_23 rfl ?_
  refine lv_iconst (v := 0) hx hb dX13_init_24 (by decide) ?_
  refine lv_ldc2 hx hb hown (hts _ tMc17) dX13_init_25 ?_
  have hg : ∀ j, j < 0 → (fun _ => 0 : Nat → Int64) j = wds.getD j 0 := fun j hj => absurd hj (Nat.not_lt_zero _)
  refine miL C V hS (by decide) (by decide) dX13_init_28 (fun g4 H locs eg V hS => ?_)
  replace hg := wg_s (n := 0) hg eg (by decide) (by decide)
  refine lv_dup hx hb dX13_init_29 rfl ?_
  refine lv_iconst (v := 1) hx hb dX13_init_30 (by decide) ?_
  refine lv_ldc2 hx hb hown (hts _ tMc19) dX13_init_31 ?_
  refine miL C V hS (by decide) (by decide) dX13_init_34 (fun g4 H locs eg V hS => ?_)
  replace hg := wg_s (n := 1) hg eg (by decide) (by decide)
  refine lv_dup hx hb dX13_init_35 rfl ?_
  refine lv_iconst (v := 2) hx hb dX13_init_36 (by decide) ?_
  refine lv_ldc2 hx hb hown (hts _ tMc21) dX13_init_37 ?_
  refine miL C V hS (by decide) (by decide) dX13_init_40 (fun g4 H locs eg V hS => ?_)
  replace hg := wg_s (n := 2) hg eg (by decide) (by decide)
  refine lv_dup hx hb dX13_init_41 rfl ?_
  refine lv_iconst (v := 3) hx hb dX13_init_42 (by decide) ?_
  refine lv_ldc2 hx hb hown (hts _ tMc23) dX13_init_43 ?_
  refine miL C V hS (by decide) (by decide) dX13_init_46 (fun g4 H locs eg V hS => ?_)
  replace hg := wg_s (n := 3) hg eg (by decide) (by decide)
  refine lv_dup hx hb dX13_init_47 rfl ?_
  refine lv_iconst (v := 4) hx hb dX13_init_48 (by decide) ?_
  refine lv_ldc2 hx hb hown (hts _ tMc25) dX13_init_49 ?_
  refine miL C V hS (by decide) (by decide) dX13_init_52 (fun g4 H locs eg V hS => ?_)
  replace hg := wg_s (n := 4) hg eg (by decide) (by decide)
  refine lv_dup hx hb dX13_init_53 rfl ?_
  refine lv_iconst (v := 5) hx hb dX13_init_54 (by decide) ?_
  refine lv_ldc2 hx hb hown (hts _ tMc27) dX13_init_55 ?_
  refine miL C V hS (by decide) (by decide) dX13_init_58 (fun g4 H locs eg V hS => ?_)
  replace hg := wg_s (n := 5) hg eg (by decide) (by decide)
  refine lv_dup hx hb dX13_init_59 rfl ?_
  refine lv_bipush (v := 6) hx hb dX13_init_60 (by decide) ?_
  refine lv_ldc2 hx hb hown (hts _ tMc29) dX13_init_62 ?_
  refine miL C V hS (by decide) (by decide) dX13_init_65 (fun g4 H locs eg V hS => ?_)
  replace hg := wg_s (n := 6) hg eg (by decide) (by decide)
  refine lv_dup hx hb dX13_init_66 rfl ?_
  refine lv_bipush (v := 7) hx hb dX13_init_67 (by decide) ?_
  refine lv_ldc2 hx hb hown (hts _ tMc31) dX13_init_69 ?_
  refine miL C V hS (by decide) (by decide) dX13_init_72 (fun g4 H locs eg V hS => ?_)
  replace hg := wg_s (n := 7) hg eg (by decide) (by decide)
  refine lv_dup hx hb dX13_init_73 rfl ?_
  refine lv_bipush (v := 8) hx hb dX13_init_74 (by decide) ?_
  refine lv_ldc2 hx hb hown (hts _ tMc33) dX13_init_76 ?_
  refine miL C V hS (by decide) (by decide) dX13_init_79 (fun g4 H locs eg V hS => ?_)
  replace hg := wg_s (n := 8) hg eg (by decide) (by decide)
  refine lv_dup hx hb dX13_init_80 rfl ?_
  refine lv_bipush (v := 9) hx hb dX13_init_81 (by decide) ?_
  refine lv_ldc2 hx hb hown (hts _ tMc35) dX13_init_83 ?_
  refine miL C V hS (by decide) (by decide) dX13_init_86 (fun g4 H locs eg V hS => ?_)
  replace hg := wg_s (n := 9) hg eg (by decide) (by decide)
  refine lv_dup hx hb dX13_init_87 rfl ?_
  refine lv_bipush (v := 10) hx hb dX13_init_88 (by decide) ?_
  refine lv_ldc2 hx hb hown (hts _ tMc37) dX13_init_90 ?_
  refine miL C V hS (by decide) (by decide) dX13_init_93 (fun g4 H locs eg V hS => ?_)
  replace hg := wg_s (n := 10) hg eg (by decide) (by decide)
  refine lv_dup hx hb dX13_init_94 rfl ?_
  refine lv_bipush (v := 11) hx hb dX13_init_95 (by decide) ?_
  refine lv_ldc2 hx hb hown (hts _ tMc39) dX13_init_97 ?_
  refine miL C V hS (by decide) (by decide) dX13_init_100 (fun g4 H locs eg V hS => ?_)
  replace hg := wg_s (n := 11) hg eg (by decide) (by decide)
  refine lv_dup hx hb dX13_init_101 rfl ?_
  refine lv_bipush (v := 12) hx hb dX13_init_102 (by decide) ?_
  refine lv_ldc2 hx hb hown (hts _ tMc41) dX13_init_104 ?_
  refine miL C V hS (by decide) (by decide) dX13_init_107 (fun g4 H locs eg V hS => ?_)
  replace hg := wg_s (n := 12) hg eg (by decide) (by decide)
  refine lv_dup hx hb dX13_init_108 rfl ?_
  refine lv_bipush (v := 13) hx hb dX13_init_109 (by decide) ?_
  refine lv_ldc2 hx hb hown (hts _ tMc43) dX13_init_111 ?_
  refine miL C V hS (by decide) (by decide) dX13_init_114 (fun g4 H locs eg V hS => ?_)
  replace hg := wg_s (n := 13) hg eg (by decide) (by decide)
  refine lv_dup hx hb dX13_init_115 rfl ?_
  refine lv_bipush (v := 14) hx hb dX13_init_116 (by decide) ?_
  refine lv_ldc2 hx hb hown (hts _ tMc45) dX13_init_118 ?_
  refine miL C V hS (by decide) (by decide) dX13_init_121 (fun g4 H locs eg V hS => ?_)
  replace hg := wg_s (n := 14) hg eg (by decide) (by decide)
  refine lv_dup hx hb dX13_init_122 rfl ?_
  refine lv_bipush (v := 15) hx hb dX13_init_123 (by decide) ?_
  refine lv_ldc2 hx hb hown (hts _ tMc47) dX13_init_125 ?_
  refine miL C V hS (by decide) (by decide) dX13_init_128 (fun g4 H locs eg V hS => ?_)
  replace hg := wg_s (n := 15) hg eg (by decide) (by decide)
  refine lv_dup hx hb dX13_init_129 rfl ?_
  refine lv_bipush (v := 16) hx hb dX13_init_130 (by decide) ?_
  refine lv_ldc2 hx hb hown (hts _ tMc49) dX13_init_132 ?_
  refine miL C V hS (by decide) (by decide) dX13_init_135 (fun g4 H locs eg V hS => ?_)
  replace hg := wg_s (n := 16) hg eg (by decide) (by decide)
  refine lv_dup hx hb dX13_init_136 rfl ?_
  refine lv_bipush (v := 17) hx hb dX13_init_137 (by decide) ?_
  refine lv_ldc2 hx hb hown (hts _ tMc51) dX13_init_139 ?_
  refine miL C V hS (by decide) (by decide) dX13_init_142 (fun g4 H locs eg V hS => ?_)
  replace hg := wg_s (n := 17) hg eg (by decide) (by decide)
  refine lv_dup hx hb dX13_init_143 rfl ?_
  refine lv_bipush (v := 18) hx hb dX13_init_144 (by decide) ?_
  refine lv_ldc2 hx hb hown (hts _ tMc53) dX13_init_146 ?_
  refine miL C V hS (by decide) (by decide) dX13_init_149 (fun g4 H locs eg V hS => ?_)
  replace hg := wg_s (n := 18) hg eg (by decide) (by decide)
  refine lv_dup hx hb dX13_init_150 rfl ?_
  refine lv_bipush (v := 19) hx hb dX13_init_151 (by decide) ?_
  refine lv_ldc2 hx hb hown (hts _ tMc55) dX13_init_153 ?_
  refine miL C V hS (by decide) (by decide) dX13_init_156 (fun g4 H locs eg V hS => ?_)
  replace hg := wg_s (n := 19) hg eg (by decide) (by decide)
  refine lv_dup hx hb dX13_init_157 rfl ?_
  refine lv_bipush (v := 20) hx hb dX13_init_158 (by decide) ?_
  refine lv_ldc2 hx hb hown (hts _ tMc57) dX13_init_160 ?_
  refine miL C V hS (by decide) (by decide) dX13_init_163 (fun g4 H locs eg V hS => ?_)
  replace hg := wg_s (n := 20) hg eg (by decide) (by decide)
  refine lv_dup hx hb dX13_init_164 rfl ?_
  refine lv_bipush (v := 21) hx hb dX13_init_165 (by decide) ?_
  refine lv_ldc2 hx hb hown (hts _ tMc59) dX13_init_167 ?_
  refine miL C V hS (by decide) (by decide) dX13_init_170 (fun g4 H locs eg V hS => ?_)
  replace hg := wg_s (n := 21) hg eg (by decide) (by decide)
  refine lv_dup hx hb dX13_init_171 rfl ?_
  refine lv_bipush (v := 22) hx hb dX13_init_172 (by decide) ?_
  refine lv_ldc2 hx hb hown (hts _ tMc61) dX13_init_174 ?_
  refine miL C V hS (by decide) (by decide) dX13_init_177 (fun g4 H locs eg V hS => ?_)
  replace hg := wg_s (n := 22) hg eg (by decide) (by decide)
  refine lv_dup hx hb dX13_init_178 rfl ?_
  refine lv_bipush (v := 23) hx hb dX13_init_179 (by decide) ?_
  refine lv_ldc2 hx hb hown (hts _ tMc63) dX13_init_181 ?_
  refine miL C V hS (by decide) (by decide) dX13_init_184 (fun g4 H locs eg V hS => ?_)
  replace hg := wg_s (n := 23) hg eg (by decide) (by decide)
  refine lv_dup hx hb dX13_init_185 rfl ?_
  refine lv_bipush (v := 24) hx hb dX13_init_186 (by decide) ?_
  refine lv_ldc2 hx hb hown (hts _ tMc65) dX13_init_188 ?_
  refine miL C V hS (by decide) (by decide) dX13_init_191 (fun g4 H locs eg V hS => ?_)
  replace hg := wg_s (n := 24) hg eg (by decide) (by decide)
  refine lv_dup hx hb dX13_init_192 rfl ?_
  refine lv_bipush (v := 25) hx hb dX13_init_193 (by decide) ?_
  refine lv_ldc2 hx hb hown (hts _ tMc67) dX13_init_195 ?_
  refine miL C V hS (by decide) (by decide) dX13_init_198 (fun g4 H locs eg V hS => ?_)
  replace hg := wg_s (n := 25) hg eg (by decide) (by decide)
  refine lv_dup hx hb dX13_init_199 rfl ?_
  refine lv_bipush (v := 26) hx hb dX13_init_200 (by decide) ?_
  refine lv_ldc2 hx hb hown (hts _ tMc69) dX13_init_202 ?_
  refine miL C V hS (by decide) (by decide) dX13_init_205 (fun g4 H locs eg V hS => ?_)
  replace hg := wg_s (n := 26) hg eg (by decide) (by decide)
  refine lv_dup hx hb dX13_init_206 rfl ?_
  refine lv_bipush (v := 27) hx hb dX13_init_207 (by decide) ?_
  refine lv_ldc2 hx hb hown (hts _ tMc71) dX13_init_209 ?_
  refine miL C V hS (by decide) (by decide) dX13_init_212 (fun g4 H locs eg V hS => ?_)
  replace hg := wg_s (n := 27) hg eg (by decide) (by decide)
  refine lv_dup hx hb dX13_init_213 rfl ?_
  refine lv_bipush (v := 28) hx hb dX13_init_214 (by decide) ?_
  refine lv_ldc2 hx hb hown (hts _ tMc73) dX13_init_216 ?_
  refine miL C V hS (by decide) (by decide) dX13_init_219 (fun g4 H locs eg V hS => ?_)
  replace hg := wg_s (n := 28) hg eg (by decide) (by decide)
  refine lv_dup hx hb dX13_init_220 rfl ?_
  refine lv_bipush (v := 29) hx hb dX13_init_221 (by decide) ?_
  refine lv_ldc2 hx hb hown (hts _ tMc75) dX13_init_223 ?_
  refine miL C V hS (by decide) (by decide) dX13_init_226 (fun g4 H locs eg V hS => ?_)
  replace hg := wg_s (n := 29) hg eg (by decide) (by decide)
  refine lv_dup hx hb dX13_init_227 rfl ?_
  refine lv_bipush (v := 30) hx hb dX13_init_228 (by decide) ?_
  refine lv_ldc2 hx hb hown (hts _ tMc77) dX13_init_230 ?_
  refine miL C V hS (by decide) (by decide) dX13_init_233 (fun g4 H locs eg V hS => ?_)
  replace hg := wg_s (n := 30) hg eg (by decide) (by decide)
  refine lv_dup hx hb dX13_init_234 rfl ?_
  refine lv_bipush (v := 31) hx hb dX13_init_235 (by decide) ?_
  refine lv_ldc2 hx hb hown (hts _ tMc79) dX13_init_237 ?_
  refine miL C V hS (by decide) (by decide) dX13_init_240 (fun g4 H locs eg V hS => ?_)
  replace hg := wg_s (n := 31) hg eg (by decide) (by decide)
  refine lv_dup hx hb dX13_init_241 rfl ?_
  refine lv_bipush (v := 32) hx hb dX13_init_242 (by decide) ?_
  refine lv_ldc2 hx hb hown (hts _ tMc81) dX13_init_244 ?_
  refine miL C V hS (by decide) (by decide) dX13_init_247 (fun g4 H locs eg V hS => ?_)
  replace hg := wg_s (n := 32) hg eg (by decide) (by decide)
  refine lv_dup hx hb dX13_init_248 rfl ?_
  refine lv_bipush (v := 33) hx hb dX13_init_249 (by decide) ?_
  refine lv_ldc2 hx hb hown (hts _ tMc83) dX13_init_251 ?_
  refine miL C V hS (by decide) (by decide) dX13_init_254 (fun g4 H locs eg V hS => ?_)
  replace hg := wg_s (n := 33) hg eg (by decide) (by decide)
  refine miF (v := .ref q4) (ty := .array .long) C V hS 4 (by decide) tMf4 rfl rfl hmn (by decide +kernel) rfl rfl rfl dX13_init_255 (fun H locs V hS => ?_)
  have V : miV D A ([(o, .inr (10, [.int 0, .ref q1, .int 0, .int (-1), .ref q4, .null, .int 0, .int 0, .int 0, .int 0, .int 0, .null, .null, .null, .null, .null, .null, .null, .null, .null, .null, .null, .null, .null, .long 0, .long 0, .int 0, .int 0, .null, .null, .null, .null, .null, .null, .null, .null, .null, .null])), (q1, .inl (cs.1, 1600, .inl (fun _ => 0))), (q4, .inl (cs.2.1, 34, .inr (.inl g4)))] : va_W) H := V
  refine lv_aload_n hx hb dX13_init_258 rfl (lv_at hl 0 rfl) ?_
  refine lv_sipush (v := 240) hx hb dX13_init_259 (by decide) ?_
  refine miA (K := 240) (t0 := 0) (a0 := (240, .inl (fun _ => 0))) C V hS hA tMai rfl rfl (fun _ _ h => h) (fun _ => rfl) (by decide) (by decide) (by decide) ⟨Nat.le_of_ble_eq_true rfl, Nat.le_of_ble_eq_true rfl⟩ dX13_init_262 (fun q5 H V hS => ?_)
  have V : miV D A ([(o, .inr (10, [.int 0, .ref q1, .int 0, .int (-1), .ref q4, .null, .int 0, .int 0, .int 0, .int 0, .int 0, .null, .null, .null, .null, .null, .null, .null, .null, .null, .null, .null, .null, .null, .long 0, .long 0, .int 0, .int 0, .null, .null, .null, .null, .null, .null, .null, .null, .null, .null])), (q1, .inl (cs.1, 1600, .inl (fun _ => 0))), (q4, .inl (cs.2.1, 34, .inr (.inl g4))), (q5, .inl (cs.1, 240, .inl (fun _ => 0)))] : va_W) H := V
  refine miF (v := .ref q5) (ty := .array .int) C V hS 5 (by decide) tMf5 rfl rfl hmn (by decide +kernel) rfl rfl rfl dX13_init_264 (fun H locs V hS => ?_)
  have V : miV D A ([(o, .inr (10, [.int 0, .ref q1, .int 0, .int (-1), .ref q4, .ref q5, .int 0, .int 0, .int 0, .int 0, .int 0, .null, .null, .null, .null, .null, .null, .null, .null, .null, .null, .null, .null, .null, .long 0, .long 0, .int 0, .int 0, .null, .null, .null, .null, .null, .null, .null, .null, .null, .null])), (q1, .inl (cs.1, 1600, .inl (fun _ => 0))), (q4, .inl (cs.2.1, 34, .inr (.inl g4))), (q5, .inl (cs.1, 240, .inl (fun _ => 0)))] : va_W) H := V
  refine lv_aload_n hx hb dX13_init_267 rfl (lv_at hl 0 rfl) ?_
  refine lv_sipush (v := 1920) hx hb dX13_init_268 (by decide) ?_
  refine miA (K := 1920) (t0 := 0) (a0 := (1920, .inl (fun _ => 0))) C V hS hA tMai rfl rfl (fun _ _ h => h) (fun _ => rfl) (by decide) (by decide) (by decide) ⟨Nat.le_of_ble_eq_true rfl, Nat.le_of_ble_eq_true rfl⟩ dX13_init_271 (fun q11 H V hS => ?_)
  have V : miV D A ([(o, .inr (10, [.int 0, .ref q1, .int 0, .int (-1), .ref q4, .ref q5, .int 0, .int 0, .int 0, .int 0, .int 0, .null, .null, .null, .null, .null, .null, .null, .null, .null, .null, .null, .null, .null, .long 0, .long 0, .int 0, .int 0, .null, .null, .null, .null, .null, .null, .null, .null, .null, .null])), (q1, .inl (cs.1, 1600, .inl (fun _ => 0))), (q4, .inl (cs.2.1, 34, .inr (.inl g4))), (q5, .inl (cs.1, 240, .inl (fun _ => 0))), (q11, .inl (cs.1, 1920, .inl (fun _ => 0)))] : va_W) H := V
  refine miF (v := .ref q11) (ty := .array .int) C V hS 11 (by decide) tMf11 rfl rfl hmn (by decide +kernel) rfl rfl rfl dX13_init_273 (fun H locs V hS => ?_)
  have V : miV D A ([(o, .inr (10, [.int 0, .ref q1, .int 0, .int (-1), .ref q4, .ref q5, .int 0, .int 0, .int 0, .int 0, .int 0, .ref q11, .null, .null, .null, .null, .null, .null, .null, .null, .null, .null, .null, .null, .long 0, .long 0, .int 0, .int 0, .null, .null, .null, .null, .null, .null, .null, .null, .null, .null])), (q1, .inl (cs.1, 1600, .inl (fun _ => 0))), (q4, .inl (cs.2.1, 34, .inr (.inl g4))), (q5, .inl (cs.1, 240, .inl (fun _ => 0))), (q11, .inl (cs.1, 1920, .inl (fun _ => 0)))] : va_W) H := V
  refine lv_aload_n hx hb dX13_init_276 rfl (lv_at hl 0 rfl) ?_
  refine lv_bipush (v := 8) hx hb dX13_init_277 (by decide) ?_
  refine miA (K := 8) (t0 := 0) (a0 := (8, .inl (fun _ => 0))) C V hS hA tMai rfl rfl (fun _ _ h => h) (fun _ => rfl) (by decide) (by decide) (by decide) ⟨Nat.le_of_ble_eq_true rfl, Nat.le_of_ble_eq_true rfl⟩ dX13_init_279 (fun q12 H V hS => ?_)
  have V : miV D A ([(o, .inr (10, [.int 0, .ref q1, .int 0, .int (-1), .ref q4, .ref q5, .int 0, .int 0, .int 0, .int 0, .int 0, .ref q11, .null, .null, .null, .null, .null, .null, .null, .null, .null, .null, .null, .null, .long 0, .long 0, .int 0, .int 0, .null, .null, .null, .null, .null, .null, .null, .null, .null, .null])), (q1, .inl (cs.1, 1600, .inl (fun _ => 0))), (q4, .inl (cs.2.1, 34, .inr (.inl g4))), (q5, .inl (cs.1, 240, .inl (fun _ => 0))), (q11, .inl (cs.1, 1920, .inl (fun _ => 0))), (q12, .inl (cs.1, 8, .inl (fun _ => 0)))] : va_W) H := V
  refine miF (v := .ref q12) (ty := .array .int) C V hS 12 (by decide) tMf12 rfl rfl hmn (by decide +kernel) rfl rfl rfl dX13_init_281 (fun H locs V hS => ?_)
  have V : miV D A ([(o, .inr (10, [.int 0, .ref q1, .int 0, .int (-1), .ref q4, .ref q5, .int 0, .int 0, .int 0, .int 0, .int 0, .ref q11, .ref q12, .null, .null, .null, .null, .null, .null, .null, .null, .null, .null, .null, .long 0, .long 0, .int 0, .int 0, .null, .null, .null, .null, .null, .null, .null, .null, .null, .null])), (q1, .inl (cs.1, 1600, .inl (fun _ => 0))), (q4, .inl (cs.2.1, 34, .inr (.inl g4))), (q5, .inl (cs.1, 240, .inl (fun _ => 0))), (q11, .inl (cs.1, 1920, .inl (fun _ => 0))), (q12, .inl (cs.1, 8, .inl (fun _ => 0)))] : va_W) H := V
  refine lv_aload_n hx hb dX13_init_284 rfl (lv_at hl 0 rfl) ?_
  refine lv_bipush (v := 8) hx hb dX13_init_285 (by decide) ?_
  refine miA (K := 8) (t0 := 0) (a0 := (8, .inl (fun _ => 0))) C V hS hA tMai rfl rfl (fun _ _ h => h) (fun _ => rfl) (by decide) (by decide) (by decide) ⟨Nat.le_of_ble_eq_true rfl, Nat.le_of_ble_eq_true rfl⟩ dX13_init_287 (fun q13 H V hS => ?_)
  have V : miV D A ([(o, .inr (10, [.int 0, .ref q1, .int 0, .int (-1), .ref q4, .ref q5, .int 0, .int 0, .int 0, .int 0, .int 0, .ref q11, .ref q12, .null, .null, .null, .null, .null, .null, .null, .null, .null, .null, .null, .long 0, .long 0, .int 0, .int 0, .null, .null, .null, .null, .null, .null, .null, .null, .null, .null])), (q1, .inl (cs.1, 1600, .inl (fun _ => 0))), (q4, .inl (cs.2.1, 34, .inr (.inl g4))), (q5, .inl (cs.1, 240, .inl (fun _ => 0))), (q11, .inl (cs.1, 1920, .inl (fun _ => 0))), (q12, .inl (cs.1, 8, .inl (fun _ => 0))), (q13, .inl (cs.1, 8, .inl (fun _ => 0)))] : va_W) H := V
  refine miF (v := .ref q13) (ty := .array .int) C V hS 13 (by decide) tMf13 rfl rfl hmn (by decide +kernel) rfl rfl rfl dX13_init_289 (fun H locs V hS => ?_)
  have V : miV D A ([(o, .inr (10, [.int 0, .ref q1, .int 0, .int (-1), .ref q4, .ref q5, .int 0, .int 0, .int 0, .int 0, .int 0, .ref q11, .ref q12, .ref q13, .null, .null, .null, .null, .null, .null, .null, .null, .null, .null, .long 0, .long 0, .int 0, .int 0, .null, .null, .null, .null, .null, .null, .null, .null, .null, .null])), (q1, .inl (cs.1, 1600, .inl (fun _ => 0))), (q4, .inl (cs.2.1, 34, .inr (.inl g4))), (q5, .inl (cs.1, 240, .inl (fun _ => 0))), (q11, .inl (cs.1, 1920, .inl (fun _ => 0))), (q12, .inl (cs.1, 8, .inl (fun _ => 0))), (q13, .inl (cs.1, 8, .inl (fun _ => 0)))] : va_W) H := V
  refine lv_aload_n hx hb dX13_init_292 rfl (lv_at hl 0 rfl) ?_
  refine lv_bipush (v := 8) hx hb dX13_init_293 (by decide) ?_
  refine miA (K := 8) (t0 := 0) (a0 := (8, .inl (fun _ => 0))) C V hS hA tMai rfl rfl (fun _ _ h => h) (fun _ => rfl) (by decide) (by decide) (by decide) ⟨Nat.le_of_ble_eq_true rfl, Nat.le_of_ble_eq_true rfl⟩ dX13_init_295 (fun q14 H V hS => ?_)
  have V : miV D A ([(o, .inr (10, [.int 0, .ref q1, .int 0, .int (-1), .ref q4, .ref q5, .int 0, .int 0, .int 0, .int 0, .int 0, .ref q11, .ref q12, .ref q13, .null, .null, .null, .null, .null, .null, .null, .null, .null, .null, .long 0, .long 0, .int 0, .int 0, .null, .null, .null, .null, .null, .null, .null, .null, .null, .null])), (q1, .inl (cs.1, 1600, .inl (fun _ => 0))), (q4, .inl (cs.2.1, 34, .inr (.inl g4))), (q5, .inl (cs.1, 240, .inl (fun _ => 0))), (q11, .inl (cs.1, 1920, .inl (fun _ => 0))), (q12, .inl (cs.1, 8, .inl (fun _ => 0))), (q13, .inl (cs.1, 8, .inl (fun _ => 0))), (q14, .inl (cs.1, 8, .inl (fun _ => 0)))] : va_W) H := V
  refine miF (v := .ref q14) (ty := .array .int) C V hS 14 (by decide) tMf14 rfl rfl hmn (by decide +kernel) rfl rfl rfl dX13_init_297 (fun H locs V hS => ?_)
  have V : miV D A ([(o, .inr (10, [.int 0, .ref q1, .int 0, .int (-1), .ref q4, .ref q5, .int 0, .int 0, .int 0, .int 0, .int 0, .ref q11, .ref q12, .ref q13, .ref q14, .null, .null, .null, .null, .null, .null, .null, .null, .null, .long 0, .long 0, .int 0, .int 0, .null, .null, .null, .null, .null, .null, .null, .null, .null, .null])), (q1, .inl (cs.1, 1600, .inl (fun _ => 0))), (q4, .inl (cs.2.1, 34, .inr (.inl g4))), (q5, .inl (cs.1, 240, .inl (fun _ => 0))), (q11, .inl (cs.1, 1920, .inl (fun _ => 0))), (q12, .inl (cs.1, 8, .inl (fun _ => 0))), (q13, .inl (cs.1, 8, .inl (fun _ => 0))), (q14, .inl (cs.1, 8, .inl (fun _ => 0)))] : va_W) H := V
  refine lv_aload_n hx hb dX13_init_300 rfl (lv_at hl 0 rfl) ?_
  refine lv_bipush (v := 8) hx hb dX13_init_301 (by decide) ?_
  refine miA (K := 8) (t0 := 0) (a0 := (8, .inl (fun _ => 0))) C V hS hA tMai rfl rfl (fun _ _ h => h) (fun _ => rfl) (by decide) (by decide) (by decide) ⟨Nat.le_of_ble_eq_true rfl, Nat.le_of_ble_eq_true rfl⟩ dX13_init_303 (fun q15 H V hS => ?_)
  have V : miV D A ([(o, .inr (10, [.int 0, .ref q1, .int 0, .int (-1), .ref q4, .ref q5, .int 0, .int 0, .int 0, .int 0, .int 0, .ref q11, .ref q12, .ref q13, .ref q14, .null, .null, .null, .null, .null, .null, .null, .null, .null, .long 0, .long 0, .int 0, .int 0, .null, .null, .null, .null, .null, .null, .null, .null, .null, .null])), (q1, .inl (cs.1, 1600, .inl (fun _ => 0))), (q4, .inl (cs.2.1, 34, .inr (.inl g4))), (q5, .inl (cs.1, 240, .inl (fun _ => 0))), (q11, .inl (cs.1, 1920, .inl (fun _ => 0))), (q12, .inl (cs.1, 8, .inl (fun _ => 0))), (q13, .inl (cs.1, 8, .inl (fun _ => 0))), (q14, .inl (cs.1, 8, .inl (fun _ => 0))), (q15, .inl (cs.1, 8, .inl (fun _ => 0)))] : va_W) H := V
  refine miF (v := .ref q15) (ty := .array .int) C V hS 15 (by decide) tMf15 rfl rfl hmn (by decide +kernel) rfl rfl rfl dX13_init_305 (fun H locs V hS => ?_)
  have V : miV D A ([(o, .inr (10, [.int 0, .ref q1, .int 0, .int (-1), .ref q4, .ref q5, .int 0, .int 0, .int 0, .int 0, .int 0, .ref q11, .ref q12, .ref q13, .ref q14, .ref q15, .null, .null, .null, .null, .null, .null, .null, .null, .long 0, .long 0, .int 0, .int 0, .null, .null, .null, .null, .null, .null, .null, .null, .null, .null])), (q1, .inl (cs.1, 1600, .inl (fun _ => 0))), (q4, .inl (cs.2.1, 34, .inr (.inl g4))), (q5, .inl (cs.1, 240, .inl (fun _ => 0))), (q11, .inl (cs.1, 1920, .inl (fun _ => 0))), (q12, .inl (cs.1, 8, .inl (fun _ => 0))), (q13, .inl (cs.1, 8, .inl (fun _ => 0))), (q14, .inl (cs.1, 8, .inl (fun _ => 0))), (q15, .inl (cs.1, 8, .inl (fun _ => 0)))] : va_W) H := V
  refine lv_aload_n hx hb dX13_init_308 rfl (lv_at hl 0 rfl) ?_
  refine lv_bipush (v := 8) hx hb dX13_init_309 (by decide) ?_
  refine miA (K := 8) (t0 := 0) (a0 := (8, .inl (fun _ => 0))) C V hS hA tMai rfl rfl (fun _ _ h => h) (fun _ => rfl) (by decide) (by decide) (by decide) ⟨Nat.le_of_ble_eq_true rfl, Nat.le_of_ble_eq_true rfl⟩ dX13_init_311 (fun q16 H V hS => ?_)
  have V : miV D A ([(o, .inr (10, [.int 0, .ref q1, .int 0, .int (-1), .ref q4, .ref q5, .int 0, .int 0, .int 0, .int 0, .int 0, .ref q11, .ref q12, .ref q13, .ref q14, .ref q15, .null, .null, .null, .null, .null, .null, .null, .null, .long 0, .long 0, .int 0, .int 0, .null, .null, .null, .null, .null, .null, .null, .null, .null, .null])), (q1, .inl (cs.1, 1600, .inl (fun _ => 0))), (q4, .inl (cs.2.1, 34, .inr (.inl g4))), (q5, .inl (cs.1, 240, .inl (fun _ => 0))), (q11, .inl (cs.1, 1920, .inl (fun _ => 0))), (q12, .inl (cs.1, 8, .inl (fun _ => 0))), (q13, .inl (cs.1, 8, .inl (fun _ => 0))), (q14, .inl (cs.1, 8, .inl (fun _ => 0))), (q15, .inl (cs.1, 8, .inl (fun _ => 0))), (q16, .inl (cs.1, 8, .inl (fun _ => 0)))] : va_W) H := V
  refine miF (v := .ref q16) (ty := .array .int) C V hS 16 (by decide) tMf16 rfl rfl hmn (by decide +kernel) rfl rfl rfl dX13_init_313 (fun H locs V hS => ?_)
  have V : miV D A ([(o, .inr (10, [.int 0, .ref q1, .int 0, .int (-1), .ref q4, .ref q5, .int 0, .int 0, .int 0, .int 0, .int 0, .ref q11, .ref q12, .ref q13, .ref q14, .ref q15, .ref q16, .null, .null, .null, .null, .null, .null, .null, .long 0, .long 0, .int 0, .int 0, .null, .null, .null, .null, .null, .null, .null, .null, .null, .null])), (q1, .inl (cs.1, 1600, .inl (fun _ => 0))), (q4, .inl (cs.2.1, 34, .inr (.inl g4))), (q5, .inl (cs.1, 240, .inl (fun _ => 0))), (q11, .inl (cs.1, 1920, .inl (fun _ => 0))), (q12, .inl (cs.1, 8, .inl (fun _ => 0))), (q13, .inl (cs.1, 8, .inl (fun _ => 0))), (q14, .inl (cs.1, 8, .inl (fun _ => 0))), (q15, .inl (cs.1, 8, .inl (fun _ => 0))), (q16, .inl (cs.1, 8, .inl (fun _ => 0)))] : va_W) H := V
  refine lv_aload_n hx hb dX13_init_316 rfl (lv_at hl 0 rfl) ?_
  refine lv_bipush (v := 8) hx hb dX13_init_317 (by decide) ?_
  refine miA (K := 8) (t0 := 0) (a0 := (8, .inl (fun _ => 0))) C V hS hA tMai rfl rfl (fun _ _ h => h) (fun _ => rfl) (by decide) (by decide) (by decide) ⟨Nat.le_of_ble_eq_true rfl, Nat.le_of_ble_eq_true rfl⟩ dX13_init_319 (fun q17 H V hS => ?_)
  have V : miV D A ([(o, .inr (10, [.int 0, .ref q1, .int 0, .int (-1), .ref q4, .ref q5, .int 0, .int 0, .int 0, .int 0, .int 0, .ref q11, .ref q12, .ref q13, .ref q14, .ref q15, .ref q16, .null, .null, .null, .null, .null, .null, .null, .long 0, .long 0, .int 0, .int 0, .null, .null, .null, .null, .null, .null, .null, .null, .null, .null])), (q1, .inl (cs.1, 1600, .inl (fun _ => 0))), (q4, .inl (cs.2.1, 34, .inr (.inl g4))), (q5, .inl (cs.1, 240, .inl (fun _ => 0))), (q11, .inl (cs.1, 1920, .inl (fun _ => 0))), (q12, .inl (cs.1, 8, .inl (fun _ => 0))), (q13, .inl (cs.1, 8, .inl (fun _ => 0))), (q14, .inl (cs.1, 8, .inl (fun _ => 0))), (q15, .inl (cs.1, 8, .inl (fun _ => 0))), (q16, .inl (cs.1, 8, .inl (fun _ => 0))), (q17, .inl (cs.1, 8, .inl (fun _ => 0)))] : va_W) H := V
  refine miF (v := .ref q17) (ty := .array .int) C V hS 17 (by decide) tMf17 rfl rfl hmn (by decide +kernel) rfl rfl rfl dX13_init_321 (fun H locs V hS => ?_)
  have V : miV D A ([(o, .inr (10, [.int 0, .ref q1, .int 0, .int (-1), .ref q4, .ref q5, .int 0, .int 0, .int 0, .int 0, .int 0, .ref q11, .ref q12, .ref q13, .ref q14, .ref q15, .ref q16, .ref q17, .null, .null, .null, .null, .null, .null, .long 0, .long 0, .int 0, .int 0, .null, .null, .null, .null, .null, .null, .null, .null, .null, .null])), (q1, .inl (cs.1, 1600, .inl (fun _ => 0))), (q4, .inl (cs.2.1, 34, .inr (.inl g4))), (q5, .inl (cs.1, 240, .inl (fun _ => 0))), (q11, .inl (cs.1, 1920, .inl (fun _ => 0))), (q12, .inl (cs.1, 8, .inl (fun _ => 0))), (q13, .inl (cs.1, 8, .inl (fun _ => 0))), (q14, .inl (cs.1, 8, .inl (fun _ => 0))), (q15, .inl (cs.1, 8, .inl (fun _ => 0))), (q16, .inl (cs.1, 8, .inl (fun _ => 0))), (q17, .inl (cs.1, 8, .inl (fun _ => 0)))] : va_W) H := V
  refine lv_aload_n hx hb dX13_init_324 rfl (lv_at hl 0 rfl) ?_
  refine lv_bipush (v := 8) hx hb dX13_init_325 (by decide) ?_
  refine miA (K := 8) (t0 := 0) (a0 := (8, .inl (fun _ => 0))) C V hS hA tMai rfl rfl (fun _ _ h => h) (fun _ => rfl) (by decide) (by decide) (by decide) ⟨Nat.le_of_ble_eq_true rfl, Nat.le_of_ble_eq_true rfl⟩ dX13_init_327 (fun q18 H V hS => ?_)
  have V : miV D A ([(o, .inr (10, [.int 0, .ref q1, .int 0, .int (-1), .ref q4, .ref q5, .int 0, .int 0, .int 0, .int 0, .int 0, .ref q11, .ref q12, .ref q13, .ref q14, .ref q15, .ref q16, .ref q17, .null, .null, .null, .null, .null, .null, .long 0, .long 0, .int 0, .int 0, .null, .null, .null, .null, .null, .null, .null, .null, .null, .null])), (q1, .inl (cs.1, 1600, .inl (fun _ => 0))), (q4, .inl (cs.2.1, 34, .inr (.inl g4))), (q5, .inl (cs.1, 240, .inl (fun _ => 0))), (q11, .inl (cs.1, 1920, .inl (fun _ => 0))), (q12, .inl (cs.1, 8, .inl (fun _ => 0))), (q13, .inl (cs.1, 8, .inl (fun _ => 0))), (q14, .inl (cs.1, 8, .inl (fun _ => 0))), (q15, .inl (cs.1, 8, .inl (fun _ => 0))), (q16, .inl (cs.1, 8, .inl (fun _ => 0))), (q17, .inl (cs.1, 8, .inl (fun _ => 0))), (q18, .inl (cs.1, 8, .inl (fun _ => 0)))] : va_W) H := V
  refine miF (v := .ref q18) (ty := .array .int) C V hS 18 (by decide) tMf18 rfl rfl hmn (by decide +kernel) rfl rfl rfl dX13_init_329 (fun H locs V hS => ?_)
  have V : miV D A ([(o, .inr (10, [.int 0, .ref q1, .int 0, .int (-1), .ref q4, .ref q5, .int 0, .int 0, .int 0, .int 0, .int 0, .ref q11, .ref q12, .ref q13, .ref q14, .ref q15, .ref q16, .ref q17, .ref q18, .null, .null, .null, .null, .null, .long 0, .long 0, .int 0, .int 0, .null, .null, .null, .null, .null, .null, .null, .null, .null, .null])), (q1, .inl (cs.1, 1600, .inl (fun _ => 0))), (q4, .inl (cs.2.1, 34, .inr (.inl g4))), (q5, .inl (cs.1, 240, .inl (fun _ => 0))), (q11, .inl (cs.1, 1920, .inl (fun _ => 0))), (q12, .inl (cs.1, 8, .inl (fun _ => 0))), (q13, .inl (cs.1, 8, .inl (fun _ => 0))), (q14, .inl (cs.1, 8, .inl (fun _ => 0))), (q15, .inl (cs.1, 8, .inl (fun _ => 0))), (q16, .inl (cs.1, 8, .inl (fun _ => 0))), (q17, .inl (cs.1, 8, .inl (fun _ => 0))), (q18, .inl (cs.1, 8, .inl (fun _ => 0)))] : va_W) H := V
  refine lv_aload_n hx hb dX13_init_332 rfl (lv_at hl 0 rfl) ?_
  refine lv_bipush (v := 8) hx hb dX13_init_333 (by decide) ?_
  refine miA (K := 8) (t0 := 0) (a0 := (8, .inl (fun _ => 0))) C V hS hA tMai rfl rfl (fun _ _ h => h) (fun _ => rfl) (by decide) (by decide) (by decide) ⟨Nat.le_of_ble_eq_true rfl, Nat.le_of_ble_eq_true rfl⟩ dX13_init_335 (fun q19 H V hS => ?_)
  have V : miV D A ([(o, .inr (10, [.int 0, .ref q1, .int 0, .int (-1), .ref q4, .ref q5, .int 0, .int 0, .int 0, .int 0, .int 0, .ref q11, .ref q12, .ref q13, .ref q14, .ref q15, .ref q16, .ref q17, .ref q18, .null, .null, .null, .null, .null, .long 0, .long 0, .int 0, .int 0, .null, .null, .null, .null, .null, .null, .null, .null, .null, .null])), (q1, .inl (cs.1, 1600, .inl (fun _ => 0))), (q4, .inl (cs.2.1, 34, .inr (.inl g4))), (q5, .inl (cs.1, 240, .inl (fun _ => 0))), (q11, .inl (cs.1, 1920, .inl (fun _ => 0))), (q12, .inl (cs.1, 8, .inl (fun _ => 0))), (q13, .inl (cs.1, 8, .inl (fun _ => 0))), (q14, .inl (cs.1, 8, .inl (fun _ => 0))), (q15, .inl (cs.1, 8, .inl (fun _ => 0))), (q16, .inl (cs.1, 8, .inl (fun _ => 0))), (q17, .inl (cs.1, 8, .inl (fun _ => 0))), (q18, .inl (cs.1, 8, .inl (fun _ => 0))), (q19, .inl (cs.1, 8, .inl (fun _ => 0)))] : va_W) H := V
  refine miF (v := .ref q19) (ty := .array .int) C V hS 19 (by decide) tMf19 rfl rfl hmn (by decide +kernel) rfl rfl rfl dX13_init_337 (fun H locs V hS => ?_)
  have V : miV D A ([(o, .inr (10, [.int 0, .ref q1, .int 0, .int (-1), .ref q4, .ref q5, .int 0, .int 0, .int 0, .int 0, .int 0, .ref q11, .ref q12, .ref q13, .ref q14, .ref q15, .ref q16, .ref q17, .ref q18, .ref q19, .null, .null, .null, .null, .long 0, .long 0, .int 0, .int 0, .null, .null, .null, .null, .null, .null, .null, .null, .null, .null])), (q1, .inl (cs.1, 1600, .inl (fun _ => 0))), (q4, .inl (cs.2.1, 34, .inr (.inl g4))), (q5, .inl (cs.1, 240, .inl (fun _ => 0))), (q11, .inl (cs.1, 1920, .inl (fun _ => 0))), (q12, .inl (cs.1, 8, .inl (fun _ => 0))), (q13, .inl (cs.1, 8, .inl (fun _ => 0))), (q14, .inl (cs.1, 8, .inl (fun _ => 0))), (q15, .inl (cs.1, 8, .inl (fun _ => 0))), (q16, .inl (cs.1, 8, .inl (fun _ => 0))), (q17, .inl (cs.1, 8, .inl (fun _ => 0))), (q18, .inl (cs.1, 8, .inl (fun _ => 0))), (q19, .inl (cs.1, 8, .inl (fun _ => 0)))] : va_W) H := V
  refine lv_aload_n hx hb dX13_init_340 rfl (lv_at hl 0 rfl) ?_
  refine lv_bipush (v := 8) hx hb dX13_init_341 (by decide) ?_
  refine miA (K := 8) (t0 := 2) (a0 := (8, .inl (fun _ => 0))) C V hS hA tMab rfl rfl (fun _ _ h => h) (fun _ => rfl) (by decide) (by decide) (by decide) ⟨Nat.le_of_ble_eq_true rfl, Nat.le_of_ble_eq_true rfl⟩ dX13_init_343 (fun q20 H V hS => ?_)
  have V : miV D A ([(o, .inr (10, [.int 0, .ref q1, .int 0, .int (-1), .ref q4, .ref q5, .int 0, .int 0, .int 0, .int 0, .int 0, .ref q11, .ref q12, .ref q13, .ref q14, .ref q15, .ref q16, .ref q17, .ref q18, .ref q19, .null, .null, .null, .null, .long 0, .long 0, .int 0, .int 0, .null, .null, .null, .null, .null, .null, .null, .null, .null, .null])), (q1, .inl (cs.1, 1600, .inl (fun _ => 0))), (q4, .inl (cs.2.1, 34, .inr (.inl g4))), (q5, .inl (cs.1, 240, .inl (fun _ => 0))), (q11, .inl (cs.1, 1920, .inl (fun _ => 0))), (q12, .inl (cs.1, 8, .inl (fun _ => 0))), (q13, .inl (cs.1, 8, .inl (fun _ => 0))), (q14, .inl (cs.1, 8, .inl (fun _ => 0))), (q15, .inl (cs.1, 8, .inl (fun _ => 0))), (q16, .inl (cs.1, 8, .inl (fun _ => 0))), (q17, .inl (cs.1, 8, .inl (fun _ => 0))), (q18, .inl (cs.1, 8, .inl (fun _ => 0))), (q19, .inl (cs.1, 8, .inl (fun _ => 0))), (q20, .inl (cs.2.2, 8, .inl (fun _ => 0)))] : va_W) H := V
  refine miF (v := .ref q20) (ty := .array .boolean) C V hS 20 (by decide) tMf20 rfl rfl hmn (by decide +kernel) rfl rfl rfl dX13_init_345 (fun H locs V hS => ?_)
  have V : miV D A ([(o, .inr (10, [.int 0, .ref q1, .int 0, .int (-1), .ref q4, .ref q5, .int 0, .int 0, .int 0, .int 0, .int 0, .ref q11, .ref q12, .ref q13, .ref q14, .ref q15, .ref q16, .ref q17, .ref q18, .ref q19, .ref q20, .null, .null, .null, .long 0, .long 0, .int 0, .int 0, .null, .null, .null, .null, .null, .null, .null, .null, .null, .null])), (q1, .inl (cs.1, 1600, .inl (fun _ => 0))), (q4, .inl (cs.2.1, 34, .inr (.inl g4))), (q5, .inl (cs.1, 240, .inl (fun _ => 0))), (q11, .inl (cs.1, 1920, .inl (fun _ => 0))), (q12, .inl (cs.1, 8, .inl (fun _ => 0))), (q13, .inl (cs.1, 8, .inl (fun _ => 0))), (q14, .inl (cs.1, 8, .inl (fun _ => 0))), (q15, .inl (cs.1, 8, .inl (fun _ => 0))), (q16, .inl (cs.1, 8, .inl (fun _ => 0))), (q17, .inl (cs.1, 8, .inl (fun _ => 0))), (q18, .inl (cs.1, 8, .inl (fun _ => 0))), (q19, .inl (cs.1, 8, .inl (fun _ => 0))), (q20, .inl (cs.2.2, 8, .inl (fun _ => 0)))] : va_W) H := V
  refine lv_aload_n hx hb dX13_init_348 rfl (lv_at hl 0 rfl) ?_
  refine lv_bipush (v := 8) hx hb dX13_init_349 (by decide) ?_
  refine miA (K := 8) (t0 := 2) (a0 := (8, .inl (fun _ => 0))) C V hS hA tMab rfl rfl (fun _ _ h => h) (fun _ => rfl) (by decide) (by decide) (by decide) ⟨Nat.le_of_ble_eq_true rfl, Nat.le_of_ble_eq_true rfl⟩ dX13_init_351 (fun q21 H V hS => ?_)
  have V : miV D A ([(o, .inr (10, [.int 0, .ref q1, .int 0, .int (-1), .ref q4, .ref q5, .int 0, .int 0, .int 0, .int 0, .int 0, .ref q11, .ref q12, .ref q13, .ref q14, .ref q15, .ref q16, .ref q17, .ref q18, .ref q19, .ref q20, .null, .null, .null, .long 0, .long 0, .int 0, .int 0, .null, .null, .null, .null, .null, .null, .null, .null, .null, .null])), (q1, .inl (cs.1, 1600, .inl (fun _ => 0))), (q4, .inl (cs.2.1, 34, .inr (.inl g4))), (q5, .inl (cs.1, 240, .inl (fun _ => 0))), (q11, .inl (cs.1, 1920, .inl (fun _ => 0))), (q12, .inl (cs.1, 8, .inl (fun _ => 0))), (q13, .inl (cs.1, 8, .inl (fun _ => 0))), (q14, .inl (cs.1, 8, .inl (fun _ => 0))), (q15, .inl (cs.1, 8, .inl (fun _ => 0))), (q16, .inl (cs.1, 8, .inl (fun _ => 0))), (q17, .inl (cs.1, 8, .inl (fun _ => 0))), (q18, .inl (cs.1, 8, .inl (fun _ => 0))), (q19, .inl (cs.1, 8, .inl (fun _ => 0))), (q20, .inl (cs.2.2, 8, .inl (fun _ => 0))), (q21, .inl (cs.2.2, 8, .inl (fun _ => 0)))] : va_W) H := V
  refine miF (v := .ref q21) (ty := .array .boolean) C V hS 21 (by decide) tMf21 rfl rfl hmn (by decide +kernel) rfl rfl rfl dX13_init_353 (fun H locs V hS => ?_)
  have V : miV D A ([(o, .inr (10, [.int 0, .ref q1, .int 0, .int (-1), .ref q4, .ref q5, .int 0, .int 0, .int 0, .int 0, .int 0, .ref q11, .ref q12, .ref q13, .ref q14, .ref q15, .ref q16, .ref q17, .ref q18, .ref q19, .ref q20, .ref q21, .null, .null, .long 0, .long 0, .int 0, .int 0, .null, .null, .null, .null, .null, .null, .null, .null, .null, .null])), (q1, .inl (cs.1, 1600, .inl (fun _ => 0))), (q4, .inl (cs.2.1, 34, .inr (.inl g4))), (q5, .inl (cs.1, 240, .inl (fun _ => 0))), (q11, .inl (cs.1, 1920, .inl (fun _ => 0))), (q12, .inl (cs.1, 8, .inl (fun _ => 0))), (q13, .inl (cs.1, 8, .inl (fun _ => 0))), (q14, .inl (cs.1, 8, .inl (fun _ => 0))), (q15, .inl (cs.1, 8, .inl (fun _ => 0))), (q16, .inl (cs.1, 8, .inl (fun _ => 0))), (q17, .inl (cs.1, 8, .inl (fun _ => 0))), (q18, .inl (cs.1, 8, .inl (fun _ => 0))), (q19, .inl (cs.1, 8, .inl (fun _ => 0))), (q20, .inl (cs.2.2, 8, .inl (fun _ => 0))), (q21, .inl (cs.2.2, 8, .inl (fun _ => 0)))] : va_W) H := V
  refine lv_aload_n hx hb dX13_init_356 rfl (lv_at hl 0 rfl) ?_
  refine lv_bipush (v := 8) hx hb dX13_init_357 (by decide) ?_
  refine miA (K := 8) (t0 := 2) (a0 := (8, .inl (fun _ => 0))) C V hS hA tMab rfl rfl (fun _ _ h => h) (fun _ => rfl) (by decide) (by decide) (by decide) ⟨Nat.le_of_ble_eq_true rfl, Nat.le_of_ble_eq_true rfl⟩ dX13_init_359 (fun q22 H V hS => ?_)
  have V : miV D A ([(o, .inr (10, [.int 0, .ref q1, .int 0, .int (-1), .ref q4, .ref q5, .int 0, .int 0, .int 0, .int 0, .int 0, .ref q11, .ref q12, .ref q13, .ref q14, .ref q15, .ref q16, .ref q17, .ref q18, .ref q19, .ref q20, .ref q21, .null, .null, .long 0, .long 0, .int 0, .int 0, .null, .null, .null, .null, .null, .null, .null, .null, .null, .null])), (q1, .inl (cs.1, 1600, .inl (fun _ => 0))), (q4, .inl (cs.2.1, 34, .inr (.inl g4))), (q5, .inl (cs.1, 240, .inl (fun _ => 0))), (q11, .inl (cs.1, 1920, .inl (fun _ => 0))), (q12, .inl (cs.1, 8, .inl (fun _ => 0))), (q13, .inl (cs.1, 8, .inl (fun _ => 0))), (q14, .inl (cs.1, 8, .inl (fun _ => 0))), (q15, .inl (cs.1, 8, .inl (fun _ => 0))), (q16, .inl (cs.1, 8, .inl (fun _ => 0))), (q17, .inl (cs.1, 8, .inl (fun _ => 0))), (q18, .inl (cs.1, 8, .inl (fun _ => 0))), (q19, .inl (cs.1, 8, .inl (fun _ => 0))), (q20, .inl (cs.2.2, 8, .inl (fun _ => 0))), (q21, .inl (cs.2.2, 8, .inl (fun _ => 0))), (q22, .inl (cs.2.2, 8, .inl (fun _ => 0)))] : va_W) H := V
  refine miF (v := .ref q22) (ty := .array .boolean) C V hS 22 (by decide) tMf22 rfl rfl hmn (by decide +kernel) rfl rfl rfl dX13_init_361 (fun H locs V hS => ?_)
  have V : miV D A ([(o, .inr (10, [.int 0, .ref q1, .int 0, .int (-1), .ref q4, .ref q5, .int 0, .int 0, .int 0, .int 0, .int 0, .ref q11, .ref q12, .ref q13, .ref q14, .ref q15, .ref q16, .ref q17, .ref q18, .ref q19, .ref q20, .ref q21, .ref q22, .null, .long 0, .long 0, .int 0, .int 0, .null, .null, .null, .null, .null, .null, .null, .null, .null, .null])), (q1, .inl (cs.1, 1600, .inl (fun _ => 0))), (q4, .inl (cs.2.1, 34, .inr (.inl g4))), (q5, .inl (cs.1, 240, .inl (fun _ => 0))), (q11, .inl (cs.1, 1920, .inl (fun _ => 0))), (q12, .inl (cs.1, 8, .inl (fun _ => 0))), (q13, .inl (cs.1, 8, .inl (fun _ => 0))), (q14, .inl (cs.1, 8, .inl (fun _ => 0))), (q15, .inl (cs.1, 8, .inl (fun _ => 0))), (q16, .inl (cs.1, 8, .inl (fun _ => 0))), (q17, .inl (cs.1, 8, .inl (fun _ => 0))), (q18, .inl (cs.1, 8, .inl (fun _ => 0))), (q19, .inl (cs.1, 8, .inl (fun _ => 0))), (q20, .inl (cs.2.2, 8, .inl (fun _ => 0))), (q21, .inl (cs.2.2, 8, .inl (fun _ => 0))), (q22, .inl (cs.2.2, 8, .inl (fun _ => 0)))] : va_W) H := V
  refine lv_aload_n hx hb dX13_init_364 rfl (lv_at hl 0 rfl) ?_
  refine lv_bipush (v := 8) hx hb dX13_init_365 (by decide) ?_
  refine miA (K := 8) (t0 := 1) (a0 := (8, .inr (.inl (fun _ => 0)))) C V hS hA tMal rfl rfl (fun _ _ h => h) (fun _ => rfl) (by decide) (by decide) (by decide) ⟨Nat.le_of_ble_eq_true rfl, Nat.le_of_ble_eq_true rfl⟩ dX13_init_367 (fun q23 H V hS => ?_)
  have V : miV D A ([(o, .inr (10, [.int 0, .ref q1, .int 0, .int (-1), .ref q4, .ref q5, .int 0, .int 0, .int 0, .int 0, .int 0, .ref q11, .ref q12, .ref q13, .ref q14, .ref q15, .ref q16, .ref q17, .ref q18, .ref q19, .ref q20, .ref q21, .ref q22, .null, .long 0, .long 0, .int 0, .int 0, .null, .null, .null, .null, .null, .null, .null, .null, .null, .null])), (q1, .inl (cs.1, 1600, .inl (fun _ => 0))), (q4, .inl (cs.2.1, 34, .inr (.inl g4))), (q5, .inl (cs.1, 240, .inl (fun _ => 0))), (q11, .inl (cs.1, 1920, .inl (fun _ => 0))), (q12, .inl (cs.1, 8, .inl (fun _ => 0))), (q13, .inl (cs.1, 8, .inl (fun _ => 0))), (q14, .inl (cs.1, 8, .inl (fun _ => 0))), (q15, .inl (cs.1, 8, .inl (fun _ => 0))), (q16, .inl (cs.1, 8, .inl (fun _ => 0))), (q17, .inl (cs.1, 8, .inl (fun _ => 0))), (q18, .inl (cs.1, 8, .inl (fun _ => 0))), (q19, .inl (cs.1, 8, .inl (fun _ => 0))), (q20, .inl (cs.2.2, 8, .inl (fun _ => 0))), (q21, .inl (cs.2.2, 8, .inl (fun _ => 0))), (q22, .inl (cs.2.2, 8, .inl (fun _ => 0))), (q23, .inl (cs.2.1, 8, .inr (.inl (fun _ => 0))))] : va_W) H := V
  refine miF (v := .ref q23) (ty := .array .long) C V hS 23 (by decide) tMf23 rfl rfl hmn (by decide +kernel) rfl rfl rfl dX13_init_369 (fun H locs V hS => ?_)
  have V : miV D A ([(o, .inr (10, [.int 0, .ref q1, .int 0, .int (-1), .ref q4, .ref q5, .int 0, .int 0, .int 0, .int 0, .int 0, .ref q11, .ref q12, .ref q13, .ref q14, .ref q15, .ref q16, .ref q17, .ref q18, .ref q19, .ref q20, .ref q21, .ref q22, .ref q23, .long 0, .long 0, .int 0, .int 0, .null, .null, .null, .null, .null, .null, .null, .null, .null, .null])), (q1, .inl (cs.1, 1600, .inl (fun _ => 0))), (q4, .inl (cs.2.1, 34, .inr (.inl g4))), (q5, .inl (cs.1, 240, .inl (fun _ => 0))), (q11, .inl (cs.1, 1920, .inl (fun _ => 0))), (q12, .inl (cs.1, 8, .inl (fun _ => 0))), (q13, .inl (cs.1, 8, .inl (fun _ => 0))), (q14, .inl (cs.1, 8, .inl (fun _ => 0))), (q15, .inl (cs.1, 8, .inl (fun _ => 0))), (q16, .inl (cs.1, 8, .inl (fun _ => 0))), (q17, .inl (cs.1, 8, .inl (fun _ => 0))), (q18, .inl (cs.1, 8, .inl (fun _ => 0))), (q19, .inl (cs.1, 8, .inl (fun _ => 0))), (q20, .inl (cs.2.2, 8, .inl (fun _ => 0))), (q21, .inl (cs.2.2, 8, .inl (fun _ => 0))), (q22, .inl (cs.2.2, 8, .inl (fun _ => 0))), (q23, .inl (cs.2.1, 8, .inr (.inl (fun _ => 0))))] : va_W) H := V
  refine lv_aload_n hx hb dX13_init_372 rfl (lv_at hl 0 rfl) ?_
  refine lv_bipush (v := 7) hx hb dX13_init_373 (by decide) ?_
  refine miP (v := .int 7) (ty := .int) C V hS 26 (by decide) tMf26 rfl rfl (by decide +kernel) rfl rfl rfl dX13_init_375 (fun H locs V hS => ?_)
  have V : miV D A ([(o, .inr (10, [.int 0, .ref q1, .int 0, .int (-1), .ref q4, .ref q5, .int 0, .int 0, .int 0, .int 0, .int 0, .ref q11, .ref q12, .ref q13, .ref q14, .ref q15, .ref q16, .ref q17, .ref q18, .ref q19, .ref q20, .ref q21, .ref q22, .ref q23, .long 0, .long 0, .int 7, .int 0, .null, .null, .null, .null, .null, .null, .null, .null, .null, .null])), (q1, .inl (cs.1, 1600, .inl (fun _ => 0))), (q4, .inl (cs.2.1, 34, .inr (.inl g4))), (q5, .inl (cs.1, 240, .inl (fun _ => 0))), (q11, .inl (cs.1, 1920, .inl (fun _ => 0))), (q12, .inl (cs.1, 8, .inl (fun _ => 0))), (q13, .inl (cs.1, 8, .inl (fun _ => 0))), (q14, .inl (cs.1, 8, .inl (fun _ => 0))), (q15, .inl (cs.1, 8, .inl (fun _ => 0))), (q16, .inl (cs.1, 8, .inl (fun _ => 0))), (q17, .inl (cs.1, 8, .inl (fun _ => 0))), (q18, .inl (cs.1, 8, .inl (fun _ => 0))), (q19, .inl (cs.1, 8, .inl (fun _ => 0))), (q20, .inl (cs.2.2, 8, .inl (fun _ => 0))), (q21, .inl (cs.2.2, 8, .inl (fun _ => 0))), (q22, .inl (cs.2.2, 8, .inl (fun _ => 0))), (q23, .inl (cs.2.1, 8, .inr (.inl (fun _ => 0))))] : va_W) H := V
  refine lv_aload_n hx hb dX13_init_378 rfl (lv_at hl 0 rfl) ?_
  refine lv_bipush (v := 24) hx hb dX13_init_379 (by decide) ?_
  refine miA (K := 24) (t0 := 0) (a0 := (24, .inl (fun _ => 0))) C V hS hA tMai rfl rfl (fun _ _ h => h) (fun _ => rfl) (by decide) (by decide) (by decide) ⟨Nat.le_of_ble_eq_true rfl, Nat.le_of_ble_eq_true rfl⟩ dX13_init_381 (fun q28 H V hS => ?_)
  have V : miV D A ([(o, .inr (10, [.int 0, .ref q1, .int 0, .int (-1), .ref q4, .ref q5, .int 0, .int 0, .int 0, .int 0, .int 0, .ref q11, .ref q12, .ref q13, .ref q14, .ref q15, .ref q16, .ref q17, .ref q18, .ref q19, .ref q20, .ref q21, .ref q22, .ref q23, .long 0, .long 0, .int 7, .int 0, .null, .null, .null, .null, .null, .null, .null, .null, .null, .null])), (q1, .inl (cs.1, 1600, .inl (fun _ => 0))), (q4, .inl (cs.2.1, 34, .inr (.inl g4))), (q5, .inl (cs.1, 240, .inl (fun _ => 0))), (q11, .inl (cs.1, 1920, .inl (fun _ => 0))), (q12, .inl (cs.1, 8, .inl (fun _ => 0))), (q13, .inl (cs.1, 8, .inl (fun _ => 0))), (q14, .inl (cs.1, 8, .inl (fun _ => 0))), (q15, .inl (cs.1, 8, .inl (fun _ => 0))), (q16, .inl (cs.1, 8, .inl (fun _ => 0))), (q17, .inl (cs.1, 8, .inl (fun _ => 0))), (q18, .inl (cs.1, 8, .inl (fun _ => 0))), (q19, .inl (cs.1, 8, .inl (fun _ => 0))), (q20, .inl (cs.2.2, 8, .inl (fun _ => 0))), (q21, .inl (cs.2.2, 8, .inl (fun _ => 0))), (q22, .inl (cs.2.2, 8, .inl (fun _ => 0))), (q23, .inl (cs.2.1, 8, .inr (.inl (fun _ => 0)))), (q28, .inl (cs.1, 24, .inl (fun _ => 0)))] : va_W) H := V
  refine miF (v := .ref q28) (ty := .array .int) C V hS 28 (by decide) tMf28 rfl rfl hmn (by decide +kernel) rfl rfl rfl dX13_init_383 (fun H locs V hS => ?_)
  have V : miV D A ([(o, .inr (10, [.int 0, .ref q1, .int 0, .int (-1), .ref q4, .ref q5, .int 0, .int 0, .int 0, .int 0, .int 0, .ref q11, .ref q12, .ref q13, .ref q14, .ref q15, .ref q16, .ref q17, .ref q18, .ref q19, .ref q20, .ref q21, .ref q22, .ref q23, .long 0, .long 0, .int 7, .int 0, .ref q28, .null, .null, .null, .null, .null, .null, .null, .null, .null])), (q1, .inl (cs.1, 1600, .inl (fun _ => 0))), (q4, .inl (cs.2.1, 34, .inr (.inl g4))), (q5, .inl (cs.1, 240, .inl (fun _ => 0))), (q11, .inl (cs.1, 1920, .inl (fun _ => 0))), (q12, .inl (cs.1, 8, .inl (fun _ => 0))), (q13, .inl (cs.1, 8, .inl (fun _ => 0))), (q14, .inl (cs.1, 8, .inl (fun _ => 0))), (q15, .inl (cs.1, 8, .inl (fun _ => 0))), (q16, .inl (cs.1, 8, .inl (fun _ => 0))), (q17, .inl (cs.1, 8, .inl (fun _ => 0))), (q18, .inl (cs.1, 8, .inl (fun _ => 0))), (q19, .inl (cs.1, 8, .inl (fun _ => 0))), (q20, .inl (cs.2.2, 8, .inl (fun _ => 0))), (q21, .inl (cs.2.2, 8, .inl (fun _ => 0))), (q22, .inl (cs.2.2, 8, .inl (fun _ => 0))), (q23, .inl (cs.2.1, 8, .inr (.inl (fun _ => 0)))), (q28, .inl (cs.1, 24, .inl (fun _ => 0)))] : va_W) H := V
  refine lv_aload_n hx hb dX13_init_386 rfl (lv_at hl 0 rfl) ?_
  refine lv_bipush (v := 24) hx hb dX13_init_387 (by decide) ?_
  refine miA (K := 24) (t0 := 0) (a0 := (24, .inl (fun _ => 0))) C V hS hA tMai rfl rfl (fun _ _ h => h) (fun _ => rfl) (by decide) (by decide) (by decide) ⟨Nat.le_of_ble_eq_true rfl, Nat.le_of_ble_eq_true rfl⟩ dX13_init_389 (fun q29 H V hS => ?_)
  have V : miV D A ([(o, .inr (10, [.int 0, .ref q1, .int 0, .int (-1), .ref q4, .ref q5, .int 0, .int 0, .int 0, .int 0, .int 0, .ref q11, .ref q12, .ref q13, .ref q14, .ref q15, .ref q16, .ref q17, .ref q18, .ref q19, .ref q20, .ref q21, .ref q22, .ref q23, .long 0, .long 0, .int 7, .int 0, .ref q28, .null, .null, .null, .null, .null, .null, .null, .null, .null])), (q1, .inl (cs.1, 1600, .inl (fun _ => 0))), (q4, .inl (cs.2.1, 34, .inr (.inl g4))), (q5, .inl (cs.1, 240, .inl (fun _ => 0))), (q11, .inl (cs.1, 1920, .inl (fun _ => 0))), (q12, .inl (cs.1, 8, .inl (fun _ => 0))), (q13, .inl (cs.1, 8, .inl (fun _ => 0))), (q14, .inl (cs.1, 8, .inl (fun _ => 0))), (q15, .inl (cs.1, 8, .inl (fun _ => 0))), (q16, .inl (cs.1, 8, .inl (fun _ => 0))), (q17, .inl (cs.1, 8, .inl (fun _ => 0))), (q18, .inl (cs.1, 8, .inl (fun _ => 0))), (q19, .inl (cs.1, 8, .inl (fun _ => 0))), (q20, .inl (cs.2.2, 8, .inl (fun _ => 0))), (q21, .inl (cs.2.2, 8, .inl (fun _ => 0))), (q22, .inl (cs.2.2, 8, .inl (fun _ => 0))), (q23, .inl (cs.2.1, 8, .inr (.inl (fun _ => 0)))), (q28, .inl (cs.1, 24, .inl (fun _ => 0))), (q29, .inl (cs.1, 24, .inl (fun _ => 0)))] : va_W) H := V
  refine miF (v := .ref q29) (ty := .array .int) C V hS 29 (by decide) tMf29 rfl rfl hmn (by decide +kernel) rfl rfl rfl dX13_init_391 (fun H locs V hS => ?_)
  have V : miV D A ([(o, .inr (10, [.int 0, .ref q1, .int 0, .int (-1), .ref q4, .ref q5, .int 0, .int 0, .int 0, .int 0, .int 0, .ref q11, .ref q12, .ref q13, .ref q14, .ref q15, .ref q16, .ref q17, .ref q18, .ref q19, .ref q20, .ref q21, .ref q22, .ref q23, .long 0, .long 0, .int 7, .int 0, .ref q28, .ref q29, .null, .null, .null, .null, .null, .null, .null, .null])), (q1, .inl (cs.1, 1600, .inl (fun _ => 0))), (q4, .inl (cs.2.1, 34, .inr (.inl g4))), (q5, .inl (cs.1, 240, .inl (fun _ => 0))), (q11, .inl (cs.1, 1920, .inl (fun _ => 0))), (q12, .inl (cs.1, 8, .inl (fun _ => 0))), (q13, .inl (cs.1, 8, .inl (fun _ => 0))), (q14, .inl (cs.1, 8, .inl (fun _ => 0))), (q15, .inl (cs.1, 8, .inl (fun _ => 0))), (q16, .inl (cs.1, 8, .inl (fun _ => 0))), (q17, .inl (cs.1, 8, .inl (fun _ => 0))), (q18, .inl (cs.1, 8, .inl (fun _ => 0))), (q19, .inl (cs.1, 8, .inl (fun _ => 0))), (q20, .inl (cs.2.2, 8, .inl (fun _ => 0))), (q21, .inl (cs.2.2, 8, .inl (fun _ => 0))), (q22, .inl (cs.2.2, 8, .inl (fun _ => 0))), (q23, .inl (cs.2.1, 8, .inr (.inl (fun _ => 0)))), (q28, .inl (cs.1, 24, .inl (fun _ => 0))), (q29, .inl (cs.1, 24, .inl (fun _ => 0)))] : va_W) H := V
  refine lv_aload_n hx hb dX13_init_394 rfl (lv_at hl 0 rfl) ?_
  refine lv_bipush (v := 24) hx hb dX13_init_395 (by decide) ?_
  refine miA (K := 24) (t0 := 0) (a0 := (24, .inl (fun _ => 0))) C V hS hA tMai rfl rfl (fun _ _ h => h) (fun _ => rfl) (by decide) (by decide) (by decide) ⟨Nat.le_of_ble_eq_true rfl, Nat.le_of_ble_eq_true rfl⟩ dX13_init_397 (fun q30 H V hS => ?_)
  have V : miV D A ([(o, .inr (10, [.int 0, .ref q1, .int 0, .int (-1), .ref q4, .ref q5, .int 0, .int 0, .int 0, .int 0, .int 0, .ref q11, .ref q12, .ref q13, .ref q14, .ref q15, .ref q16, .ref q17, .ref q18, .ref q19, .ref q20, .ref q21, .ref q22, .ref q23, .long 0, .long 0, .int 7, .int 0, .ref q28, .ref q29, .null, .null, .null, .null, .null, .null, .null, .null])), (q1, .inl (cs.1, 1600, .inl (fun _ => 0))), (q4, .inl (cs.2.1, 34, .inr (.inl g4))), (q5, .inl (cs.1, 240, .inl (fun _ => 0))), (q11, .inl (cs.1, 1920, .inl (fun _ => 0))), (q12, .inl (cs.1, 8, .inl (fun _ => 0))), (q13, .inl (cs.1, 8, .inl (fun _ => 0))), (q14, .inl (cs.1, 8, .inl (fun _ => 0))), (q15, .inl (cs.1, 8, .inl (fun _ => 0))), (q16, .inl (cs.1, 8, .inl (fun _ => 0))), (q17, .inl (cs.1, 8, .inl (fun _ => 0))), (q18, .inl (cs.1, 8, .inl (fun _ => 0))), (q19, .inl (cs.1, 8, .inl (fun _ => 0))), (q20, .inl (cs.2.2, 8, .inl (fun _ => 0))), (q21, .inl (cs.2.2, 8, .inl (fun _ => 0))), (q22, .inl (cs.2.2, 8, .inl (fun _ => 0))), (q23, .inl (cs.2.1, 8, .inr (.inl (fun _ => 0)))), (q28, .inl (cs.1, 24, .inl (fun _ => 0))), (q29, .inl (cs.1, 24, .inl (fun _ => 0))), (q30, .inl (cs.1, 24, .inl (fun _ => 0)))] : va_W) H := V
  refine miF (v := .ref q30) (ty := .array .int) C V hS 30 (by decide) tMf30 rfl rfl hmn (by decide +kernel) rfl rfl rfl dX13_init_399 (fun H locs V hS => ?_)
  have V : miV D A ([(o, .inr (10, [.int 0, .ref q1, .int 0, .int (-1), .ref q4, .ref q5, .int 0, .int 0, .int 0, .int 0, .int 0, .ref q11, .ref q12, .ref q13, .ref q14, .ref q15, .ref q16, .ref q17, .ref q18, .ref q19, .ref q20, .ref q21, .ref q22, .ref q23, .long 0, .long 0, .int 7, .int 0, .ref q28, .ref q29, .ref q30, .null, .null, .null, .null, .null, .null, .null])), (q1, .inl (cs.1, 1600, .inl (fun _ => 0))), (q4, .inl (cs.2.1, 34, .inr (.inl g4))), (q5, .inl (cs.1, 240, .inl (fun _ => 0))), (q11, .inl (cs.1, 1920, .inl (fun _ => 0))), (q12, .inl (cs.1, 8, .inl (fun _ => 0))), (q13, .inl (cs.1, 8, .inl (fun _ => 0))), (q14, .inl (cs.1, 8, .inl (fun _ => 0))), (q15, .inl (cs.1, 8, .inl (fun _ => 0))), (q16, .inl (cs.1, 8, .inl (fun _ => 0))), (q17, .inl (cs.1, 8, .inl (fun _ => 0))), (q18, .inl (cs.1, 8, .inl (fun _ => 0))), (q19, .inl (cs.1, 8, .inl (fun _ => 0))), (q20, .inl (cs.2.2, 8, .inl (fun _ => 0))), (q21, .inl (cs.2.2, 8, .inl (fun _ => 0))), (q22, .inl (cs.2.2, 8, .inl (fun _ => 0))), (q23, .inl (cs.2.1, 8, .inr (.inl (fun _ => 0)))), (q28, .inl (cs.1, 24, .inl (fun _ => 0))), (q29, .inl (cs.1, 24, .inl (fun _ => 0))), (q30, .inl (cs.1, 24, .inl (fun _ => 0)))] : va_W) H := V
  refine lv_aload_n hx hb dX13_init_402 rfl (lv_at hl 0 rfl) ?_
  refine lv_bipush (v := 24) hx hb dX13_init_403 (by decide) ?_
  refine miA (K := 24) (t0 := 0) (a0 := (24, .inl (fun _ => 0))) C V hS hA tMai rfl rfl (fun _ _ h => h) (fun _ => rfl) (by decide) (by decide) (by decide) ⟨Nat.le_of_ble_eq_true rfl, Nat.le_of_ble_eq_true rfl⟩ dX13_init_405 (fun q31 H V hS => ?_)
  have V : miV D A ([(o, .inr (10, [.int 0, .ref q1, .int 0, .int (-1), .ref q4, .ref q5, .int 0, .int 0, .int 0, .int 0, .int 0, .ref q11, .ref q12, .ref q13, .ref q14, .ref q15, .ref q16, .ref q17, .ref q18, .ref q19, .ref q20, .ref q21, .ref q22, .ref q23, .long 0, .long 0, .int 7, .int 0, .ref q28, .ref q29, .ref q30, .null, .null, .null, .null, .null, .null, .null])), (q1, .inl (cs.1, 1600, .inl (fun _ => 0))), (q4, .inl (cs.2.1, 34, .inr (.inl g4))), (q5, .inl (cs.1, 240, .inl (fun _ => 0))), (q11, .inl (cs.1, 1920, .inl (fun _ => 0))), (q12, .inl (cs.1, 8, .inl (fun _ => 0))), (q13, .inl (cs.1, 8, .inl (fun _ => 0))), (q14, .inl (cs.1, 8, .inl (fun _ => 0))), (q15, .inl (cs.1, 8, .inl (fun _ => 0))), (q16, .inl (cs.1, 8, .inl (fun _ => 0))), (q17, .inl (cs.1, 8, .inl (fun _ => 0))), (q18, .inl (cs.1, 8, .inl (fun _ => 0))), (q19, .inl (cs.1, 8, .inl (fun _ => 0))), (q20, .inl (cs.2.2, 8, .inl (fun _ => 0))), (q21, .inl (cs.2.2, 8, .inl (fun _ => 0))), (q22, .inl (cs.2.2, 8, .inl (fun _ => 0))), (q23, .inl (cs.2.1, 8, .inr (.inl (fun _ => 0)))), (q28, .inl (cs.1, 24, .inl (fun _ => 0))), (q29, .inl (cs.1, 24, .inl (fun _ => 0))), (q30, .inl (cs.1, 24, .inl (fun _ => 0))), (q31, .inl (cs.1, 24, .inl (fun _ => 0)))] : va_W) H := V
  refine miF (v := .ref q31) (ty := .array .int) C V hS 31 (by decide) tMf31 rfl rfl hmn (by decide +kernel) rfl rfl rfl dX13_init_407 (fun H locs V hS => ?_)
  have V : miV D A ([(o, .inr (10, [.int 0, .ref q1, .int 0, .int (-1), .ref q4, .ref q5, .int 0, .int 0, .int 0, .int 0, .int 0, .ref q11, .ref q12, .ref q13, .ref q14, .ref q15, .ref q16, .ref q17, .ref q18, .ref q19, .ref q20, .ref q21, .ref q22, .ref q23, .long 0, .long 0, .int 7, .int 0, .ref q28, .ref q29, .ref q30, .ref q31, .null, .null, .null, .null, .null, .null])), (q1, .inl (cs.1, 1600, .inl (fun _ => 0))), (q4, .inl (cs.2.1, 34, .inr (.inl g4))), (q5, .inl (cs.1, 240, .inl (fun _ => 0))), (q11, .inl (cs.1, 1920, .inl (fun _ => 0))), (q12, .inl (cs.1, 8, .inl (fun _ => 0))), (q13, .inl (cs.1, 8, .inl (fun _ => 0))), (q14, .inl (cs.1, 8, .inl (fun _ => 0))), (q15, .inl (cs.1, 8, .inl (fun _ => 0))), (q16, .inl (cs.1, 8, .inl (fun _ => 0))), (q17, .inl (cs.1, 8, .inl (fun _ => 0))), (q18, .inl (cs.1, 8, .inl (fun _ => 0))), (q19, .inl (cs.1, 8, .inl (fun _ => 0))), (q20, .inl (cs.2.2, 8, .inl (fun _ => 0))), (q21, .inl (cs.2.2, 8, .inl (fun _ => 0))), (q22, .inl (cs.2.2, 8, .inl (fun _ => 0))), (q23, .inl (cs.2.1, 8, .inr (.inl (fun _ => 0)))), (q28, .inl (cs.1, 24, .inl (fun _ => 0))), (q29, .inl (cs.1, 24, .inl (fun _ => 0))), (q30, .inl (cs.1, 24, .inl (fun _ => 0))), (q31, .inl (cs.1, 24, .inl (fun _ => 0)))] : va_W) H := V
  refine lv_aload_n hx hb dX13_init_410 rfl (lv_at hl 0 rfl) ?_
  refine lv_sipush (v := 192) hx hb dX13_init_411 (by decide) ?_
  refine miA (K := 192) (t0 := 0) (a0 := (192, .inl (fun _ => 0))) C V hS hA tMai rfl rfl (fun _ _ h => h) (fun _ => rfl) (by decide) (by decide) (by decide) ⟨Nat.le_of_ble_eq_true rfl, Nat.le_of_ble_eq_true rfl⟩ dX13_init_414 (fun q32 H V hS => ?_)
  have V : miV D A ([(o, .inr (10, [.int 0, .ref q1, .int 0, .int (-1), .ref q4, .ref q5, .int 0, .int 0, .int 0, .int 0, .int 0, .ref q11, .ref q12, .ref q13, .ref q14, .ref q15, .ref q16, .ref q17, .ref q18, .ref q19, .ref q20, .ref q21, .ref q22, .ref q23, .long 0, .long 0, .int 7, .int 0, .ref q28, .ref q29, .ref q30, .ref q31, .null, .null, .null, .null, .null, .null])), (q1, .inl (cs.1, 1600, .inl (fun _ => 0))), (q4, .inl (cs.2.1, 34, .inr (.inl g4))), (q5, .inl (cs.1, 240, .inl (fun _ => 0))), (q11, .inl (cs.1, 1920, .inl (fun _ => 0))), (q12, .inl (cs.1, 8, .inl (fun _ => 0))), (q13, .inl (cs.1, 8, .inl (fun _ => 0))), (q14, .inl (cs.1, 8, .inl (fun _ => 0))), (q15, .inl (cs.1, 8, .inl (fun _ => 0))), (q16, .inl (cs.1, 8, .inl (fun _ => 0))), (q17, .inl (cs.1, 8, .inl (fun _ => 0))), (q18, .inl (cs.1, 8, .inl (fun _ => 0))), (q19, .inl (cs.1, 8, .inl (fun _ => 0))), (q20, .inl (cs.2.2, 8, .inl (fun _ => 0))), (q21, .inl (cs.2.2, 8, .inl (fun _ => 0))), (q22, .inl (cs.2.2, 8, .inl (fun _ => 0))), (q23, .inl (cs.2.1, 8, .inr (.inl (fun _ => 0)))), (q28, .inl (cs.1, 24, .inl (fun _ => 0))), (q29, .inl (cs.1, 24, .inl (fun _ => 0))), (q30, .inl (cs.1, 24, .inl (fun _ => 0))), (q31, .inl (cs.1, 24, .inl (fun _ => 0))), (q32, .inl (cs.1, 192, .inl (fun _ => 0)))] : va_W) H := V
  refine miF (v := .ref q32) (ty := .array .int) C V hS 32 (by decide) tMf32 rfl rfl hmn (by decide +kernel) rfl rfl rfl dX13_init_416 (fun H locs V hS => ?_)
  have V : miV D A ([(o, .inr (10, [.int 0, .ref q1, .int 0, .int (-1), .ref q4, .ref q5, .int 0, .int 0, .int 0, .int 0, .int 0, .ref q11, .ref q12, .ref q13, .ref q14, .ref q15, .ref q16, .ref q17, .ref q18, .ref q19, .ref q20, .ref q21, .ref q22, .ref q23, .long 0, .long 0, .int 7, .int 0, .ref q28, .ref q29, .ref q30, .ref q31, .ref q32, .null, .null, .null, .null, .null])), (q1, .inl (cs.1, 1600, .inl (fun _ => 0))), (q4, .inl (cs.2.1, 34, .inr (.inl g4))), (q5, .inl (cs.1, 240, .inl (fun _ => 0))), (q11, .inl (cs.1, 1920, .inl (fun _ => 0))), (q12, .inl (cs.1, 8, .inl (fun _ => 0))), (q13, .inl (cs.1, 8, .inl (fun _ => 0))), (q14, .inl (cs.1, 8, .inl (fun _ => 0))), (q15, .inl (cs.1, 8, .inl (fun _ => 0))), (q16, .inl (cs.1, 8, .inl (fun _ => 0))), (q17, .inl (cs.1, 8, .inl (fun _ => 0))), (q18, .inl (cs.1, 8, .inl (fun _ => 0))), (q19, .inl (cs.1, 8, .inl (fun _ => 0))), (q20, .inl (cs.2.2, 8, .inl (fun _ => 0))), (q21, .inl (cs.2.2, 8, .inl (fun _ => 0))), (q22, .inl (cs.2.2, 8, .inl (fun _ => 0))), (q23, .inl (cs.2.1, 8, .inr (.inl (fun _ => 0)))), (q28, .inl (cs.1, 24, .inl (fun _ => 0))), (q29, .inl (cs.1, 24, .inl (fun _ => 0))), (q30, .inl (cs.1, 24, .inl (fun _ => 0))), (q31, .inl (cs.1, 24, .inl (fun _ => 0))), (q32, .inl (cs.1, 192, .inl (fun _ => 0)))] : va_W) H := V
  refine lv_aload_n hx hb dX13_init_419 rfl (lv_at hl 0 rfl) ?_
  refine lv_bipush (v := 24) hx hb dX13_init_420 (by decide) ?_
  refine miA (K := 24) (t0 := 0) (a0 := (24, .inl (fun _ => 0))) C V hS hA tMai rfl rfl (fun _ _ h => h) (fun _ => rfl) (by decide) (by decide) (by decide) ⟨Nat.le_of_ble_eq_true rfl, Nat.le_of_ble_eq_true rfl⟩ dX13_init_422 (fun q33 H V hS => ?_)
  have V : miV D A ([(o, .inr (10, [.int 0, .ref q1, .int 0, .int (-1), .ref q4, .ref q5, .int 0, .int 0, .int 0, .int 0, .int 0, .ref q11, .ref q12, .ref q13, .ref q14, .ref q15, .ref q16, .ref q17, .ref q18, .ref q19, .ref q20, .ref q21, .ref q22, .ref q23, .long 0, .long 0, .int 7, .int 0, .ref q28, .ref q29, .ref q30, .ref q31, .ref q32, .null, .null, .null, .null, .null])), (q1, .inl (cs.1, 1600, .inl (fun _ => 0))), (q4, .inl (cs.2.1, 34, .inr (.inl g4))), (q5, .inl (cs.1, 240, .inl (fun _ => 0))), (q11, .inl (cs.1, 1920, .inl (fun _ => 0))), (q12, .inl (cs.1, 8, .inl (fun _ => 0))), (q13, .inl (cs.1, 8, .inl (fun _ => 0))), (q14, .inl (cs.1, 8, .inl (fun _ => 0))), (q15, .inl (cs.1, 8, .inl (fun _ => 0))), (q16, .inl (cs.1, 8, .inl (fun _ => 0))), (q17, .inl (cs.1, 8, .inl (fun _ => 0))), (q18, .inl (cs.1, 8, .inl (fun _ => 0))), (q19, .inl (cs.1, 8, .inl (fun _ => 0))), (q20, .inl (cs.2.2, 8, .inl (fun _ => 0))), (q21, .inl (cs.2.2, 8, .inl (fun _ => 0))), (q22, .inl (cs.2.2, 8, .inl (fun _ => 0))), (q23, .inl (cs.2.1, 8, .inr (.inl (fun _ => 0)))), (q28, .inl (cs.1, 24, .inl (fun _ => 0))), (q29, .inl (cs.1, 24, .inl (fun _ => 0))), (q30, .inl (cs.1, 24, .inl (fun _ => 0))), (q31, .inl (cs.1, 24, .inl (fun _ => 0))), (q32, .inl (cs.1, 192, .inl (fun _ => 0))), (q33, .inl (cs.1, 24, .inl (fun _ => 0)))] : va_W) H := V
  refine miF (v := .ref q33) (ty := .array .int) C V hS 33 (by decide) tMf33 rfl rfl hmn (by decide +kernel) rfl rfl rfl dX13_init_424 (fun H locs V hS => ?_)
  have V : miV D A ([(o, .inr (10, [.int 0, .ref q1, .int 0, .int (-1), .ref q4, .ref q5, .int 0, .int 0, .int 0, .int 0, .int 0, .ref q11, .ref q12, .ref q13, .ref q14, .ref q15, .ref q16, .ref q17, .ref q18, .ref q19, .ref q20, .ref q21, .ref q22, .ref q23, .long 0, .long 0, .int 7, .int 0, .ref q28, .ref q29, .ref q30, .ref q31, .ref q32, .ref q33, .null, .null, .null, .null])), (q1, .inl (cs.1, 1600, .inl (fun _ => 0))), (q4, .inl (cs.2.1, 34, .inr (.inl g4))), (q5, .inl (cs.1, 240, .inl (fun _ => 0))), (q11, .inl (cs.1, 1920, .inl (fun _ => 0))), (q12, .inl (cs.1, 8, .inl (fun _ => 0))), (q13, .inl (cs.1, 8, .inl (fun _ => 0))), (q14, .inl (cs.1, 8, .inl (fun _ => 0))), (q15, .inl (cs.1, 8, .inl (fun _ => 0))), (q16, .inl (cs.1, 8, .inl (fun _ => 0))), (q17, .inl (cs.1, 8, .inl (fun _ => 0))), (q18, .inl (cs.1, 8, .inl (fun _ => 0))), (q19, .inl (cs.1, 8, .inl (fun _ => 0))), (q20, .inl (cs.2.2, 8, .inl (fun _ => 0))), (q21, .inl (cs.2.2, 8, .inl (fun _ => 0))), (q22, .inl (cs.2.2, 8, .inl (fun _ => 0))), (q23, .inl (cs.2.1, 8, .inr (.inl (fun _ => 0)))), (q28, .inl (cs.1, 24, .inl (fun _ => 0))), (q29, .inl (cs.1, 24, .inl (fun _ => 0))), (q30, .inl (cs.1, 24, .inl (fun _ => 0))), (q31, .inl (cs.1, 24, .inl (fun _ => 0))), (q32, .inl (cs.1, 192, .inl (fun _ => 0))), (q33, .inl (cs.1, 24, .inl (fun _ => 0)))] : va_W) H := V
  refine lv_aload_n hx hb dX13_init_427 rfl (lv_at hl 0 rfl) ?_
  refine lv_sipush (v := 192) hx hb dX13_init_428 (by decide) ?_
  refine miA (K := 192) (t0 := 0) (a0 := (192, .inl (fun _ => 0))) C V hS hA tMai rfl rfl (fun _ _ h => h) (fun _ => rfl) (by decide) (by decide) (by decide) ⟨Nat.le_of_ble_eq_true rfl, Nat.le_of_ble_eq_true rfl⟩ dX13_init_431 (fun q34 H V hS => ?_)
  have V : miV D A ([(o, .inr (10, [.int 0, .ref q1, .int 0, .int (-1), .ref q4, .ref q5, .int 0, .int 0, .int 0, .int 0, .int 0, .ref q11, .ref q12, .ref q13, .ref q14, .ref q15, .ref q16, .ref q17, .ref q18, .ref q19, .ref q20, .ref q21, .ref q22, .ref q23, .long 0, .long 0, .int 7, .int 0, .ref q28, .ref q29, .ref q30, .ref q31, .ref q32, .ref q33, .null, .null, .null, .null])), (q1, .inl (cs.1, 1600, .inl (fun _ => 0))), (q4, .inl (cs.2.1, 34, .inr (.inl g4))), (q5, .inl (cs.1, 240, .inl (fun _ => 0))), (q11, .inl (cs.1, 1920, .inl (fun _ => 0))), (q12, .inl (cs.1, 8, .inl (fun _ => 0))), (q13, .inl (cs.1, 8, .inl (fun _ => 0))), (q14, .inl (cs.1, 8, .inl (fun _ => 0))), (q15, .inl (cs.1, 8, .inl (fun _ => 0))), (q16, .inl (cs.1, 8, .inl (fun _ => 0))), (q17, .inl (cs.1, 8, .inl (fun _ => 0))), (q18, .inl (cs.1, 8, .inl (fun _ => 0))), (q19, .inl (cs.1, 8, .inl (fun _ => 0))), (q20, .inl (cs.2.2, 8, .inl (fun _ => 0))), (q21, .inl (cs.2.2, 8, .inl (fun _ => 0))), (q22, .inl (cs.2.2, 8, .inl (fun _ => 0))), (q23, .inl (cs.2.1, 8, .inr (.inl (fun _ => 0)))), (q28, .inl (cs.1, 24, .inl (fun _ => 0))), (q29, .inl (cs.1, 24, .inl (fun _ => 0))), (q30, .inl (cs.1, 24, .inl (fun _ => 0))), (q31, .inl (cs.1, 24, .inl (fun _ => 0))), (q32, .inl (cs.1, 192, .inl (fun _ => 0))), (q33, .inl (cs.1, 24, .inl (fun _ => 0))), (q34, .inl (cs.1, 192, .inl (fun _ => 0)))] : va_W) H := V
  refine miF (v := .ref q34) (ty := .array .int) C V hS 34 (by decide) tMf34 rfl rfl hmn (by decide +kernel) rfl rfl rfl dX13_init_433 (fun H locs V hS => ?_)
  have V : miV D A ([(o, .inr (10, [.int 0, .ref q1, .int 0, .int (-1), .ref q4, .ref q5, .int 0, .int 0, .int 0, .int 0, .int 0, .ref q11, .ref q12, .ref q13, .ref q14, .ref q15, .ref q16, .ref q17, .ref q18, .ref q19, .ref q20, .ref q21, .ref q22, .ref q23, .long 0, .long 0, .int 7, .int 0, .ref q28, .ref q29, .ref q30, .ref q31, .ref q32, .ref q33, .ref q34, .null, .null, .null])), (q1, .inl (cs.1, 1600, .inl (fun _ => 0))), (q4, .inl (cs.2.1, 34, .inr (.inl g4))), (q5, .inl (cs.1, 240, .inl (fun _ => 0))), (q11, .inl (cs.1, 1920, .inl (fun _ => 0))), (q12, .inl (cs.1, 8, .inl (fun _ => 0))), (q13, .inl (cs.1, 8, .inl (fun _ => 0))), (q14, .inl (cs.1, 8, .inl (fun _ => 0))), (q15, .inl (cs.1, 8, .inl (fun _ => 0))), (q16, .inl (cs.1, 8, .inl (fun _ => 0))), (q17, .inl (cs.1, 8, .inl (fun _ => 0))), (q18, .inl (cs.1, 8, .inl (fun _ => 0))), (q19, .inl (cs.1, 8, .inl (fun _ => 0))), (q20, .inl (cs.2.2, 8, .inl (fun _ => 0))), (q21, .inl (cs.2.2, 8, .inl (fun _ => 0))), (q22, .inl (cs.2.2, 8, .inl (fun _ => 0))), (q23, .inl (cs.2.1, 8, .inr (.inl (fun _ => 0)))), (q28, .inl (cs.1, 24, .inl (fun _ => 0))), (q29, .inl (cs.1, 24, .inl (fun _ => 0))), (q30, .inl (cs.1, 24, .inl (fun _ => 0))), (q31, .inl (cs.1, 24, .inl (fun _ => 0))), (q32, .inl (cs.1, 192, .inl (fun _ => 0))), (q33, .inl (cs.1, 24, .inl (fun _ => 0))), (q34, .inl (cs.1, 192, .inl (fun _ => 0)))] : va_W) H := V
  refine lv_aload_n hx hb dX13_init_436 rfl (lv_at hl 0 rfl) ?_
  refine lv_bipush (v := 24) hx hb dX13_init_437 (by decide) ?_
  refine miA (K := 24) (t0 := 0) (a0 := (24, .inl (fun _ => 0))) C V hS hA tMai rfl rfl (fun _ _ h => h) (fun _ => rfl) (by decide) (by decide) (by decide) ⟨Nat.le_of_ble_eq_true rfl, Nat.le_of_ble_eq_true rfl⟩ dX13_init_439 (fun q35 H V hS => ?_)
  have V : miV D A ([(o, .inr (10, [.int 0, .ref q1, .int 0, .int (-1), .ref q4, .ref q5, .int 0, .int 0, .int 0, .int 0, .int 0, .ref q11, .ref q12, .ref q13, .ref q14, .ref q15, .ref q16, .ref q17, .ref q18, .ref q19, .ref q20, .ref q21, .ref q22, .ref q23, .long 0, .long 0, .int 7, .int 0, .ref q28, .ref q29, .ref q30, .ref q31, .ref q32, .ref q33, .ref q34, .null, .null, .null])), (q1, .inl (cs.1, 1600, .inl (fun _ => 0))), (q4, .inl (cs.2.1, 34, .inr (.inl g4))), (q5, .inl (cs.1, 240, .inl (fun _ => 0))), (q11, .inl (cs.1, 1920, .inl (fun _ => 0))), (q12, .inl (cs.1, 8, .inl (fun _ => 0))), (q13, .inl (cs.1, 8, .inl (fun _ => 0))), (q14, .inl (cs.1, 8, .inl (fun _ => 0))), (q15, .inl (cs.1, 8, .inl (fun _ => 0))), (q16, .inl (cs.1, 8, .inl (fun _ => 0))), (q17, .inl (cs.1, 8, .inl (fun _ => 0))), (q18, .inl (cs.1, 8, .inl (fun _ => 0))), (q19, .inl (cs.1, 8, .inl (fun _ => 0))), (q20, .inl (cs.2.2, 8, .inl (fun _ => 0))), (q21, .inl (cs.2.2, 8, .inl (fun _ => 0))), (q22, .inl (cs.2.2, 8, .inl (fun _ => 0))), (q23, .inl (cs.2.1, 8, .inr (.inl (fun _ => 0)))), (q28, .inl (cs.1, 24, .inl (fun _ => 0))), (q29, .inl (cs.1, 24, .inl (fun _ => 0))), (q30, .inl (cs.1, 24, .inl (fun _ => 0))), (q31, .inl (cs.1, 24, .inl (fun _ => 0))), (q32, .inl (cs.1, 192, .inl (fun _ => 0))), (q33, .inl (cs.1, 24, .inl (fun _ => 0))), (q34, .inl (cs.1, 192, .inl (fun _ => 0))), (q35, .inl (cs.1, 24, .inl (fun _ => 0)))] : va_W) H := V
  refine miF (v := .ref q35) (ty := .array .int) C V hS 35 (by decide) tMf35 rfl rfl hmn (by decide +kernel) rfl rfl rfl dX13_init_441 (fun H locs V hS => ?_)
  have V : miV D A ([(o, .inr (10, [.int 0, .ref q1, .int 0, .int (-1), .ref q4, .ref q5, .int 0, .int 0, .int 0, .int 0, .int 0, .ref q11, .ref q12, .ref q13, .ref q14, .ref q15, .ref q16, .ref q17, .ref q18, .ref q19, .ref q20, .ref q21, .ref q22, .ref q23, .long 0, .long 0, .int 7, .int 0, .ref q28, .ref q29, .ref q30, .ref q31, .ref q32, .ref q33, .ref q34, .ref q35, .null, .null])), (q1, .inl (cs.1, 1600, .inl (fun _ => 0))), (q4, .inl (cs.2.1, 34, .inr (.inl g4))), (q5, .inl (cs.1, 240, .inl (fun _ => 0))), (q11, .inl (cs.1, 1920, .inl (fun _ => 0))), (q12, .inl (cs.1, 8, .inl (fun _ => 0))), (q13, .inl (cs.1, 8, .inl (fun _ => 0))), (q14, .inl (cs.1, 8, .inl (fun _ => 0))), (q15, .inl (cs.1, 8, .inl (fun _ => 0))), (q16, .inl (cs.1, 8, .inl (fun _ => 0))), (q17, .inl (cs.1, 8, .inl (fun _ => 0))), (q18, .inl (cs.1, 8, .inl (fun _ => 0))), (q19, .inl (cs.1, 8, .inl (fun _ => 0))), (q20, .inl (cs.2.2, 8, .inl (fun _ => 0))), (q21, .inl (cs.2.2, 8, .inl (fun _ => 0))), (q22, .inl (cs.2.2, 8, .inl (fun _ => 0))), (q23, .inl (cs.2.1, 8, .inr (.inl (fun _ => 0)))), (q28, .inl (cs.1, 24, .inl (fun _ => 0))), (q29, .inl (cs.1, 24, .inl (fun _ => 0))), (q30, .inl (cs.1, 24, .inl (fun _ => 0))), (q31, .inl (cs.1, 24, .inl (fun _ => 0))), (q32, .inl (cs.1, 192, .inl (fun _ => 0))), (q33, .inl (cs.1, 24, .inl (fun _ => 0))), (q34, .inl (cs.1, 192, .inl (fun _ => 0))), (q35, .inl (cs.1, 24, .inl (fun _ => 0)))] : va_W) H := V
  refine lv_aload_n hx hb dX13_init_444 rfl (lv_at hl 0 rfl) ?_
  refine lv_sipush (v := 2400) hx hb dX13_init_445 (by decide) ?_
  refine miA (K := 2400) (t0 := 0) (a0 := (2400, .inl (fun _ => 0))) C V hS hA tMai rfl rfl (fun _ _ h => h) (fun _ => rfl) (by decide) (by decide) (by decide) ⟨Nat.le_of_ble_eq_true rfl, Nat.le_of_ble_eq_true rfl⟩ dX13_init_448 (fun q36 H V hS => ?_)
  have V : miV D A ([(o, .inr (10, [.int 0, .ref q1, .int 0, .int (-1), .ref q4, .ref q5, .int 0, .int 0, .int 0, .int 0, .int 0, .ref q11, .ref q12, .ref q13, .ref q14, .ref q15, .ref q16, .ref q17, .ref q18, .ref q19, .ref q20, .ref q21, .ref q22, .ref q23, .long 0, .long 0, .int 7, .int 0, .ref q28, .ref q29, .ref q30, .ref q31, .ref q32, .ref q33, .ref q34, .ref q35, .null, .null])), (q1, .inl (cs.1, 1600, .inl (fun _ => 0))), (q4, .inl (cs.2.1, 34, .inr (.inl g4))), (q5, .inl (cs.1, 240, .inl (fun _ => 0))), (q11, .inl (cs.1, 1920, .inl (fun _ => 0))), (q12, .inl (cs.1, 8, .inl (fun _ => 0))), (q13, .inl (cs.1, 8, .inl (fun _ => 0))), (q14, .inl (cs.1, 8, .inl (fun _ => 0))), (q15, .inl (cs.1, 8, .inl (fun _ => 0))), (q16, .inl (cs.1, 8, .inl (fun _ => 0))), (q17, .inl (cs.1, 8, .inl (fun _ => 0))), (q18, .inl (cs.1, 8, .inl (fun _ => 0))), (q19, .inl (cs.1, 8, .inl (fun _ => 0))), (q20, .inl (cs.2.2, 8, .inl (fun _ => 0))), (q21, .inl (cs.2.2, 8, .inl (fun _ => 0))), (q22, .inl (cs.2.2, 8, .inl (fun _ => 0))), (q23, .inl (cs.2.1, 8, .inr (.inl (fun _ => 0)))), (q28, .inl (cs.1, 24, .inl (fun _ => 0))), (q29, .inl (cs.1, 24, .inl (fun _ => 0))), (q30, .inl (cs.1, 24, .inl (fun _ => 0))), (q31, .inl (cs.1, 24, .inl (fun _ => 0))), (q32, .inl (cs.1, 192, .inl (fun _ => 0))), (q33, .inl (cs.1, 24, .inl (fun _ => 0))), (q34, .inl (cs.1, 192, .inl (fun _ => 0))), (q35, .inl (cs.1, 24, .inl (fun _ => 0))), (q36, .inl (cs.1, 2400, .inl (fun _ => 0)))] : va_W) H := V
  refine miF (v := .ref q36) (ty := .array .int) C V hS 36 (by decide) tMf36 rfl rfl hmn (by decide +kernel) rfl rfl rfl dX13_init_450 (fun H locs V hS => ?_)
  have V : miV D A ([(o, .inr (10, [.int 0, .ref q1, .int 0, .int (-1), .ref q4, .ref q5, .int 0, .int 0, .int 0, .int 0, .int 0, .ref q11, .ref q12, .ref q13, .ref q14, .ref q15, .ref q16, .ref q17, .ref q18, .ref q19, .ref q20, .ref q21, .ref q22, .ref q23, .long 0, .long 0, .int 7, .int 0, .ref q28, .ref q29, .ref q30, .ref q31, .ref q32, .ref q33, .ref q34, .ref q35, .ref q36, .null])), (q1, .inl (cs.1, 1600, .inl (fun _ => 0))), (q4, .inl (cs.2.1, 34, .inr (.inl g4))), (q5, .inl (cs.1, 240, .inl (fun _ => 0))), (q11, .inl (cs.1, 1920, .inl (fun _ => 0))), (q12, .inl (cs.1, 8, .inl (fun _ => 0))), (q13, .inl (cs.1, 8, .inl (fun _ => 0))), (q14, .inl (cs.1, 8, .inl (fun _ => 0))), (q15, .inl (cs.1, 8, .inl (fun _ => 0))), (q16, .inl (cs.1, 8, .inl (fun _ => 0))), (q17, .inl (cs.1, 8, .inl (fun _ => 0))), (q18, .inl (cs.1, 8, .inl (fun _ => 0))), (q19, .inl (cs.1, 8, .inl (fun _ => 0))), (q20, .inl (cs.2.2, 8, .inl (fun _ => 0))), (q21, .inl (cs.2.2, 8, .inl (fun _ => 0))), (q22, .inl (cs.2.2, 8, .inl (fun _ => 0))), (q23, .inl (cs.2.1, 8, .inr (.inl (fun _ => 0)))), (q28, .inl (cs.1, 24, .inl (fun _ => 0))), (q29, .inl (cs.1, 24, .inl (fun _ => 0))), (q30, .inl (cs.1, 24, .inl (fun _ => 0))), (q31, .inl (cs.1, 24, .inl (fun _ => 0))), (q32, .inl (cs.1, 192, .inl (fun _ => 0))), (q33, .inl (cs.1, 24, .inl (fun _ => 0))), (q34, .inl (cs.1, 192, .inl (fun _ => 0))), (q35, .inl (cs.1, 24, .inl (fun _ => 0))), (q36, .inl (cs.1, 2400, .inl (fun _ => 0)))] : va_W) H := V
  refine lv_aload_n hx hb dX13_init_453 rfl (lv_at hl 0 rfl) ?_
  refine lv_bipush (v := 24) hx hb dX13_init_454 (by decide) ?_
  refine miA (K := 24) (t0 := 0) (a0 := (24, .inl (fun _ => 0))) C V hS hA tMai rfl rfl (fun _ _ h => h) (fun _ => rfl) (by decide) (by decide) (by decide) ⟨Nat.le_of_ble_eq_true rfl, Nat.le_of_ble_eq_true rfl⟩ dX13_init_456 (fun q37 H V hS => ?_)
  have V : miV D A ([(o, .inr (10, [.int 0, .ref q1, .int 0, .int (-1), .ref q4, .ref q5, .int 0, .int 0, .int 0, .int 0, .int 0, .ref q11, .ref q12, .ref q13, .ref q14, .ref q15, .ref q16, .ref q17, .ref q18, .ref q19, .ref q20, .ref q21, .ref q22, .ref q23, .long 0, .long 0, .int 7, .int 0, .ref q28, .ref q29, .ref q30, .ref q31, .ref q32, .ref q33, .ref q34, .ref q35, .ref q36, .null])), (q1, .inl (cs.1, 1600, .inl (fun _ => 0))), (q4, .inl (cs.2.1, 34, .inr (.inl g4))), (q5, .inl (cs.1, 240, .inl (fun _ => 0))), (q11, .inl (cs.1, 1920, .inl (fun _ => 0))), (q12, .inl (cs.1, 8, .inl (fun _ => 0))), (q13, .inl (cs.1, 8, .inl (fun _ => 0))), (q14, .inl (cs.1, 8, .inl (fun _ => 0))), (q15, .inl (cs.1, 8, .inl (fun _ => 0))), (q16, .inl (cs.1, 8, .inl (fun _ => 0))), (q17, .inl (cs.1, 8, .inl (fun _ => 0))), (q18, .inl (cs.1, 8, .inl (fun _ => 0))), (q19, .inl (cs.1, 8, .inl (fun _ => 0))), (q20, .inl (cs.2.2, 8, .inl (fun _ => 0))), (q21, .inl (cs.2.2, 8, .inl (fun _ => 0))), (q22, .inl (cs.2.2, 8, .inl (fun _ => 0))), (q23, .inl (cs.2.1, 8, .inr (.inl (fun _ => 0)))), (q28, .inl (cs.1, 24, .inl (fun _ => 0))), (q29, .inl (cs.1, 24, .inl (fun _ => 0))), (q30, .inl (cs.1, 24, .inl (fun _ => 0))), (q31, .inl (cs.1, 24, .inl (fun _ => 0))), (q32, .inl (cs.1, 192, .inl (fun _ => 0))), (q33, .inl (cs.1, 24, .inl (fun _ => 0))), (q34, .inl (cs.1, 192, .inl (fun _ => 0))), (q35, .inl (cs.1, 24, .inl (fun _ => 0))), (q36, .inl (cs.1, 2400, .inl (fun _ => 0))), (q37, .inl (cs.1, 24, .inl (fun _ => 0)))] : va_W) H := V
  refine miF (v := .ref q37) (ty := .array .int) C V hS 37 (by decide) tMf37 rfl rfl hmn (by decide +kernel) rfl rfl rfl dX13_init_458 (fun H locs V hS => ?_)
  have V : miV D A ([(o, .inr (10, [.int 0, .ref q1, .int 0, .int (-1), .ref q4, .ref q5, .int 0, .int 0, .int 0, .int 0, .int 0, .ref q11, .ref q12, .ref q13, .ref q14, .ref q15, .ref q16, .ref q17, .ref q18, .ref q19, .ref q20, .ref q21, .ref q22, .ref q23, .long 0, .long 0, .int 7, .int 0, .ref q28, .ref q29, .ref q30, .ref q31, .ref q32, .ref q33, .ref q34, .ref q35, .ref q36, .ref q37])), (q1, .inl (cs.1, 1600, .inl (fun _ => 0))), (q4, .inl (cs.2.1, 34, .inr (.inl g4))), (q5, .inl (cs.1, 240, .inl (fun _ => 0))), (q11, .inl (cs.1, 1920, .inl (fun _ => 0))), (q12, .inl (cs.1, 8, .inl (fun _ => 0))), (q13, .inl (cs.1, 8, .inl (fun _ => 0))), (q14, .inl (cs.1, 8, .inl (fun _ => 0))), (q15, .inl (cs.1, 8, .inl (fun _ => 0))), (q16, .inl (cs.1, 8, .inl (fun _ => 0))), (q17, .inl (cs.1, 8, .inl (fun _ => 0))), (q18, .inl (cs.1, 8, .inl (fun _ => 0))), (q19, .inl (cs.1, 8, .inl (fun _ => 0))), (q20, .inl (cs.2.2, 8, .inl (fun _ => 0))), (q21, .inl (cs.2.2, 8, .inl (fun _ => 0))), (q22, .inl (cs.2.2, 8, .inl (fun _ => 0))), (q23, .inl (cs.2.1, 8, .inr (.inl (fun _ => 0)))), (q28, .inl (cs.1, 24, .inl (fun _ => 0))), (q29, .inl (cs.1, 24, .inl (fun _ => 0))), (q30, .inl (cs.1, 24, .inl (fun _ => 0))), (q31, .inl (cs.1, 24, .inl (fun _ => 0))), (q32, .inl (cs.1, 192, .inl (fun _ => 0))), (q33, .inl (cs.1, 24, .inl (fun _ => 0))), (q34, .inl (cs.1, 192, .inl (fun _ => 0))), (q35, .inl (cs.1, 24, .inl (fun _ => 0))), (q36, .inl (cs.1, 2400, .inl (fun _ => 0))), (q37, .inl (cs.1, 24, .inl (fun _ => 0)))] : va_W) H := V
  have V4 : miV D A (mws cs o (miAd q1 q4 q5 q11 q12 q13 q14 q15 q16 q17 q18 q19 q20 q21 q22 q23 q28 q29 q30 q31 q32 q33 q34 q35 q36 q37) (mS0 g4)) H := by
    refine ⟨fun k z hz => ?_, ?_⟩
    · by_cases h2 : k = 2
      · subst h2
        have hz2 : z = (q4, .inl (cs.2.1, 34, .inr (.inl (fun j => g4 (nI j).toNatClampNeg)))) := (Option.some.inj hz).symm
        subst hz2
        have h4 := V.1 2 _ rfl
        show H[q4]? = some (vp_cell _ _)
        have h5 : H[q4]? = some (vp_cell cs.2.1 (34, .inr (.inl g4))) := h4
        rw [h5, vp_cell_l, vp_cell_l]
        exact congrArg some (arrV_eq (fun j hj => by rw [nI_clamp (by omega)]))
      · refine V.1 k z ?_
        rw [← hz]
        match k, h2 with
        | 0, _ => rfl
        | 1, _ => rfl
        | 3, _ => rfl
        | 4, _ => rfl
        | 5, _ => rfl
        | 6, _ => rfl
        | 7, _ => rfl
        | 8, _ => rfl
        | 9, _ => rfl
        | 10, _ => rfl
        | 11, _ => rfl
        | 12, _ => rfl
        | 13, _ => rfl
        | 14, _ => rfl
        | 15, _ => rfl
        | 16, _ => rfl
        | 17, _ => rfl
        | 18, _ => rfl
        | 19, _ => rfl
        | 20, _ => rfl
        | 21, _ => rfl
        | 22, _ => rfl
        | 23, _ => rfl
        | 24, _ => rfl
        | 25, _ => rfl
        | 26, _ => rfl
        | 2, h => exact absurd rfl h
        | k + 27, _ => rfl
    · refine ⟨fun i j p q hi hj he => ?_, fun k z hz => ?_⟩
      · have ea : (mws cs o (miAd q1 q4 q5 q11 q12 q13 q14 q15 q16 q17 q18 q19 q20 q21 q22 q23 q28 q29 q30 q31 q32 q33 q34 q35 q36 q37) (mS0 g4)).map Prod.fst = ([(o, .inr (10, [.int 0, .ref q1, .int 0, .int (-1), .ref q4, .ref q5, .int 0, .int 0, .int 0, .int 0, .int 0, .ref q11, .ref q12, .ref q13, .ref q14, .ref q15, .ref q16, .ref q17, .ref q18, .ref q19, .ref q20, .ref q21, .ref q22, .ref q23, .long 0, .long 0, .int 7, .int 0, .ref q28, .ref q29, .ref q30, .ref q31, .ref q32, .ref q33, .ref q34, .ref q35, .ref q36, .ref q37])), (q1, .inl (cs.1, 1600, .inl (fun _ => 0))), (q4, .inl (cs.2.1, 34, .inr (.inl g4))), (q5, .inl (cs.1, 240, .inl (fun _ => 0))), (q11, .inl (cs.1, 1920, .inl (fun _ => 0))), (q12, .inl (cs.1, 8, .inl (fun _ => 0))), (q13, .inl (cs.1, 8, .inl (fun _ => 0))), (q14, .inl (cs.1, 8, .inl (fun _ => 0))), (q15, .inl (cs.1, 8, .inl (fun _ => 0))), (q16, .inl (cs.1, 8, .inl (fun _ => 0))), (q17, .inl (cs.1, 8, .inl (fun _ => 0))), (q18, .inl (cs.1, 8, .inl (fun _ => 0))), (q19, .inl (cs.1, 8, .inl (fun _ => 0))), (q20, .inl (cs.2.2, 8, .inl (fun _ => 0))), (q21, .inl (cs.2.2, 8, .inl (fun _ => 0))), (q22, .inl (cs.2.2, 8, .inl (fun _ => 0))), (q23, .inl (cs.2.1, 8, .inr (.inl (fun _ => 0)))), (q28, .inl (cs.1, 24, .inl (fun _ => 0))), (q29, .inl (cs.1, 24, .inl (fun _ => 0))), (q30, .inl (cs.1, 24, .inl (fun _ => 0))), (q31, .inl (cs.1, 24, .inl (fun _ => 0))), (q32, .inl (cs.1, 192, .inl (fun _ => 0))), (q33, .inl (cs.1, 24, .inl (fun _ => 0))), (q34, .inl (cs.1, 192, .inl (fun _ => 0))), (q35, .inl (cs.1, 24, .inl (fun _ => 0))), (q36, .inl (cs.1, 2400, .inl (fun _ => 0))), (q37, .inl (cs.1, 24, .inl (fun _ => 0)))] : va_W).map Prod.fst := rfl
        obtain ⟨p2, hp2, ep⟩ : ∃ p2, ([(o, .inr (10, [.int 0, .ref q1, .int 0, .int (-1), .ref q4, .ref q5, .int 0, .int 0, .int 0, .int 0, .int 0, .ref q11, .ref q12, .ref q13, .ref q14, .ref q15, .ref q16, .ref q17, .ref q18, .ref q19, .ref q20, .ref q21, .ref q22, .ref q23, .long 0, .long 0, .int 7, .int 0, .ref q28, .ref q29, .ref q30, .ref q31, .ref q32, .ref q33, .ref q34, .ref q35, .ref q36, .ref q37])), (q1, .inl (cs.1, 1600, .inl (fun _ => 0))), (q4, .inl (cs.2.1, 34, .inr (.inl g4))), (q5, .inl (cs.1, 240, .inl (fun _ => 0))), (q11, .inl (cs.1, 1920, .inl (fun _ => 0))), (q12, .inl (cs.1, 8, .inl (fun _ => 0))), (q13, .inl (cs.1, 8, .inl (fun _ => 0))), (q14, .inl (cs.1, 8, .inl (fun _ => 0))), (q15, .inl (cs.1, 8, .inl (fun _ => 0))), (q16, .inl (cs.1, 8, .inl (fun _ => 0))), (q17, .inl (cs.1, 8, .inl (fun _ => 0))), (q18, .inl (cs.1, 8, .inl (fun _ => 0))), (q19, .inl (cs.1, 8, .inl (fun _ => 0))), (q20, .inl (cs.2.2, 8, .inl (fun _ => 0))), (q21, .inl (cs.2.2, 8, .inl (fun _ => 0))), (q22, .inl (cs.2.2, 8, .inl (fun _ => 0))), (q23, .inl (cs.2.1, 8, .inr (.inl (fun _ => 0)))), (q28, .inl (cs.1, 24, .inl (fun _ => 0))), (q29, .inl (cs.1, 24, .inl (fun _ => 0))), (q30, .inl (cs.1, 24, .inl (fun _ => 0))), (q31, .inl (cs.1, 24, .inl (fun _ => 0))), (q32, .inl (cs.1, 192, .inl (fun _ => 0))), (q33, .inl (cs.1, 24, .inl (fun _ => 0))), (q34, .inl (cs.1, 192, .inl (fun _ => 0))), (q35, .inl (cs.1, 24, .inl (fun _ => 0))), (q36, .inl (cs.1, 2400, .inl (fun _ => 0))), (q37, .inl (cs.1, 24, .inl (fun _ => 0)))] : va_W)[i]? = some p2 ∧ p2.1 = p.1 := by
          have h9 := congrArg (fun l => l[i]?) ea
          simp only [List.getElem?_map, hi, Option.map_some] at h9
          obtain ⟨y, y1, y2⟩ := Option.map_eq_some_iff.mp h9.symm
          exact ⟨y, y1, y2⟩
        obtain ⟨q2, hq2, eq⟩ : ∃ q2, ([(o, .inr (10, [.int 0, .ref q1, .int 0, .int (-1), .ref q4, .ref q5, .int 0, .int 0, .int 0, .int 0, .int 0, .ref q11, .ref q12, .ref q13, .ref q14, .ref q15, .ref q16, .ref q17, .ref q18, .ref q19, .ref q20, .ref q21, .ref q22, .ref q23, .long 0, .long 0, .int 7, .int 0, .ref q28, .ref q29, .ref q30, .ref q31, .ref q32, .ref q33, .ref q34, .ref q35, .ref q36, .ref q37])), (q1, .inl (cs.1, 1600, .inl (fun _ => 0))), (q4, .inl (cs.2.1, 34, .inr (.inl g4))), (q5, .inl (cs.1, 240, .inl (fun _ => 0))), (q11, .inl (cs.1, 1920, .inl (fun _ => 0))), (q12, .inl (cs.1, 8, .inl (fun _ => 0))), (q13, .inl (cs.1, 8, .inl (fun _ => 0))), (q14, .inl (cs.1, 8, .inl (fun _ => 0))), (q15, .inl (cs.1, 8, .inl (fun _ => 0))), (q16, .inl (cs.1, 8, .inl (fun _ => 0))), (q17, .inl (cs.1, 8, .inl (fun _ => 0))), (q18, .inl (cs.1, 8, .inl (fun _ => 0))), (q19, .inl (cs.1, 8, .inl (fun _ => 0))), (q20, .inl (cs.2.2, 8, .inl (fun _ => 0))), (q21, .inl (cs.2.2, 8, .inl (fun _ => 0))), (q22, .inl (cs.2.2, 8, .inl (fun _ => 0))), (q23, .inl (cs.2.1, 8, .inr (.inl (fun _ => 0)))), (q28, .inl (cs.1, 24, .inl (fun _ => 0))), (q29, .inl (cs.1, 24, .inl (fun _ => 0))), (q30, .inl (cs.1, 24, .inl (fun _ => 0))), (q31, .inl (cs.1, 24, .inl (fun _ => 0))), (q32, .inl (cs.1, 192, .inl (fun _ => 0))), (q33, .inl (cs.1, 24, .inl (fun _ => 0))), (q34, .inl (cs.1, 192, .inl (fun _ => 0))), (q35, .inl (cs.1, 24, .inl (fun _ => 0))), (q36, .inl (cs.1, 2400, .inl (fun _ => 0))), (q37, .inl (cs.1, 24, .inl (fun _ => 0)))] : va_W)[j]? = some q2 ∧ q2.1 = q.1 := by
          have h9 := congrArg (fun l => l[j]?) ea
          simp only [List.getElem?_map, hj, Option.map_some] at h9
          obtain ⟨y, y1, y2⟩ := Option.map_eq_some_iff.mp h9.symm
          exact ⟨y, y1, y2⟩
        exact V.2.1 i j p2 q2 hp2 hq2 (by rw [ep, eq]; exact he)
      · have ea : (mws cs o (miAd q1 q4 q5 q11 q12 q13 q14 q15 q16 q17 q18 q19 q20 q21 q22 q23 q28 q29 q30 q31 q32 q33 q34 q35 q36 q37) (mS0 g4)).map Prod.fst = ([(o, .inr (10, [.int 0, .ref q1, .int 0, .int (-1), .ref q4, .ref q5, .int 0, .int 0, .int 0, .int 0, .int 0, .ref q11, .ref q12, .ref q13, .ref q14, .ref q15, .ref q16, .ref q17, .ref q18, .ref q19, .ref q20, .ref q21, .ref q22, .ref q23, .long 0, .long 0, .int 7, .int 0, .ref q28, .ref q29, .ref q30, .ref q31, .ref q32, .ref q33, .ref q34, .ref q35, .ref q36, .ref q37])), (q1, .inl (cs.1, 1600, .inl (fun _ => 0))), (q4, .inl (cs.2.1, 34, .inr (.inl g4))), (q5, .inl (cs.1, 240, .inl (fun _ => 0))), (q11, .inl (cs.1, 1920, .inl (fun _ => 0))), (q12, .inl (cs.1, 8, .inl (fun _ => 0))), (q13, .inl (cs.1, 8, .inl (fun _ => 0))), (q14, .inl (cs.1, 8, .inl (fun _ => 0))), (q15, .inl (cs.1, 8, .inl (fun _ => 0))), (q16, .inl (cs.1, 8, .inl (fun _ => 0))), (q17, .inl (cs.1, 8, .inl (fun _ => 0))), (q18, .inl (cs.1, 8, .inl (fun _ => 0))), (q19, .inl (cs.1, 8, .inl (fun _ => 0))), (q20, .inl (cs.2.2, 8, .inl (fun _ => 0))), (q21, .inl (cs.2.2, 8, .inl (fun _ => 0))), (q22, .inl (cs.2.2, 8, .inl (fun _ => 0))), (q23, .inl (cs.2.1, 8, .inr (.inl (fun _ => 0)))), (q28, .inl (cs.1, 24, .inl (fun _ => 0))), (q29, .inl (cs.1, 24, .inl (fun _ => 0))), (q30, .inl (cs.1, 24, .inl (fun _ => 0))), (q31, .inl (cs.1, 24, .inl (fun _ => 0))), (q32, .inl (cs.1, 192, .inl (fun _ => 0))), (q33, .inl (cs.1, 24, .inl (fun _ => 0))), (q34, .inl (cs.1, 192, .inl (fun _ => 0))), (q35, .inl (cs.1, 24, .inl (fun _ => 0))), (q36, .inl (cs.1, 2400, .inl (fun _ => 0))), (q37, .inl (cs.1, 24, .inl (fun _ => 0)))] : va_W).map Prod.fst := rfl
        obtain ⟨p2, hp2, ep⟩ : ∃ p2, ([(o, .inr (10, [.int 0, .ref q1, .int 0, .int (-1), .ref q4, .ref q5, .int 0, .int 0, .int 0, .int 0, .int 0, .ref q11, .ref q12, .ref q13, .ref q14, .ref q15, .ref q16, .ref q17, .ref q18, .ref q19, .ref q20, .ref q21, .ref q22, .ref q23, .long 0, .long 0, .int 7, .int 0, .ref q28, .ref q29, .ref q30, .ref q31, .ref q32, .ref q33, .ref q34, .ref q35, .ref q36, .ref q37])), (q1, .inl (cs.1, 1600, .inl (fun _ => 0))), (q4, .inl (cs.2.1, 34, .inr (.inl g4))), (q5, .inl (cs.1, 240, .inl (fun _ => 0))), (q11, .inl (cs.1, 1920, .inl (fun _ => 0))), (q12, .inl (cs.1, 8, .inl (fun _ => 0))), (q13, .inl (cs.1, 8, .inl (fun _ => 0))), (q14, .inl (cs.1, 8, .inl (fun _ => 0))), (q15, .inl (cs.1, 8, .inl (fun _ => 0))), (q16, .inl (cs.1, 8, .inl (fun _ => 0))), (q17, .inl (cs.1, 8, .inl (fun _ => 0))), (q18, .inl (cs.1, 8, .inl (fun _ => 0))), (q19, .inl (cs.1, 8, .inl (fun _ => 0))), (q20, .inl (cs.2.2, 8, .inl (fun _ => 0))), (q21, .inl (cs.2.2, 8, .inl (fun _ => 0))), (q22, .inl (cs.2.2, 8, .inl (fun _ => 0))), (q23, .inl (cs.2.1, 8, .inr (.inl (fun _ => 0)))), (q28, .inl (cs.1, 24, .inl (fun _ => 0))), (q29, .inl (cs.1, 24, .inl (fun _ => 0))), (q30, .inl (cs.1, 24, .inl (fun _ => 0))), (q31, .inl (cs.1, 24, .inl (fun _ => 0))), (q32, .inl (cs.1, 192, .inl (fun _ => 0))), (q33, .inl (cs.1, 24, .inl (fun _ => 0))), (q34, .inl (cs.1, 192, .inl (fun _ => 0))), (q35, .inl (cs.1, 24, .inl (fun _ => 0))), (q36, .inl (cs.1, 2400, .inl (fun _ => 0))), (q37, .inl (cs.1, 24, .inl (fun _ => 0)))] : va_W)[k]? = some p2 ∧ p2.1 = z.1 := by
          have h9 := congrArg (fun l => l[k]?) ea
          simp only [List.getElem?_map, hz, Option.map_some] at h9
          obtain ⟨y, y1, y2⟩ := Option.map_eq_some_iff.mp h9.symm
          exact ⟨y, y1, y2⟩
        rw [← ep]; exact V.2.2 k p2 hp2
  exact W.vret hx hb hr (fun t ht hW => ⟨⟨(miAd q1 q4 q5 q11 q12 q13 q14 q15 q16 q17 q18 q19 q20 q21 q22 q23 q28 q29 q30 q31 q32 q33 q34 q35 q36 q37, mS0 g4), rfl, trivial, ⟨by rw [ht]; exact V4, va_K.moved hW.alike C.2.2.2.2⟩, mS0_inv g4, rfl, g4, rfl, hg⟩, hS.F ht⟩) hS.2.2 dX13_init_461 hlk

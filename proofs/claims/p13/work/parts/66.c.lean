def tabF (pc : Nat) (dflt lo hi : Int) (offs : Array Int) (x : Int32) (t : Nat) : Prop := ((x.toInt < lo ∨ hi < x.toInt) ∧ (pc : Int) + dflt = t) ∨ ∃ (k : Nat) (h : k < offs.size), x.toInt = lo + k ∧ (pc : Int) + offs[k] = t
/-- a switch: at each target what led there -/
theorem cTabH {p : Program} {l : Launch} {e : Env} {R : Room} {s : State} {m : MethodId} {args : Array Value} {below : List Frame} {meth : Method} {c : Code} {H : Heap} {locs : List Loc} {cells slots : Nat} {Q : State → Prop} {cc : ByteArray} {pc : Nat} {ls : Array Slot} {rest : List Value}
    (hx : p.tables.exec = Jvm.exec) (hb : c.code = cc) {dflt lo hi : Int} {offs : Array Int} {len : Nat} {x : Int32} (ts : List Nat) (hdg : decode cc pc = .ok (.tableswitch dflt lo hi offs, len)) (hsz : (offs.size : Int) = hi - lo + 1) (hm : ∀ o ∈ dflt :: offs.toList, ∃ t ∈ ts, (pc : Int) + o = (t : Int))
    (kk : ∀ t ∈ ts, tabF pc dflt lo hi offs x t → W p l e R s m args below meth c H locs cells slots Q (F0 m t ls rest)) : W p l e R s m args below meth c H locs cells slots Q (F0 m pc ls (.int x :: rest)) := by
  by_cases h1 : x.toInt < lo
  · obtain ⟨t, ht, e⟩ := hm dflt (List.mem_cons_self)
    exact lv_tableOut hx hb hdg (Or.inl h1) e (kk t ht (Or.inl ⟨Or.inl h1, e⟩))
  · by_cases h2 : hi < x.toInt
    · obtain ⟨t, ht, e⟩ := hm dflt (List.mem_cons_self)
      exact lv_tableOut hx hb hdg (Or.inr h2) e (kk t ht (Or.inl ⟨Or.inr h2, e⟩))
    · have hk : (x.toInt - lo).toNat < offs.size := by omega
      obtain ⟨t, ht, e⟩ := hm (offs[(x.toInt - lo).toNat]) (List.mem_cons_of_mem _ (by simp))
      exact lv_tableIn hx hb hdg h1 h2 (Array.getElem?_eq_getElem hk) e (kk t ht (Or.inr ⟨_, hk, by omega, e⟩))
theorem ft_4 {x : Int32} {t : Nat} (h : tabF 1 94 0 4 #[35, 94, 50, 60, 77] x t) (hx : x = 4) : t = 78 := by
  subst hx
  rcases h with ⟨h, -⟩ | ⟨k, hk, h, e⟩
  · exact absurd h (by decide)
  · have h4 : (4 : Int32).toInt = 4 := by decide
    have : k = 4 := by omega
    subst this
    have e2 : (((1 : Nat) : Int) + 77) = (t : Int) := e
    omega
theorem bt_4 {x : Int32} (h : tabF 1 119 0 7 #[47, 66, 119, 119, 76, 86, 98, 110] x 77) : x = 4 := by
  rcases h with ⟨-, h⟩ | ⟨k, hk, h, e⟩
  · exact absurd h (by decide)
  · have hk8 : k < 8 := hk
    have : k = 4 := by
      match k, hk, e with
      | 0, _, e => exact absurd (show ((1 : Nat) : Int) + 47 = ((77 : Nat) : Int) from e) (by decide)
      | 1, _, e => exact absurd (show ((1 : Nat) : Int) + 66 = ((77 : Nat) : Int) from e) (by decide)
      | 2, _, e => exact absurd (show ((1 : Nat) : Int) + 119 = ((77 : Nat) : Int) from e) (by decide)
      | 3, _, e => exact absurd (show ((1 : Nat) : Int) + 119 = ((77 : Nat) : Int) from e) (by decide)
      | 4, _, _ => rfl
      | 5, _, e => exact absurd (show ((1 : Nat) : Int) + 86 = ((77 : Nat) : Int) from e) (by decide)
      | 6, _, e => exact absurd (show ((1 : Nat) : Int) + 98 = ((77 : Nat) : Int) from e) (by decide)
      | 7, _, e => exact absurd (show ((1 : Nat) : Int) + 110 = ((77 : Nat) : Int) from e) (by decide)
      | k + 8, hk, _ => exact absurd hk (by simp)
    subst this
    exact Int32.toInt_inj.mp (by rw [h]; decide)
/-- an OBJECT goes into the array of OBJECTS -/
theorem cSt {p : Program} {l : Launch} {e : Env} {R : Room} {s : State} {m : MethodId} {args : Array Value} {below : List Frame} {meth : Method} {c : Code} {H : Heap} {locs : List Loc} {cells slots : Nat} {Q : State → Prop} {cc : ByteArray} {pc : Nat} {ls : Array Slot} {rest : List Value} {D : va_G} {ks : kS} {τ : Nat → Nat} {L : List Nat} {A : Nat → Prop} {ψ : Int32} {f : Nat → va_E} {H0 : Heap} {own : String} {a v n : Nat} {κ : kC} {g : Nat → Option Nat} {i : Int32}
    (C9 : cC own p s m args c cc D ks) (h0 : N0 κ A s) (V : cV D L f A H) (I : cI ks τ L ψ f) (hS : va_S A H0 H locs) (ha : a ∈ L) (hf : f a = .inl (ks.2.2.2, n, rfs g)) (hv : tyS τ L v) (hin : vp_in i n) (hdg : decode cc pc = .ok (.aastore, 1))
    (kk : ∀ (f1 : Nat → va_E) (H1 : Heap) (locs1 : List Loc), f1 = va_up f a (.inl (ks.2.2.2, n, rfs (va_up g i.toNatClampNeg (some v)))) → cV D L f1 A H1 → va_S A H0 H1 locs1 → W p l e R s m args below meth c H1 locs1 cells slots Q (F0 m (pc + 1) ls rest)) : W p l e R s m args below meth c H locs cells slots Q (F0 m pc ls (.ref v :: .int i :: .ref a :: rest)) := by
  obtain ⟨hx, hb, hown, hts, hK⟩ := C9
  obtain ⟨q0, hq0⟩ := va_pl0 (f := f) ha
  obtain ⟨q1, hq1⟩ := va_pl0 (f := f) hv.1
  obtain ⟨ci, n1, k1, r1, rs, hfv, -, hci, -⟩ := opS I hv
  have hq := hq0
  rw [hf] at hq
  rw [hfv] at hq1
  have hnw := h0.2.2.2.2.2.2.2.2.1
  have fin : ∀ (C : String) (T : u_T) (K : Nat), vwCl[ci]? = some (C, T, K) → va_Nw (.castable C "TurnKeeper$Sync") s → W p l e R s m args below meth c H locs cells slots Q (F0 m pc ls (.ref v :: .int i :: .ref a :: rest)) := by
    intro C T K hc hca
    refine va_astqO hx hb hK V.1 V.2 hS q0 3 q1 ci (r := (C, T, K)) hq rfl hca hq1 hc hin hdg (fun H1 locs1 hP hD hS1 => ?_)
    rw [va_pls V.2 ha hq0] at hP hD
    exact kk _ H1 locs1 rfl ⟨hP, hD⟩ hS1
  rcases hci with rfl | rfl | rfl | rfl | rfl | rfl
  · exact fin _ _ _ rfl (hnw (.castable "TurnKeeper$Gate" "TurnKeeper$Sync") (by simp [nwL]))
  · exact fin _ _ _ rfl (hnw (.castable "TurnKeeper$Holder" "TurnKeeper$Sync") (by simp [nwL]))
  · exact fin _ _ _ rfl (hnw (.castable "TurnKeeper$Hurdle" "TurnKeeper$Sync") (by simp [nwL]))
  · exact fin _ _ _ rfl (hnw (.castable "TurnKeeper$Lock" "TurnKeeper$Sync") (by simp [nwL]))
  · exact fin _ _ _ rfl (hnw (.castable "TurnKeeper$Queue" "TurnKeeper$Sync") (by simp [nwL]))
  · exact fin _ _ _ rfl (hnw (.castable "TurnKeeper$Semaphore" "TurnKeeper$Sync") (by simp [nwL]))
/-- a static call that makes cells -/
theorem cRunSN {p : Program} {l : Launch} {e : Env} {R : Room} {s : State} {m : MethodId} {args : Array Value} {below : List Frame} {meth : Method} {c : Code} {H : Heap} {locs : List Loc} {cells slots : Nat} {cc : ByteArray} {pc : Nat} {ls : Array Slot} {rest : List Value} {D : va_G} {ks : kS} {τ : Nat → Nat} {L : List Nat} {A : Nat → Prop} {N : State → Prop} {ψ : Int32} {f : Nat → va_E} {own : String} {y : MethodName} {cy : ByteArray} {n nL idx mc ms : Nat} {rm : Room} {As st0 : List Value}
    {ret : Option FieldType} {Qc : Array Value → State → Outcome → State → Prop} (C9 : cC own p s m args c cc D ks) (hml : c.maxLocals = nL) (hN : cNk A N) (hNs : N s) (V : cV D L f A H) (I : cI ks τ L ψ f) (hS : va_S A s.heap H locs)
    (hM : Met l y (Cond.code y cy n ret :: tC) rm (va_Pc As (cB D ks τ L A N (ψ, f))) Qc mc ms A) (hg : GoodIn tC (va_wsS own idx y (Cond.code y cy n ret :: tC))) (hk : cOkY y y.cls As.length)
    (hR : rm.cells = mc ∧ rm.slots = ms ∧ rm.frames + 1 ≤ R.frames ∧ 8 + (n + 11) + rm.locals ≤ R.locals) (hsz : ls.size = nL) (hst : st0 = As.reverse ++ rest) (hro : (rest.map fun v => v.category).sum ≤ 8)
    (hdg : decode cc pc = .ok (.invokestatic idx, 3)) (hcs : cells + mc ≤ R.cells ∧ slots + ms ≤ R.slots) :
    va_Run p l e R s m args below meth c H locs cells slots mc ms (F0 m pc ls st0) rest (Qc As.toArray) A := by
  obtain ⟨hx, hb, hown, hts, hK⟩ := C9
  exact va_runS (As := As) (rest := rest) ⟨hx, hb, hml, hown, hts⟩ hM (va_cwS As.length hts hg rfl hR.1 hR.2.1 hk.2 hR.2.2) ⟨cblind hN, fun U hU hW => ⟨rfl, by rw [hU]; exact V, I, va_K.moved hW.alike hK, cNt hN hNs hS hU hW⟩⟩ rfl rfl hsz hst (lv_room hro) hdg hcs

theorem bq_0 {x : Int32} (h : tabF 1 119 0 7 #[47, 66, 119, 119, 76, 86, 98, 110] x 48) : x = 0 := by
  rcases h with ⟨-, h⟩ | ⟨k, hk, h, e⟩
  · exact absurd h (by decide)
  · have : k = 0 := by
      match k, hk, e with
      | 0, _, _ => rfl
      | 1, _, e => exact absurd (show ((1 : Nat) : Int) + 66 = ((48 : Nat) : Int) from e) (by decide)
      | 2, _, e => exact absurd (show ((1 : Nat) : Int) + 119 = ((48 : Nat) : Int) from e) (by decide)
      | 3, _, e => exact absurd (show ((1 : Nat) : Int) + 119 = ((48 : Nat) : Int) from e) (by decide)
      | 4, _, e => exact absurd (show ((1 : Nat) : Int) + 76 = ((48 : Nat) : Int) from e) (by decide)
      | 5, _, e => exact absurd (show ((1 : Nat) : Int) + 86 = ((48 : Nat) : Int) from e) (by decide)
      | 6, _, e => exact absurd (show ((1 : Nat) : Int) + 98 = ((48 : Nat) : Int) from e) (by decide)
      | 7, _, e => exact absurd (show ((1 : Nat) : Int) + 110 = ((48 : Nat) : Int) from e) (by decide)
      | k + 8, hk, _ => exact absurd hk (by simp)
    subst this
    exact Int32.toInt_inj.mp (by rw [h]; decide)
theorem bq_1 {x : Int32} (h : tabF 1 119 0 7 #[47, 66, 119, 119, 76, 86, 98, 110] x 67) : x = 1 := by
  rcases h with ⟨-, h⟩ | ⟨k, hk, h, e⟩
  · exact absurd h (by decide)
  · have : k = 1 := by
      match k, hk, e with
      | 0, _, e => exact absurd (show ((1 : Nat) : Int) + 47 = ((67 : Nat) : Int) from e) (by decide)
      | 1, _, _ => rfl
      | 2, _, e => exact absurd (show ((1 : Nat) : Int) + 119 = ((67 : Nat) : Int) from e) (by decide)
      | 3, _, e => exact absurd (show ((1 : Nat) : Int) + 119 = ((67 : Nat) : Int) from e) (by decide)
      | 4, _, e => exact absurd (show ((1 : Nat) : Int) + 76 = ((67 : Nat) : Int) from e) (by decide)
      | 5, _, e => exact absurd (show ((1 : Nat) : Int) + 86 = ((67 : Nat) : Int) from e) (by decide)
      | 6, _, e => exact absurd (show ((1 : Nat) : Int) + 98 = ((67 : Nat) : Int) from e) (by decide)
      | 7, _, e => exact absurd (show ((1 : Nat) : Int) + 110 = ((67 : Nat) : Int) from e) (by decide)
      | k + 8, hk, _ => exact absurd hk (by simp)
    subst this
    exact Int32.toInt_inj.mp (by rw [h]; decide)
theorem bq_5 {x : Int32} (h : tabF 1 119 0 7 #[47, 66, 119, 119, 76, 86, 98, 110] x 87) : x = 5 := by
  rcases h with ⟨-, h⟩ | ⟨k, hk, h, e⟩
  · exact absurd h (by decide)
  · have : k = 5 := by
      match k, hk, e with
      | 0, _, e => exact absurd (show ((1 : Nat) : Int) + 47 = ((87 : Nat) : Int) from e) (by decide)
      | 1, _, e => exact absurd (show ((1 : Nat) : Int) + 66 = ((87 : Nat) : Int) from e) (by decide)
      | 2, _, e => exact absurd (show ((1 : Nat) : Int) + 119 = ((87 : Nat) : Int) from e) (by decide)
      | 3, _, e => exact absurd (show ((1 : Nat) : Int) + 119 = ((87 : Nat) : Int) from e) (by decide)
      | 4, _, e => exact absurd (show ((1 : Nat) : Int) + 76 = ((87 : Nat) : Int) from e) (by decide)
      | 5, _, _ => rfl
      | 6, _, e => exact absurd (show ((1 : Nat) : Int) + 98 = ((87 : Nat) : Int) from e) (by decide)
      | 7, _, e => exact absurd (show ((1 : Nat) : Int) + 110 = ((87 : Nat) : Int) from e) (by decide)
      | k + 8, hk, _ => exact absurd hk (by simp)
    subst this
    exact Int32.toInt_inj.mp (by rw [h]; decide)
theorem bq_6 {x : Int32} (h : tabF 1 119 0 7 #[47, 66, 119, 119, 76, 86, 98, 110] x 99) : x = 6 := by
  rcases h with ⟨-, h⟩ | ⟨k, hk, h, e⟩
  · exact absurd h (by decide)
  · have : k = 6 := by
      match k, hk, e with
      | 0, _, e => exact absurd (show ((1 : Nat) : Int) + 47 = ((99 : Nat) : Int) from e) (by decide)
      | 1, _, e => exact absurd (show ((1 : Nat) : Int) + 66 = ((99 : Nat) : Int) from e) (by decide)
      | 2, _, e => exact absurd (show ((1 : Nat) : Int) + 119 = ((99 : Nat) : Int) from e) (by decide)
      | 3, _, e => exact absurd (show ((1 : Nat) : Int) + 119 = ((99 : Nat) : Int) from e) (by decide)
      | 4, _, e => exact absurd (show ((1 : Nat) : Int) + 76 = ((99 : Nat) : Int) from e) (by decide)
      | 5, _, e => exact absurd (show ((1 : Nat) : Int) + 86 = ((99 : Nat) : Int) from e) (by decide)
      | 6, _, _ => rfl
      | 7, _, e => exact absurd (show ((1 : Nat) : Int) + 110 = ((99 : Nat) : Int) from e) (by decide)
      | k + 8, hk, _ => exact absurd hk (by simp)
    subst this
    exact Int32.toInt_inj.mp (by rw [h]; decide)
theorem bq_7 {x : Int32} (h : tabF 1 119 0 7 #[47, 66, 119, 119, 76, 86, 98, 110] x 111) : x = 7 := by
  rcases h with ⟨-, h⟩ | ⟨k, hk, h, e⟩
  · exact absurd h (by decide)
  · have : k = 7 := by
      match k, hk, e with
      | 0, _, e => exact absurd (show ((1 : Nat) : Int) + 47 = ((111 : Nat) : Int) from e) (by decide)
      | 1, _, e => exact absurd (show ((1 : Nat) : Int) + 66 = ((111 : Nat) : Int) from e) (by decide)
      | 2, _, e => exact absurd (show ((1 : Nat) : Int) + 119 = ((111 : Nat) : Int) from e) (by decide)
      | 3, _, e => exact absurd (show ((1 : Nat) : Int) + 119 = ((111 : Nat) : Int) from e) (by decide)
      | 4, _, e => exact absurd (show ((1 : Nat) : Int) + 76 = ((111 : Nat) : Int) from e) (by decide)
      | 5, _, e => exact absurd (show ((1 : Nat) : Int) + 86 = ((111 : Nat) : Int) from e) (by decide)
      | 6, _, e => exact absurd (show ((1 : Nat) : Int) + 98 = ((111 : Nat) : Int) from e) (by decide)
      | 7, _, _ => rfl
      | k + 8, hk, _ => exact absurd hk (by simp)
    subst this
    exact Int32.toInt_inj.mp (by rw [h]; decide)
theorem bq_d {x : Int32} (h : tabF 1 119 0 7 #[47, 66, 119, 119, 76, 86, 98, 110] x 120) : x ≠ 0 ∧ x ≠ 1 ∧ x ≠ 4 ∧ x ≠ 5 ∧ x ≠ 6 ∧ x ≠ 7 := by
  rcases h with ⟨h, -⟩ | ⟨k, hk, h, e⟩
  · refine ⟨?_, ?_, ?_, ?_, ?_, ?_⟩ <;> (intro z; rw [z] at h; exact absurd h (by decide))
  · match k, hk, h, e with
    | 0, _, _, e => exact absurd (show ((1 : Nat) : Int) + 47 = ((120 : Nat) : Int) from e) (by decide)
    | 1, _, _, e => exact absurd (show ((1 : Nat) : Int) + 66 = ((120 : Nat) : Int) from e) (by decide)
    | 2, _, h, _ => refine ⟨?_, ?_, ?_, ?_, ?_, ?_⟩ <;> (intro z; rw [z] at h; exact absurd h (by decide))
    | 3, _, h, _ => refine ⟨?_, ?_, ?_, ?_, ?_, ?_⟩ <;> (intro z; rw [z] at h; exact absurd h (by decide))
    | 4, _, _, e => exact absurd (show ((1 : Nat) : Int) + 76 = ((120 : Nat) : Int) from e) (by decide)
    | 5, _, _, e => exact absurd (show ((1 : Nat) : Int) + 86 = ((120 : Nat) : Int) from e) (by decide)
    | 6, _, _, e => exact absurd (show ((1 : Nat) : Int) + 98 = ((120 : Nat) : Int) from e) (by decide)
    | 7, _, _, e => exact absurd (show ((1 : Nat) : Int) + 110 = ((120 : Nat) : Int) from e) (by decide)
    | k + 8, hk, _, _ => exact absurd hk (by simp)
/-- the OBJECT y that is new: number b, KIND k (from 0), made with x -/
def nOb (L : List Nat) (τ1 : Nat → Nat) (L1 : List Nat) (f1 : Nat → va_E) (y : Nat) (b k x : Int32) : Prop := y ∉ L ∧ (
  (k = 0 ∧ ∃ r9 r8 M9, f1 y = .inr (3, [.int b, .int 0, .ref r9, .int (-1), .int (if x = 1 then 1 else 0), .int 0, .ref r8]) ∧ nRow L τ1 L1 f1 r9 ∧ nRow M9 τ1 L1 f1 r8 ∧ (∀ b, b ∈ L → b ∈ M9) ∧ r9 ∈ M9 ∧ ∀ a, f1 r9 = .inr (5, [.int 0, .ref a]) → a ∈ M9) ∨
  (k = 1 ∧ ∃ r9, f1 y = .inr (6, [.int b, .int 1, .ref r9, .int x]) ∧ nRow L τ1 L1 f1 r9) ∨
  (k = 4 ∧ ∃ q9, q9 ∉ L ∧ ty τ1 L1 q9 (100 + Int32.toNatClampNeg x) ∧ q9 ≠ y ∧ ∃ r9, f1 y = .inr (4, [.int b, .int 4, .ref r9, .ref q9, .int 0, .int 0]) ∧ nRow L τ1 L1 f1 r9) ∨
  (k = 5 ∧ ∃ r9, f1 y = .inr (1, [.int b, .int k, .ref r9, .int 1, .int x]) ∧ nRow L τ1 L1 f1 r9) ∨
  (k = 6 ∧ ∃ r9, f1 y = .inr (1, [.int b, .int k, .ref r9, .int 0, .int 0]) ∧ nRow L τ1 L1 f1 r9) ∨
  (k = 7 ∧ ∃ r9, f1 y = .inr (0, [.int b, .int 7, .ref r9, .int (-1), .int 0]) ∧ nRow L τ1 L1 f1 r9) ∨
  ((k ≠ 0 ∧ k ≠ 1 ∧ k ≠ 4 ∧ k ≠ 5 ∧ k ≠ 6 ∧ k ≠ 7) ∧ ∃ r9, f1 y = .inr (2, [.int b, .int k, .ref r9, .int x]) ∧ nRow L τ1 L1 f1 r9))
theorem nRw_x {L L0 : List Nat} {τ1 : Nat → Nat} {L1 : List Nat} {f1 : Nat → va_E} {e : Nat → va_E} {y : Nat} (g : ∀ b, b ∈ L0 → b ∈ L) (h : ∃ r9, f1 y = e r9 ∧ nRow L τ1 L1 f1 r9) : ∃ r9, f1 y = e r9 ∧ nRow L0 τ1 L1 f1 r9 := by
  obtain ⟨r, h1, h2⟩ := h
  exact ⟨r, h1, nRow_L h2 g⟩
set_option maxHeartbeats 200000 in
set_option maxRecDepth 100000 in
theorem c_X12_built (l : Launch) (D : va_G) (ks : kS) (τ : Nat → Nat) (L : List Nat) (A : Nat → Prop) (N : State → Prop) (hN : cNk A N) (κ : kC) (hN0 : ∀ U, N U → N0 κ A U) (ψ : Int32) (f : Nat → va_E) (i1 : Int32) (i2 : Int32) (i3 : Int32) (hz : i2 = 4 → 1 ≤ i3 ∧ i3 ≤ 100) : Met l yX12_built (Cond.code yX12_built cX12_built 3 (some (.object "TurnKeeper$Sync")) :: tC) ({ frames := 4, cells := 5, slots := 116, locals := 86 }) (va_Pc [.int i1, .int i2, .int i3] (cB D ks τ L A N (ψ, f))) (va_Qq (fun r9 x9 => gW τ L f x9.2.1 x9.2.2 x9.1 ∧ ∃ y9, r9 = some y9 ∧ tyS x9.2.1 x9.2.2 y9 ∧ nOb L x9.2.1 x9.2.2 x9.1 y9 i1 i2 i3) (cBn D ks A N ψ) A) 5 116 A := by
  refine cMetN (own := RX12) (by decide) rfl (Nat.le_of_ble_eq_true rfl) ?_
  intro p e s m below meth c ls C9 hml hr hlk hmn V I hNs hl
  have hx := C9.1
  have hb := C9.2.1
  have hown := C9.2.2.1
  have hts := C9.2.2.2.1
  have h0 := hN0 s hNs
  have hS : va_S A s.heap s.heap [] := va_S.rf
  have hl : lv_has ls 3 [(0, .int i1), (1, .int i2), (2, .int i3)] := hl
  refine lv_iload_n hx hb dX12_built_0 rfl (lv_at hl 1 rfl) ?_
  refine cTabH hx hb [120, 48, 67, 77, 87, 99, 111] dX12_built_1 rfl (by decide) ?_
  intro t9 hm1 hThm1
  rcases List.mem_cons.mp hm1 with rfl | hm1
  · refine cNw (ci := 2) (fs := [.int 0, .int 0, .null, .int 0]) C9 h0 V I hS rfl tC_lay2 tyX3 tyX3_ok tCw_X12_231 dfl_X3 ⟨Nat.le_of_ble_eq_true rfl, Nat.le_of_ble_eq_true rfl⟩ dX12_built_120 (fun q2 τ2 L2 f2 H hg2 hq2 ht2 hf2 V I hS => ?_)
    refine lv_dup hx hb dX12_built_123 rfl ?_
    refine lv_iload_n hx hb dX12_built_124 rfl (lv_at hl 0 rfl) ?_
    refine lv_iload_n hx hb dX12_built_125 rfl (lv_at hl 1 rfl) ?_
    refine lv_iload_n hx hb dX12_built_126 rfl (lv_at hl 2 rfl) ?_
    refine cGoN (cRunI (As := [.int i1, .int i2, .int i3]) (rest := [.ref q2]) C9 hml hN hNs V I hS (c_X3_init l D ks τ2 L2 A N hN κ hN0 ψ f2 q2 i1 i2 i3 ht2 hf2 ) tCn_X12_233 rfl okN_X3_init ⟨rfl, rfl, Nat.le_of_ble_eq_true rfl, Nat.le_of_ble_eq_true rfl⟩ hl.1 rfl (Nat.le_of_ble_eq_true rfl) dX12_built_127 ⟨Nat.le_of_ble_eq_true rfl, Nat.le_of_ble_eq_true rfl⟩) hS (fun f3 τ3 L3 H locs hp3 V I hS => ?_)
    have I : cI ks τ3 L3 ψ f3 := I
    have V : cV D L3 f3 A H := V
    have gg3 : gU τ2 L2 f2 q2 τ3 L3 f3 := hp3.1
    have ht3 : ty τ3 L3 q2 2 := hp3.2.1
    have hw3 := gNew hg2 hq2 gg3 ht3 (by decide)
    exact cRetNq (v := some q2) C9 hr hlk hN hNs V I hS ⟨hw3, _, rfl, tyS_of ht3 (by decide), hq2, Or.inr (Or.inr (Or.inr (Or.inr (Or.inr (Or.inr ⟨bq_d hThm1, nRw_x (fun b hb => (hg2.1 b hb).1) hp3.2.2⟩)))))⟩ ⟨Nat.le_of_ble_eq_true rfl, Nat.le_of_ble_eq_true rfl⟩ dX12_built_130
  rcases List.mem_cons.mp hm1 with rfl | hm1
  · refine cNw (ci := 3) (fs := [.int 0, .int 0, .null, .int 0, .int 0, .int 0, .null]) C9 h0 V I hS rfl tC_lay3 tyX4 tyX4_ok tCw_X12_147 dfl_X4 ⟨Nat.le_of_ble_eq_true rfl, Nat.le_of_ble_eq_true rfl⟩ dX12_built_48 (fun q4 τ4 L4 f4 H hg4 hq4 ht4 hf4 V I hS => ?_)
    refine lv_dup hx hb dX12_built_51 rfl ?_
    refine lv_iload_n hx hb dX12_built_52 rfl (lv_at hl 0 rfl) ?_
    refine lv_iload_n hx hb dX12_built_53 rfl (lv_at hl 2 rfl) ?_
    refine lv_iconst (v := 1) hx hb dX12_built_54 (by decide) ?_
    refine lv_icmp_ne (tgt := 62) hx hb dX12_built_55 (by decide) (fun c5 => ?_) (fun c5 => ?_)
    · refine lv_iconst (v := 0) hx hb dX12_built_62 (by decide) ?_
      refine cGoN (cRunI (As := [.int i1, .int 0]) (rest := [.ref q4]) C9 hml hN hNs V I hS (c_X4_init l D ks τ4 L4 A N hN κ hN0 ψ f4 q4 i1 0 ht4 hf4 (⟨rfl, rfl⟩)) tCn_X12_212 rfl okN_X4_init ⟨rfl, rfl, Nat.le_of_ble_eq_true rfl, Nat.le_of_ble_eq_true rfl⟩ hl.1 rfl (Nat.le_of_ble_eq_true rfl) dX12_built_63 ⟨Nat.le_of_ble_eq_true rfl, Nat.le_of_ble_eq_true rfl⟩) hS (fun f6 τ6 L6 H locs hp6 V I hS => ?_)
      have I : cI ks τ6 L6 ψ f6 := I
      have V : cV D L6 f6 A H := V
      have gg6 : gU τ4 L4 f4 q4 τ6 L6 f6 := hp6.1
      have ht6 : ty τ6 L6 q4 3 := hp6.2.1
      have hw6 := gNew hg4 hq4 gg6 ht6 (by decide)
      exact cRetNq (v := some q4) C9 hr hlk hN hNs V I hS ⟨hw6, _, rfl, tyS_of ht6 (by decide), hq4, Or.inl ⟨bq_0 hThm1, hp6.2.2.elim (fun r9 z => z.elim (fun r8 z => z.elim (fun M9 z => ⟨r9, r8, M9, by rw [if_neg c5]; exact z.1, nRow_L z.2.1 (fun b hb => (hg4.1 b hb).1), z.2.2.1, fun b hb => z.2.2.2.1 b (hg4.1 b hb).1, z.2.2.2.2⟩)))⟩⟩ ⟨Nat.le_of_ble_eq_true rfl, Nat.le_of_ble_eq_true rfl⟩ dX12_built_66
    · refine lv_iconst (v := 1) hx hb dX12_built_58 (by decide) ?_
      refine lv_goto (tgt := 63) hx hb dX12_built_59 (by decide) ?_
      refine cGoN (cRunI (As := [.int i1, .int 1]) (rest := [.ref q4]) C9 hml hN hNs V I hS (c_X4_init l D ks τ4 L4 A N hN κ hN0 ψ f4 q4 i1 1 ht4 hf4 (⟨rfl, rfl⟩)) tCn_X12_212 rfl okN_X4_init ⟨rfl, rfl, Nat.le_of_ble_eq_true rfl, Nat.le_of_ble_eq_true rfl⟩ hl.1 rfl (Nat.le_of_ble_eq_true rfl) dX12_built_63 ⟨Nat.le_of_ble_eq_true rfl, Nat.le_of_ble_eq_true rfl⟩) hS (fun f7 τ7 L7 H locs hp7 V I hS => ?_)
      have I : cI ks τ7 L7 ψ f7 := I
      have V : cV D L7 f7 A H := V
      have gg7 : gU τ4 L4 f4 q4 τ7 L7 f7 := hp7.1
      have ht7 : ty τ7 L7 q4 3 := hp7.2.1
      have hw7 := gNew hg4 hq4 gg7 ht7 (by decide)
      exact cRetNq (v := some q4) C9 hr hlk hN hNs V I hS ⟨hw7, _, rfl, tyS_of ht7 (by decide), hq4, Or.inl ⟨bq_0 hThm1, hp7.2.2.elim (fun r9 z => z.elim (fun r8 z => z.elim (fun M9 z => ⟨r9, r8, M9, by rw [if_pos c5]; exact z.1, nRow_L z.2.1 (fun b hb => (hg4.1 b hb).1), z.2.2.1, fun b hb => z.2.2.2.1 b (hg4.1 b hb).1, z.2.2.2.2⟩)))⟩⟩ ⟨Nat.le_of_ble_eq_true rfl, Nat.le_of_ble_eq_true rfl⟩ dX12_built_66
  rcases List.mem_cons.mp hm1 with rfl | hm1
  · refine cNw (ci := 6) (fs := [.int 0, .int 0, .null, .int 0]) C9 h0 V I hS rfl tC_lay6 tyX7 tyX7_ok tCw_X12_215 dfl_X7 ⟨Nat.le_of_ble_eq_true rfl, Nat.le_of_ble_eq_true rfl⟩ dX12_built_67 (fun q8 τ8 L8 f8 H hg8 hq8 ht8 hf8 V I hS => ?_)
    refine lv_dup hx hb dX12_built_70 rfl ?_
    refine lv_iload_n hx hb dX12_built_71 rfl (lv_at hl 0 rfl) ?_
    refine lv_iload_n hx hb dX12_built_72 rfl (lv_at hl 2 rfl) ?_
    refine cGoN (cRunI (As := [.int i1, .int i3]) (rest := [.ref q8]) C9 hml hN hNs V I hS (c_X7_init l D ks τ8 L8 A N hN κ hN0 ψ f8 q8 i1 i3 ht8 hf8 ) tCn_X12_217 rfl okN_X7_init ⟨rfl, rfl, Nat.le_of_ble_eq_true rfl, Nat.le_of_ble_eq_true rfl⟩ hl.1 rfl (Nat.le_of_ble_eq_true rfl) dX12_built_73 ⟨Nat.le_of_ble_eq_true rfl, Nat.le_of_ble_eq_true rfl⟩) hS (fun f9 τ9 L9 H locs hp9 V I hS => ?_)
    have I : cI ks τ9 L9 ψ f9 := I
    have V : cV D L9 f9 A H := V
    have gg9 : gU τ8 L8 f8 q8 τ9 L9 f9 := hp9.1
    have ht9 : ty τ9 L9 q8 6 := hp9.2.1
    have hw9 := gNew hg8 hq8 gg9 ht9 (by decide)
    exact cRetNq (v := some q8) C9 hr hlk hN hNs V I hS ⟨hw9, _, rfl, tyS_of ht9 (by decide), hq8, Or.inr (Or.inl ⟨bq_1 hThm1, nRw_x (fun b hb => (hg8.1 b hb).1) hp9.2.2⟩)⟩ ⟨Nat.le_of_ble_eq_true rfl, Nat.le_of_ble_eq_true rfl⟩ dX12_built_76
  rcases List.mem_cons.mp hm1 with rfl | hm1
  · refine cNw (ci := 4) (fs := [.int 0, .int 0, .null, .null, .int 0, .int 0]) C9 h0 V I hS rfl tC_lay4 tyX5 tyX5_ok tCw_X12_220 dfl_X5 ⟨Nat.le_of_ble_eq_true rfl, Nat.le_of_ble_eq_true rfl⟩ dX12_built_77 (fun q10 τ10 L10 f10 H hg10 hq10 ht10 hf10 V I hS => ?_)
    refine lv_dup hx hb dX12_built_80 rfl ?_
    refine lv_iload_n hx hb dX12_built_81 rfl (lv_at hl 0 rfl) ?_
    refine lv_iload_n hx hb dX12_built_82 rfl (lv_at hl 2 rfl) ?_
    refine cGoN (cRunI (As := [.int i1, .int i3]) (rest := [.ref q10]) C9 hml hN hNs V I hS (c_X5_init l D ks τ10 L10 A N hN κ hN0 ψ f10 q10 i1 i3 ht10 hf10 (hz (bt_4 hThm1))) tCn_X12_222 rfl okN_X5_init ⟨rfl, rfl, Nat.le_of_ble_eq_true rfl, Nat.le_of_ble_eq_true rfl⟩ hl.1 rfl (Nat.le_of_ble_eq_true rfl) dX12_built_83 ⟨Nat.le_of_ble_eq_true rfl, Nat.le_of_ble_eq_true rfl⟩) hS (fun f11 τ11 L11 H locs hp11 V I hS => ?_)
    have I : cI ks τ11 L11 ψ f11 := I
    have V : cV D L11 f11 A H := V
    have gg11 : gU τ10 L10 f10 q10 τ11 L11 f11 := hp11.1
    have ht11 : ty τ11 L11 q10 4 := hp11.2.1
    have hw11 := gNew hg10 hq10 gg11 ht11 (by decide)
    exact cRetNq (v := some q10) C9 hr hlk hN hNs V I hS ⟨hw11, _, rfl, tyS_of ht11 (by decide), hq10, Or.inr (Or.inr (Or.inl ⟨bt_4 hThm1, hp11.2.2.elim (fun q9 z => ⟨q9, fun y => z.1 (hg10.1 q9 y).1, z.2.1, z.2.2.1, nRw_x (fun b hb => (hg10.1 b hb).1) z.2.2.2⟩)⟩))⟩ ⟨Nat.le_of_ble_eq_true rfl, Nat.le_of_ble_eq_true rfl⟩ dX12_built_86
  rcases List.mem_cons.mp hm1 with rfl | hm1
  · refine cNw (ci := 1) (fs := [.int 0, .int 0, .null, .int 0, .int 0]) C9 h0 V I hS rfl tC_lay1 tyX2 tyX2_ok tCw_X12_223 dfl_X2 ⟨Nat.le_of_ble_eq_true rfl, Nat.le_of_ble_eq_true rfl⟩ dX12_built_87 (fun q12 τ12 L12 f12 H hg12 hq12 ht12 hf12 V I hS => ?_)
    refine lv_dup hx hb dX12_built_90 rfl ?_
    refine lv_iload_n hx hb dX12_built_91 rfl (lv_at hl 0 rfl) ?_
    refine lv_iload_n hx hb dX12_built_92 rfl (lv_at hl 1 rfl) ?_
    refine lv_iconst (v := 1) hx hb dX12_built_93 (by decide) ?_
    refine lv_iload_n hx hb dX12_built_94 rfl (lv_at hl 2 rfl) ?_
    refine cGoN (cRunI (As := [.int i1, .int i2, .int 1, .int i3]) (rest := [.ref q12]) C9 hml hN hNs V I hS (c_X2_init l D ks τ12 L12 A N hN κ hN0 ψ f12 q12 i1 i2 1 i3 ht12 hf12 (⟨rfl, rfl⟩)) tCn_X12_225 rfl okN_X2_init ⟨rfl, rfl, Nat.le_of_ble_eq_true rfl, Nat.le_of_ble_eq_true rfl⟩ hl.1 rfl (Nat.le_of_ble_eq_true rfl) dX12_built_95 ⟨Nat.le_of_ble_eq_true rfl, Nat.le_of_ble_eq_true rfl⟩) hS (fun f13 τ13 L13 H locs hp13 V I hS => ?_)
    have I : cI ks τ13 L13 ψ f13 := I
    have V : cV D L13 f13 A H := V
    have gg13 : gU τ12 L12 f12 q12 τ13 L13 f13 := hp13.1
    have ht13 : ty τ13 L13 q12 1 := hp13.2.1
    have hw13 := gNew hg12 hq12 gg13 ht13 (by decide)
    exact cRetNq (v := some q12) C9 hr hlk hN hNs V I hS ⟨hw13, _, rfl, tyS_of ht13 (by decide), hq12, Or.inr (Or.inr (Or.inr (Or.inl ⟨bq_5 hThm1, nRw_x (fun b hb => (hg12.1 b hb).1) hp13.2.2⟩)))⟩ ⟨Nat.le_of_ble_eq_true rfl, Nat.le_of_ble_eq_true rfl⟩ dX12_built_98
  rcases List.mem_cons.mp hm1 with rfl | hm1
  · refine cNw (ci := 1) (fs := [.int 0, .int 0, .null, .int 0, .int 0]) C9 h0 V I hS rfl tC_lay1 tyX2 tyX2_ok tCw_X12_223 dfl_X2 ⟨Nat.le_of_ble_eq_true rfl, Nat.le_of_ble_eq_true rfl⟩ dX12_built_99 (fun q14 τ14 L14 f14 H hg14 hq14 ht14 hf14 V I hS => ?_)
    refine lv_dup hx hb dX12_built_102 rfl ?_
    refine lv_iload_n hx hb dX12_built_103 rfl (lv_at hl 0 rfl) ?_
    refine lv_iload_n hx hb dX12_built_104 rfl (lv_at hl 1 rfl) ?_
    refine lv_iconst (v := 0) hx hb dX12_built_105 (by decide) ?_
    refine lv_iconst (v := 0) hx hb dX12_built_106 (by decide) ?_
    refine cGoN (cRunI (As := [.int i1, .int i2, .int 0, .int 0]) (rest := [.ref q14]) C9 hml hN hNs V I hS (c_X2_init l D ks τ14 L14 A N hN κ hN0 ψ f14 q14 i1 i2 0 0 ht14 hf14 (⟨rfl, rfl⟩)) tCn_X12_225 rfl okN_X2_init ⟨rfl, rfl, Nat.le_of_ble_eq_true rfl, Nat.le_of_ble_eq_true rfl⟩ hl.1 rfl (Nat.le_of_ble_eq_true rfl) dX12_built_107 ⟨Nat.le_of_ble_eq_true rfl, Nat.le_of_ble_eq_true rfl⟩) hS (fun f15 τ15 L15 H locs hp15 V I hS => ?_)
    have I : cI ks τ15 L15 ψ f15 := I
    have V : cV D L15 f15 A H := V
    have gg15 : gU τ14 L14 f14 q14 τ15 L15 f15 := hp15.1
    have ht15 : ty τ15 L15 q14 1 := hp15.2.1
    have hw15 := gNew hg14 hq14 gg15 ht15 (by decide)
    exact cRetNq (v := some q14) C9 hr hlk hN hNs V I hS ⟨hw15, _, rfl, tyS_of ht15 (by decide), hq14, Or.inr (Or.inr (Or.inr (Or.inr (Or.inl ⟨bq_6 hThm1, nRw_x (fun b hb => (hg14.1 b hb).1) hp15.2.2⟩))))⟩ ⟨Nat.le_of_ble_eq_true rfl, Nat.le_of_ble_eq_true rfl⟩ dX12_built_110
  rcases List.mem_cons.mp hm1 with rfl | hm1
  · refine cNw (ci := 0) (fs := [.int 0, .int 0, .null, .int 0, .int 0]) C9 h0 V I hS rfl tC_lay0 tyX1 tyX1_ok tCw_X12_228 dfl_X1 ⟨Nat.le_of_ble_eq_true rfl, Nat.le_of_ble_eq_true rfl⟩ dX12_built_111 (fun q16 τ16 L16 f16 H hg16 hq16 ht16 hf16 V I hS => ?_)
    refine lv_dup hx hb dX12_built_114 rfl ?_
    refine lv_iload_n hx hb dX12_built_115 rfl (lv_at hl 0 rfl) ?_
    refine cGoN (cRunI (As := [.int i1]) (rest := [.ref q16]) C9 hml hN hNs V I hS (c_X1_init l D ks τ16 L16 A N hN κ hN0 ψ f16 q16 i1 ht16 hf16 ) tCn_X12_230 rfl okN_X1_init ⟨rfl, rfl, Nat.le_of_ble_eq_true rfl, Nat.le_of_ble_eq_true rfl⟩ hl.1 rfl (Nat.le_of_ble_eq_true rfl) dX12_built_116 ⟨Nat.le_of_ble_eq_true rfl, Nat.le_of_ble_eq_true rfl⟩) hS (fun f17 τ17 L17 H locs hp17 V I hS => ?_)
    have I : cI ks τ17 L17 ψ f17 := I
    have V : cV D L17 f17 A H := V
    have gg17 : gU τ16 L16 f16 q16 τ17 L17 f17 := hp17.1
    have ht17 : ty τ17 L17 q16 0 := hp17.2.1
    have hw17 := gNew hg16 hq16 gg17 ht17 (by decide)
    exact cRetNq (v := some q16) C9 hr hlk hN hNs V I hS ⟨hw17, _, rfl, tyS_of ht17 (by decide), hq16, Or.inr (Or.inr (Or.inr (Or.inr (Or.inr (Or.inl ⟨bq_7 hThm1, nRw_x (fun b hb => (hg16.1 b hb).1) hp17.2.2⟩)))))⟩ ⟨Nat.le_of_ble_eq_true rfl, Nat.le_of_ble_eq_true rfl⟩ dX12_built_119
  exact absurd hm1 List.not_mem_nil

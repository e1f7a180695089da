/-! the class: its constants, exactly, and all else that stands outside of the pool -/
abbrev kC : Type := (Nat → Nat) × (Nat → Nat) × (Nat → Nat)
def wK : List Int32 := [(-1), (-1), (-1), (-1), (-1), (-1), (-1), (-1), 0, 0, 0, 0, 0, 0, 5, 5, 5, 5, 1, 1, 1, 2, 2, 3, 4, 4, 4, 4, 6, 6, 7, 7, 7, 7]
def sLn : List Nat := [4, 3, 4, 4, 4, 5, 3, 4, 4, 3, 6, 4, 6, 3, 3, 3, 3, 3, 7, 7, 5, 4, 5, 4, 3, 4, 5, 4, 4, 4, 2, 3, 3, 4, 1, 1, 1, 1, 1, 1, 0, 0, 1, 1, 1, 1, 1, 1, 1, 1, 2, 3, 2, 2, 1, 1, 1, 1, 1, 1, 1, 1, 1, 1, 1, 1, 1, 1]
def sBy : List (List Int32) := [[108, 111, 97, 100], [97, 100, 100], [106, 117, 109, 112], [122, 101, 114, 111], [108, 101, 115, 115], [115, 108, 101, 101, 112], [101, 110, 100], [116, 105, 109, 101], [108, 111, 99, 107], [116, 114, 121], [117, 110, 108, 111, 99, 107], [119, 97, 105, 116], [115, 105, 103, 110, 97, 108], [97, 108, 108], [103, 101, 116], [115, 101, 116], [105, 110, 99], [99, 97, 115], [97, 99, 113, 117, 105, 114, 101], [114, 101, 108, 101, 97, 115, 101], [100, 114, 97, 105, 110], [100, 111, 119, 110], [97, 119, 97, 105, 116], [109, 101, 101, 116], [112, 117, 116], [116, 97, 107, 101], [111, 102, 102, 101, 114], [112, 111, 108, 108], [103, 105, 118, 101], [106, 111, 105, 110], [105, 110], [111, 117, 116], [111, 119, 110], [98, 97, 99, 107], [110], [110], [107], [107], [107], [110], [], [], [111], [111], [111], [111], [111], [111], [111], [111], [111, 110], [111, 110, 110], [111, 112], [111, 112], [111], [111], [111], [111], [111], [111], [111], [111], [111], [111], [111], [111], [111], [111]]
def swM : List Int32 := [1, 2, 4, 5, 6, 7, 0, 3, 0, 0, 0, 0, 0, 0, 15, 16, 17, 18, 8, 9, 0, 10, 11, 0, 12, 14, 13, 0, 19, 0, 20, 21, 22, 0]
def wNx : List (String × Nat) := [("END", 6), ("LOCK", 8), ("TRY", 9), ("UNLOCK", 10), ("SIGNAL", 12), ("ALL", 13), ("OWN", 32)]
theorem sLn_le : (∀ j, sLn.getD j 0 ≤ 16) ∧ ∀ j, 34 ≤ j → sLn.getD j 0 ≤ 3 := by
  have h : ∀ j, j < 68 → sLn.getD j 0 ≤ 16 ∧ (34 ≤ j → sLn.getD j 0 ≤ 3) := by decide +kernel
  have h0 : ∀ j, ¬ j < 68 → sLn.getD j 0 = 0 := fun j hj => by
    rw [List.getD_eq_getElem?_getD, List.getElem?_eq_none (by show 68 ≤ j; omega)]; rfl
  refine ⟨fun j => ?_, fun j hj => ?_⟩
  · by_cases z : j < 68
    · exact (h j z).1
    · rw [h0 j z]; omega
  · by_cases z : j < 68
    · exact (h j z).2 hj
    · rw [h0 j z]; omega
/-- the constants of Word are κ.1 i, i < 34; their Strings κ.2.1 j (text j, numbers 34 + j), the Strings' bytes κ.2.2 j -/
def nWd (κ : kC) (i : Nat) (A : Nat → Prop) (U : State) : Prop :=
  va_O "TurnKeeper$Word" (κ.1 i) A U U.heap ∧ va_OF "java/lang/Enum" "ordinal" "I" (.int (nI i)) (κ.1 i) A U U.heap ∧ va_OF "TurnKeeper$Word" "kind" "I" (.int (wK.getD i 0)) (κ.1 i) A U U.heap ∧ va_OF "TurnKeeper$Word" "text" "Ljava/lang/String;" (.ref (κ.2.1 i)) (κ.1 i) A U U.heap ∧ va_OF "TurnKeeper$Word" "numbers" "Ljava/lang/String;" (.ref (κ.2.1 (34 + i))) (κ.1 i) A U U.heap
def nSt (κ : kC) (j : Nat) (A : Nat → Prop) (U : State) : Prop :=
  va_O "java/lang/String" (κ.2.1 j) A U U.heap ∧ va_OF "java/lang/String" "coder" "B" (.int 0) (κ.2.1 j) A U U.heap ∧ va_OF "java/lang/String" "value" "[B" (.ref (κ.2.2 j)) (κ.2.1 j) A U U.heap ∧ va_T .byte (κ.2.2 j) (sLn.getD j 0) (fun i => .int ((sBy.getD j []).getD i 0)) A U U.heap
def nwL : List Cond := [.fieldLinkNest "TurnKeeper$Tape" 50 "TurnKeeper" "WORDS" "[LTurnKeeper$Word;" "TurnKeeper", .fieldLinkNest "TurnKeeper$Strand" 42 "TurnKeeper" "WORDS" "[LTurnKeeper$Word;" "TurnKeeper",
  .castable "TurnKeeper$Lock" "TurnKeeper$Lock", .castable "TurnKeeper$Gate" "TurnKeeper$Sync", .castable "TurnKeeper$Holder" "TurnKeeper$Sync", .castable "TurnKeeper$Hurdle" "TurnKeeper$Sync", .castable "TurnKeeper$Lock" "TurnKeeper$Sync", .castable "TurnKeeper$Queue" "TurnKeeper$Sync", .castable "TurnKeeper$Semaphore" "TurnKeeper$Sync",
  .declares ⟨"TurnKeeper$Sync", "perform", "(LTurnKeeper$Strand;LTurnKeeper$Word;)V"⟩, .declares ⟨"TurnKeeper$Sync", "value", "()J"⟩,
  .methodLinkNest "TurnKeeper" 9 ⟨"TurnKeeper$Tape", "<init>", "()V"⟩ "TurnKeeper", .methodLinkNest "TurnKeeper$Sync" 11 ⟨"TurnKeeper$Row", "<init>", "()V"⟩ "TurnKeeper", .methodLinkNest "TurnKeeper$Lock" 17 ⟨"TurnKeeper$Row", "<init>", "()V"⟩ "TurnKeeper",
  .declares (Bundle.initS "java/lang/RuntimeException"), .declares (Bundle.initS "java/lang/Exception"), .declares (Bundle.initS Bundle.tN),
  .castable "java/lang/IndexOutOfBoundsException" "java/lang/IndexOutOfBoundsException", .castable "java/lang/IllegalArgumentException" "java/lang/IllegalArgumentException", .castable "java/lang/IllegalStateException" "java/lang/IllegalStateException", .castable "java/util/NoSuchElementException" "java/util/NoSuchElementException", .castable "java/lang/UnsupportedOperationException" "java/lang/UnsupportedOperationException"]
def nNo : List String := ["TurnKeeper$Gate", "TurnKeeper$Holder", "TurnKeeper$Hurdle", "TurnKeeper$Queue", "TurnKeeper$Semaphore"]
def nMs : List (Nat × String) := [(40, "THE TAPE has no room"), (50, "n is out of range"), (57, "kind or a is out of range"), (65, "full"), (74, "no such OBJECT"), (81, "a THREAD is in a row of it"), (91, "the PROGRAM is broken"), (236, "t is out of range"), (119, "how or n is out of range"), (158, "what is out of range"), (184, "its KIND has no such number")]
def nZw (κ : kC) (A : Nat → Prop) (U : State) (tw : Nat) : Prop := va_Z "TurnKeeper" "WORDS" "[LTurnKeeper$Word;" (.ref tw) A U U.heap ∧ va_T (.object "TurnKeeper$Word") tw 34 (fun j => .ref (κ.1 j)) A U U.heap
def nZs (A : Nat → Prop) (U : State) (ts : Nat) : Prop := va_Z "TurnKeeper$1" "$SwitchMap$TurnKeeper$Word" "[I" (.ref ts) A U U.heap ∧ va_T .int ts 34 (fun j => .int (swM.getD j 0)) A U U.heap
def N0 (κ : kC) (A : Nat → Prop) (U : State) : Prop :=
  (∀ i, i < 34 → nWd κ i A U) ∧ (∀ j, j < 68 → nSt κ j A U) ∧ (∀ i j, i < 34 → j < 34 → κ.1 i = κ.1 j → i = j) ∧ (∃ tw, nZw κ A U tw) ∧ (∃ ts, nZs A U ts) ∧ (∀ x ∈ wNx, va_Z "TurnKeeper$Word" x.1 "LTurnKeeper$Word;" (.ref (κ.1 x.2)) A U U.heap) ∧
  va_Z "java/lang/String" "COMPACT_STRINGS" "Z" (.int 1) A U U.heap ∧ va_Zq "jdk/internal/util/Preconditions" "SIOOBE_FORMATTER" "Ljava/util/function/BiFunction;" A U U.heap ∧
  (∀ w ∈ nwL, va_Nw w U) ∧ (∀ C ∈ nNo, va_Nc C "TurnKeeper$Lock" U) ∧ (∀ x ∈ nMs, ∃ q, vk_R "TurnKeeper" x.1 x.2 q U) ∧ (vx_Zq Bundle.tN "UNASSIGNED_STACK" Bundle.steD A U U.heap ∧ vx_Zq Bundle.tN "SUPPRESSED_SENTINEL" Bundle.listD A U U.heap) ∧ (va_AO "TurnKeeper$Strand" U ∧ va_AO "TurnKeeper$Sync" U) ∧ ∀ q, U.heap.size ≤ q → A q
theorem N0_k {κ : kC} {A : Nat → Prop} : cNk A (N0 κ A) := by
  intro u U hW hsz hq h
  have al := hW.alike
  obtain ⟨h1, h2, h3, ⟨tw, h4a, h4b⟩, ⟨ts, h5a, h5b⟩, h6, h7, h7b, h8, h9, h10, ⟨h11, h12⟩, ⟨h14, h15⟩, h13⟩ := h
  refine ⟨fun i hi => ?_, fun j hj => ?_, h3, ⟨tw, (va_Z.moved al h4a).kept hq, (va_T.moved al h4b).kept hq⟩, ⟨ts, (va_Z.moved al h5a).kept hq, (va_T.moved al h5b).kept hq⟩, fun x hx => (va_Z.moved al (h6 x hx)).kept hq, (va_Z.moved al h7).kept hq, (va_Zq.moved al h7b).kept hq, fun w hw => ?_, fun C hC => va_Nc.moved al (h9 C hC), fun x hx => ?_, ⟨(vx_Zq.moved al h11).kept hq, (vx_Zq.moved al h12).kept hq⟩, ⟨va_AO.moved al h14, va_AO.moved al h15⟩, fun q hh => h13 q (Nat.le_trans hsz hh)⟩
  · obtain ⟨a1, a2, a3, a4, a5⟩ := h1 i hi
    exact ⟨(va_O.moved al a1).kept hq, (va_OF.moved al a2).kept hq, (va_OF.moved al a3).kept hq, (va_OF.moved al a4).kept hq, (va_OF.moved al a5).kept hq⟩
  · obtain ⟨a1, a2, a3, a4⟩ := h2 j hj
    exact ⟨(va_O.moved al a1).kept hq, (va_OF.moved al a2).kept hq, (va_OF.moved al a3).kept hq, (va_T.moved al a4).kept hq⟩
  · have z := h8 w hw
    simp only [nwL, List.mem_cons, List.not_mem_nil, or_false] at hw
    rcases hw with rfl | rfl | rfl | rfl | rfl | rfl | rfl | rfl | rfl | rfl | rfl | rfl | rfl | rfl | rfl | rfl | rfl | rfl | rfl | rfl | rfl | rfl
    all_goals first | exact va_Nw.warmF hW z | exact va_Nw.warmC hW z | exact va_Nw.warmD hW z | exact va_Nw.warmM hW z
  · obtain ⟨q, z⟩ := h10 x hx
    exact ⟨q, vk_R.warm hW z⟩
section CN
variable {p : Program} {l : Launch} {e : Env} {R : Room} {s : State} {m : MethodId} {args : Array Value} {below : List Frame} {meth : Method} {c : Code} {H : Heap} {locs : List Loc} {cells slots : Nat} {Q : State → Prop}
variable {cc : ByteArray} {pc : Nat} {ls : Array Slot} {rest : List Value} {D : va_G} {ks : kS} {τ : Nat → Nat} {L : List Nat} {A : Nat → Prop} {N : State → Prop} {ψ : Int32} {f : Nat → va_E} {own : String} {a index : Nat} {κ : kC}
theorem cGk {i : Nat} (hi : i < 34) (C9 : cC own p s m args c cc D ks) (hN : N0 κ A s) (hS : va_S A s.heap H locs) (hl : Cond.fieldLink own index "TurnKeeper$Word" "kind" "I" ∈ tC) (hdg : decode cc pc = .ok (.getfield index, 3))
    (kk : ∀ x : Int32, x = wK.getD i 0 → W p l e R s m args below meth c H locs cells slots Q (F0 m (pc + 3) ls (.int x :: rest))) : W p l e R s m args below meth c H locs cells slots Q (F0 m pc ls (.ref (κ.1 i) :: rest)) := by
  obtain ⟨hx, hb, hown, hts, -⟩ := C9
  exact vk_getf hx hb (hN.1 i hi).2.2.1 hS hown (hts _ hl) (fun _ h => h) hdg (kk _ rfl)
theorem cGo {i : Nat} (hi : i < 34) (C9 : cC own p s m args c cc D ks) (hN : N0 κ A s) (hS : va_S A s.heap H locs) (hl : Cond.fieldLink own index "java/lang/Enum" "ordinal" "I" ∈ tC) (hdg : decode cc pc = .ok (.getfield index, 3))
    (kk : ∀ x : Int32, x = nI i → 0 ≤ x ∧ x < 34 → W p l e R s m args below meth c H locs cells slots Q (F0 m (pc + 3) ls (.int x :: rest))) : W p l e R s m args below meth c H locs cells slots Q (F0 m pc ls (.ref (κ.1 i) :: rest)) := by
  obtain ⟨hx, hb, hown, hts, -⟩ := C9
  exact vk_getf hx hb (hN.1 i hi).2.1 hS hown (hts _ hl) (fun _ h => h) hdg (kk (nI i) rfl ⟨nI_pos' (by omega), nI_lt (b := 34) hi (by decide)⟩)
theorem cGt {i : Nat} (hi : i < 34) (C9 : cC own p s m args c cc D ks) (hN : N0 κ A s) (hS : va_S A s.heap H locs) (hl : Cond.fieldLink own index "TurnKeeper$Word" "text" "Ljava/lang/String;" ∈ tC) (hdg : decode cc pc = .ok (.getfield index, 3))
    (kk : W p l e R s m args below meth c H locs cells slots Q (F0 m (pc + 3) ls (.ref (κ.2.1 i) :: rest))) : W p l e R s m args below meth c H locs cells slots Q (F0 m pc ls (.ref (κ.1 i) :: rest)) := by
  obtain ⟨hx, hb, hown, hts, -⟩ := C9
  exact vk_getf hx hb (hN.1 i hi).2.2.2.1 hS hown (hts _ hl) (fun _ h => h) hdg kk
theorem cGn {i : Nat} (hi : i < 34) (C9 : cC own p s m args c cc D ks) (hN : N0 κ A s) (hS : va_S A s.heap H locs) (hl : Cond.fieldLink own index "TurnKeeper$Word" "numbers" "Ljava/lang/String;" ∈ tC) (hdg : decode cc pc = .ok (.getfield index, 3))
    (kk : W p l e R s m args below meth c H locs cells slots Q (F0 m (pc + 3) ls (.ref (κ.2.1 (34 + i)) :: rest))) : W p l e R s m args below meth c H locs cells slots Q (F0 m pc ls (.ref (κ.1 i) :: rest)) := by
  obtain ⟨hx, hb, hown, hts, -⟩ := C9
  exact vk_getf hx hb (hN.1 i hi).2.2.2.2 hS hown (hts _ hl) (fun _ h => h) hdg kk
theorem cZw (C9 : cC own p s m args c cc D ks) (hN : N0 κ A s) (hS : va_S A s.heap H locs) (hl : Cond.fieldLinkNest own index "TurnKeeper" "WORDS" "[LTurnKeeper$Word;" "TurnKeeper" ∈ nwL) (hdg : decode cc pc = .ok (.getstatic index, 3))
    (kk : ∀ tw : Nat, nZw κ A s tw → W p l e R s m args below meth c H locs cells slots Q (F0 m (pc + 3) ls (.ref tw :: rest))) : W p l e R s m args below meth c H locs cells slots Q (F0 m pc ls rest) := by
  obtain ⟨hx, hb, hown, hts, -⟩ := C9
  obtain ⟨tw, h⟩ := hN.2.2.2.1
  exact va_getsN hx hb h.1 hS hown (va_Nw.use rfl (hN.2.2.2.2.2.2.2.2.1 _ hl)) (fun _ h => h) hdg (kk tw h)
theorem cLw {tw : Nat} {i : Int32} (C9 : cC own p s m args c cc D ks) (hT : nZw κ A s tw) (hS : va_S A s.heap H locs) (hin : vp_in i 34) (hdg : decode cc pc = .ok (.aaload, 1))
    (kk : ∀ w : Nat, w = i.toNatClampNeg → w < 34 → W p l e R s m args below meth c H locs cells slots Q (F0 m (pc + 1) ls (.ref (κ.1 w) :: rest))) : W p l e R s m args below meth c H locs cells slots Q (F0 m pc ls (.int i :: .ref tw :: rest)) := by
  obtain ⟨hx, hb, hown, hts, -⟩ := C9
  exact vb_tq hx hb hT.2 hS hin rfl hdg (kk _ rfl (Nat.not_le.mp fun q => hin (Or.inr q)))
theorem cAw {tw : Nat} (C9 : cC own p s m args c cc D ks) (hT : nZw κ A s tw) (hS : va_S A s.heap H locs) (hdg : decode cc pc = .ok (.arraylength, 1))
    (kk : W p l e R s m args below meth c H locs cells slots Q (F0 m (pc + 1) ls (.int 34 :: rest))) : W p l e R s m args below meth c H locs cells slots Q (F0 m pc ls (.ref tw :: rest)) := va_tlen C9.1 C9.2.1 hT.2 hS rfl hdg kk
theorem cZs (C9 : cC own p s m args c cc D ks) (hN : N0 κ A s) (hS : va_S A s.heap H locs) (hl : Cond.fieldLink own index "TurnKeeper$1" "$SwitchMap$TurnKeeper$Word" "[I" ∈ tC) (hdg : decode cc pc = .ok (.getstatic index, 3))
    (kk : ∀ ts : Nat, nZs A s ts → W p l e R s m args below meth c H locs cells slots Q (F0 m (pc + 3) ls (.ref ts :: rest))) : W p l e R s m args below meth c H locs cells slots Q (F0 m pc ls rest) := by
  obtain ⟨hx, hb, hown, hts, -⟩ := C9
  obtain ⟨ts, h⟩ := hN.2.2.2.2.1
  exact va_gets hx hb h.1 hS hown (hts _ hl) (fun _ h => h) hdg (kk ts h)
theorem cLs {ts : Nat} {i : Int32} (C9 : cC own p s m args c cc D ks) (hT : nZs A s ts) (hS : va_S A s.heap H locs) (hin : vp_in i 34) (hdg : decode cc pc = .ok (.iaload, 1))
    (kk : ∀ x : Int32, x = swM.getD i.toNatClampNeg 0 → W p l e R s m args below meth c H locs cells slots Q (F0 m (pc + 1) ls (.int x :: rest))) : W p l e R s m args below meth c H locs cells slots Q (F0 m pc ls (.int i :: .ref ts :: rest)) := va_ti C9.1 C9.2.1 hT.2 hS hin rfl hdg (kk _ rfl)
theorem cZn {n : String} {i : Nat} (hn : (n, i) ∈ wNx) (C9 : cC own p s m args c cc D ks) (hN : N0 κ A s) (hS : va_S A s.heap H locs) (hl : Cond.fieldLink own index "TurnKeeper$Word" n "LTurnKeeper$Word;" ∈ tC) (hdg : decode cc pc = .ok (.getstatic index, 3))
    (kk : W p l e R s m args below meth c H locs cells slots Q (F0 m (pc + 3) ls (.ref (κ.1 i) :: rest))) : W p l e R s m args below meth c H locs cells slots Q (F0 m pc ls rest) := by
  obtain ⟨hx, hb, hown, hts, -⟩ := C9
  exact va_gets hx hb (hN.2.2.2.2.2.1 (n, i) hn) hS hown (hts _ hl) (fun _ h => h) hdg kk
theorem cZc (C9 : cC own p s m args c cc D ks) (hN : N0 κ A s) (hS : va_S A s.heap H locs) (hl : Cond.fieldLink own index "java/lang/String" "COMPACT_STRINGS" "Z" ∈ tC) (hdg : decode cc pc = .ok (.getstatic index, 3))
    (kk : W p l e R s m args below meth c H locs cells slots Q (F0 m (pc + 3) ls (.int 1 :: rest))) : W p l e R s m args below meth c H locs cells slots Q (F0 m pc ls rest) := by
  obtain ⟨hx, hb, hown, hts, -⟩ := C9
  exact va_gets hx hb hN.2.2.2.2.2.2.1 hS hown (hts _ hl) (fun _ h => h) hdg kk
theorem cZf (C9 : cC own p s m args c cc D ks) (hN : N0 κ A s) (hS : va_S A s.heap H locs) (hl : Cond.fieldLink own index "jdk/internal/util/Preconditions" "SIOOBE_FORMATTER" "Ljava/util/function/BiFunction;" ∈ tC) (hdg : decode cc pc = .ok (.getstatic index, 3))
    (k0 : W p l e R s m args below meth c H locs cells slots Q (F0 m (pc + 3) ls (.null :: rest))) (k1 : ∀ t : Nat, W p l e R s m args below meth c H locs cells slots Q (F0 m (pc + 3) ls (.ref t :: rest))) : W p l e R s m args below meth c H locs cells slots Q (F0 m pc ls rest) := by
  obtain ⟨hx, hb, hown, hts, -⟩ := C9
  rcases hN.2.2.2.2.2.2.2.1 with h | ⟨t, h⟩
  · exact va_gets hx hb h hS hown (hts _ hl) (fun _ h => h) hdg k0
  · exact va_gets hx hb h hS hown (hts _ hl) (fun _ h => h) hdg (k1 t)
theorem cGc {j : Nat} (hj : j < 68) (C9 : cC own p s m args c cc D ks) (hN : N0 κ A s) (hS : va_S A s.heap H locs) (hl : Cond.fieldLink own index "java/lang/String" "coder" "B" ∈ tC) (hdg : decode cc pc = .ok (.getfield index, 3))
    (kk : W p l e R s m args below meth c H locs cells slots Q (F0 m (pc + 3) ls (.int 0 :: rest))) : W p l e R s m args below meth c H locs cells slots Q (F0 m pc ls (.ref (κ.2.1 j) :: rest)) := by
  obtain ⟨hx, hb, hown, hts, -⟩ := C9
  exact vk_getf hx hb (hN.2.1 j hj).2.1 hS hown (hts _ hl) (fun _ h => h) hdg kk
theorem cGv {j : Nat} (hj : j < 68) (C9 : cC own p s m args c cc D ks) (hN : N0 κ A s) (hS : va_S A s.heap H locs) (hl : Cond.fieldLink own index "java/lang/String" "value" "[B" ∈ tC) (hdg : decode cc pc = .ok (.getfield index, 3))
    (kk : W p l e R s m args below meth c H locs cells slots Q (F0 m (pc + 3) ls (.ref (κ.2.2 j) :: rest))) : W p l e R s m args below meth c H locs cells slots Q (F0 m pc ls (.ref (κ.2.1 j) :: rest)) := by
  obtain ⟨hx, hb, hown, hts, -⟩ := C9
  exact vk_getf hx hb (hN.2.1 j hj).2.2.1 hS hown (hts _ hl) (fun _ h => h) hdg kk
theorem cAb {j : Nat} (hj : j < 68) (C9 : cC own p s m args c cc D ks) (hN : N0 κ A s) (hS : va_S A s.heap H locs) (hdg : decode cc pc = .ok (.arraylength, 1)) (kk : W p l e R s m args below meth c H locs cells slots Q (F0 m (pc + 1) ls (.int (nI (sLn.getD j 0)) :: rest))) : W p l e R s m args below meth c H locs cells slots Q (F0 m pc ls (.ref (κ.2.2 j) :: rest)) := va_tlen C9.1 C9.2.1 (hN.2.1 j hj).2.2.2 hS rfl hdg kk
theorem cLB {j : Nat} {i : Int32} (hj : j < 68) (C9 : cC own p s m args c cc D ks) (hN : N0 κ A s) (hS : va_S A s.heap H locs) (hin : vp_in i (sLn.getD j 0)) (hdg : decode cc pc = .ok (.baload, 1)) (kk : ∀ x : Int32, x = (sBy.getD j []).getD i.toNatClampNeg 0 → W p l e R s m args below meth c H locs cells slots Q (F0 m (pc + 1) ls (.int x :: rest))) : W p l e R s m args below meth c H locs cells slots Q (F0 m pc ls (.int i :: .ref (κ.2.2 j) :: rest)) := va_tb C9.1 C9.2.1 (hN.2.1 j hj).2.2.2 hS hin rfl hdg (kk _ rfl)
theorem isW_r {i : Nat} (hN : N0 κ A s) (hS : va_S A s.heap H locs) (hi : i < 34) : ∃ cell : Cell, H[κ.1 i]? = some cell ∧ cell.vm.isStatics = false ∧ s.vm.findClass "TurnKeeper$Word" = some cell.cls := by
  obtain ⟨cell, h1, h2, h3, -⟩ := (hN.1 i hi).1.kept hS.2.1
  exact ⟨cell, h1, h2, h3⟩
theorem isT_r {j : Nat} (hN : N0 κ A s) (hS : va_S A s.heap H locs) (hj : j < 68) : ∃ cell : Cell, H[κ.2.1 j]? = some cell ∧ cell.vm.isStatics = false ∧ s.vm.findClass "java/lang/String" = some cell.cls := by
  obtain ⟨cell, h1, h2, h3, -⟩ := (hN.2.1 j hj).1.kept hS.2.1
  exact ⟨cell, h1, h2, h3⟩
/-- the same Word -/
theorem wq {i j : Nat} (hN : N0 κ A s) (hi : i < 34) (hj : j < 34) (h : some (κ.1 i) = some (κ.1 j)) : i = j := hN.2.2.1 i j hi hj (Option.some.inj h)
theorem wqn {i j : Nat} (h : ¬ some (κ.1 i) = some (κ.1 j)) : ¬ i = j := fun z => h (by rw [z])
theorem cRc {C : String} {T : u_T} {K ci : Nat} {fs : List Value} (C9 : cC own p s m args c cc D ks) (V : cV D L f A H) (ha : a ∈ L) (hf : f a = .inr (ci, fs)) (hc : vwCl[ci]? = some (C, T, K)) : ∃ cell : Cell, H[a]? = some cell ∧ cell.vm.isStatics = false ∧ s.vm.findClass C = some cell.cls := by
  obtain ⟨q0, hq⟩ := va_pl0 (f := f) ha
  rw [hf] at hq
  exact va_recv C9.2.2.2.2 V.1 hc hq
/-- an OBJECT's own three fields -/
theorem opS (h : cI ks τ L ψ f) (t : tyS τ L a) : ∃ (ci : Nat) (n k : Int32) (r : Nat) (rs : List Value), f a = .inr (ci, .int n :: .int k :: .ref r :: rs) ∧ ty τ L r 5 ∧ (ci = 0 ∨ ci = 1 ∨ ci = 2 ∨ ci = 3 ∨ ci = 4 ∨ ci = 6) ∧ τ a = ci := by
  obtain ⟨hL, hk⟩ := t
  rcases hk with hk | hk | hk | hk | hk | hk
  · obtain ⟨n, k, r, o, d, hf, h1⟩ := op0 h ⟨hL, hk⟩; exact ⟨0, n, k, r, _, hf, h1, by decide, hk⟩
  · obtain ⟨n, k, r, o, d, hf, h1⟩ := op1 h ⟨hL, hk⟩; exact ⟨1, n, k, r, _, hf, h1, by decide, hk⟩
  · obtain ⟨n, k, r, o, hf, h1⟩ := op2 h ⟨hL, hk⟩; exact ⟨2, n, k, r, _, hf, h1, by decide, hk⟩
  · obtain ⟨n, k, r, o, d, x, y, hf, h1, -⟩ := op3 h ⟨hL, hk⟩; exact ⟨3, n, k, r, _, hf, h1, by decide, hk⟩
  · obtain ⟨n, k, r, o, d, x, y, hf, h1, -⟩ := op4 h ⟨hL, hk⟩; exact ⟨4, n, k, r, _, hf, h1, by decide, hk⟩
  · obtain ⟨n, k, r, o, hf, h1⟩ := op6 h ⟨hL, hk⟩; exact ⟨6, n, k, r, _, hf, h1, by decide, hk⟩
/-- is it a Lock? -/
theorem cIns (C9 : cC own p s m args c cc D ks) (hN : N0 κ A s) (V : cV D L f A H) (I : cI ks τ L ψ f) (t : tyS τ L a) (hl : Cond.classLink own index RX4 ∈ tC) (hdg : decode cc pc = .ok (.instanceof index, 3))
    (k1 : ty τ L a 3 → xC (view f) a = 3 → W p l e R s m args below meth c H locs cells slots Q (F0 m (pc + 3) ls (.int 1 :: rest))) (k0 : ¬ xC (view f) a = 3 → W p l e R s m args below meth c H locs cells slots Q (F0 m (pc + 3) ls (.int 0 :: rest))) : W p l e R s m args below meth c H locs cells slots Q (F0 m pc ls (.ref a :: rest)) := by
  obtain ⟨ci, n, k, r, rs, hf, -, hci, hτ⟩ := opS I t
  obtain ⟨hx, hb, hown, hts, hK⟩ := id C9
  have hno := hN.2.2.2.2.2.2.2.2.2.1
  rcases hci with rfl | rfl | rfl | rfl | rfl | rfl
  · exact va_instNo hx hb hown (hts _ hl) (hno "TurnKeeper$Gate" (by simp [nNo])) (cRc C9 V t.1 hf rfl) hdg (k0 (view_cn hf (by decide)))
  · exact va_instNo hx hb hown (hts _ hl) (hno "TurnKeeper$Holder" (by simp [nNo])) (cRc C9 V t.1 hf rfl) hdg (k0 (view_cn hf (by decide)))
  · exact va_instNo hx hb hown (hts _ hl) (hno "TurnKeeper$Hurdle" (by simp [nNo])) (cRc C9 V t.1 hf rfl) hdg (k0 (view_cn hf (by decide)))
  · exact va_instY hx hb hown (hts _ hl) (hN.2.2.2.2.2.2.2.2.1 (.castable "TurnKeeper$Lock" "TurnKeeper$Lock") (by simp [nwL])) (cRc C9 V t.1 hf rfl) hdg (k1 ⟨t.1, hτ⟩ (view_c hf))
  · exact va_instNo hx hb hown (hts _ hl) (hno "TurnKeeper$Queue" (by simp [nNo])) (cRc C9 V t.1 hf rfl) hdg (k0 (view_cn hf (by decide)))
  · exact va_instNo hx hb hown (hts _ hl) (hno "TurnKeeper$Semaphore" (by simp [nNo])) (cRc C9 V t.1 hf rfl) hdg (k0 (view_cn hf (by decide)))
theorem cCst {fs : List Value} (C9 : cC own p s m args c cc D ks) (hN : N0 κ A s) (V : cV D L f A H) (ha : a ∈ L) (hf : f a = .inr (3, fs)) (hl : Cond.classLink own index RX4 ∈ tC) (hdg : decode cc pc = .ok (.checkcast index, 3))
    (kk : W p l e R s m args below meth c H locs cells slots Q (F0 m (pc + 3) ls (.ref a :: rest))) : W p l e R s m args below meth c H locs cells slots Q (F0 m pc ls (.ref a :: rest)) :=
  va_castY C9.1 C9.2.1 C9.2.2.1 (C9.2.2.2.1 _ hl) (hN.2.2.2.2.2.2.2.2.1 (.castable "TurnKeeper$Lock" "TurnKeeper$Lock") (by simp [nwL])) (cRc C9 V ha hf rfl) hdg kk
theorem cRetT {ty : FieldType} {post : Int32 → Int32 × (Nat → va_E) → Prop} {v : Int32} (C9 : cC own p s m args c cc D ks) (hr : meth.sig.returnType = some ty) (hlocks : meth.locks = false) (hN : cNk A N) (hNs : N s) (V : cV D L f A H) (I : cI ks τ L ψ f) (hS : va_S A s.heap H locs) (hv : narrow ty (.int v) = .int v) (hp : post v (ψ, f)) (hdg : decode cc pc = .ok (.ireturn, 1)) :
    W p l e R s m args below meth c H locs cells slots (MQ below (va_Qi post (cB D ks τ L A N) A) args s cells slots A) (F0 m pc ls [.int v]) := by
  obtain ⟨hx, hb, -, -, hK⟩ := C9
  exact W.zret hx hb hr hv (fun t ht hW => ⟨⟨v, (ψ, f), rfl, hp, by rw [ht]; exact V, I, va_K.moved hW.alike hK, cNt hN hNs hS ht hW⟩, hS.F ht⟩) hS.2.2 hdg hlocks
theorem cRetW {post : Option Nat → Int32 × (Nat → va_E) → Prop} {v : Nat} {C : String} (C9 : cC own p s m args c cc D ks) (hr : meth.sig.returnType = some (.object C)) (hlocks : meth.locks = false) (hN : cNk A N) (hNs : N s) (V : cV D L f A H) (I : cI ks τ L ψ f) (hS : va_S A s.heap H locs) (hp : post (some v) (ψ, f)) (hdg : decode cc pc = .ok (.areturn, 1)) :
    W p l e R s m args below meth c H locs cells slots (MQ below (va_Qq post (cB D ks τ L A N) A) args s cells slots A) (F0 m pc ls [.ref v]) := cRetR (v := some v) C9 hr hlocks hN hNs V I hS hp hdg
end CN
section CS
variable {p : Program} {l : Launch} {e : Env} {R : Room} {s : State} {m : MethodId} {args : Array Value} {below : List Frame} {meth : Method} {c : Code} {H : Heap} {locs : List Loc} {cells slots : Nat} {Q : State → Prop}
variable {cc : ByteArray} {pc : Nat} {ls : Array Slot} {rest : List Value} {D : va_G} {ks : kS} {τ : Nat → Nat} {L : List Nat} {A : Nat → Prop} {ψ : Int32} {f : Nat → va_E} {own : String} {a index : Nat}
theorem cGS0 (C9 : cC own p s m args c cc D ks) (V : cV D L f A H) (I : cI ks τ L ψ f) (t : tyS τ L a) (hl : Cond.fieldLink own index "TurnKeeper$Sync" "number" "I" ∈ tC) (hdg : decode cc pc = .ok (.getfield index, 3))
    (kk : ∀ x : Int32, x = xI (view f) a 0 → W p l e R s m args below meth c H locs cells slots Q (F0 m (pc + 3) ls (.int x :: rest))) : W p l e R s m args below meth c H locs cells slots Q (F0 m pc ls (.ref a :: rest)) := by
  obtain ⟨ci, n, k, r, rs, hf, hr, hci, -⟩ := opS I t
  rcases hci with rfl | rfl | rfl | rfl | rfl | rfl
  · exact cG C9 V t.1 hf rfl tC_lay0 0 (by decide) hl (Or.inl rfl) rfl hdg (kk n (view_gI hf rfl))
  · exact cG C9 V t.1 hf rfl tC_lay1 0 (by decide) hl (Or.inl rfl) rfl hdg (kk n (view_gI hf rfl))
  · exact cG C9 V t.1 hf rfl tC_lay2 0 (by decide) hl (Or.inl rfl) rfl hdg (kk n (view_gI hf rfl))
  · exact cG C9 V t.1 hf rfl tC_lay3 0 (by decide) hl (Or.inl rfl) rfl hdg (kk n (view_gI hf rfl))
  · exact cG C9 V t.1 hf rfl tC_lay4 0 (by decide) hl (Or.inl rfl) rfl hdg (kk n (view_gI hf rfl))
  · exact cG C9 V t.1 hf rfl tC_lay6 0 (by decide) hl (Or.inl rfl) rfl hdg (kk n (view_gI hf rfl))
theorem cGS1 (C9 : cC own p s m args c cc D ks) (V : cV D L f A H) (I : cI ks τ L ψ f) (t : tyS τ L a) (hl : Cond.fieldLink own index "TurnKeeper$Sync" "kind" "I" ∈ tC) (hdg : decode cc pc = .ok (.getfield index, 3))
    (kk : ∀ x : Int32, x = xI (view f) a 1 → W p l e R s m args below meth c H locs cells slots Q (F0 m (pc + 3) ls (.int x :: rest))) : W p l e R s m args below meth c H locs cells slots Q (F0 m pc ls (.ref a :: rest)) := by
  obtain ⟨ci, n, k, r, rs, hf, hr, hci, -⟩ := opS I t
  rcases hci with rfl | rfl | rfl | rfl | rfl | rfl
  · exact cG C9 V t.1 hf rfl tC_lay0 1 (by decide) hl (Or.inl rfl) rfl hdg (kk k (view_gI hf rfl))
  · exact cG C9 V t.1 hf rfl tC_lay1 1 (by decide) hl (Or.inl rfl) rfl hdg (kk k (view_gI hf rfl))
  · exact cG C9 V t.1 hf rfl tC_lay2 1 (by decide) hl (Or.inl rfl) rfl hdg (kk k (view_gI hf rfl))
  · exact cG C9 V t.1 hf rfl tC_lay3 1 (by decide) hl (Or.inl rfl) rfl hdg (kk k (view_gI hf rfl))
  · exact cG C9 V t.1 hf rfl tC_lay4 1 (by decide) hl (Or.inl rfl) rfl hdg (kk k (view_gI hf rfl))
  · exact cG C9 V t.1 hf rfl tC_lay6 1 (by decide) hl (Or.inl rfl) rfl hdg (kk k (view_gI hf rfl))
theorem cGS2 (C9 : cC own p s m args c cc D ks) (V : cV D L f A H) (I : cI ks τ L ψ f) (t : tyS τ L a) (hl : Cond.fieldLink own index "TurnKeeper$Sync" "row" "LTurnKeeper$Row;" ∈ tC) (hdg : decode cc pc = .ok (.getfield index, 3))
    (kk : ∀ r : Nat, ty τ L r 5 → r = (xR (view f) a 2).getD 0 → W p l e R s m args below meth c H locs cells slots Q (F0 m (pc + 3) ls (.ref r :: rest))) : W p l e R s m args below meth c H locs cells slots Q (F0 m pc ls (.ref a :: rest)) := by
  obtain ⟨ci, n, k, r, rs, hf, hr, hci, -⟩ := opS I t
  rcases hci with rfl | rfl | rfl | rfl | rfl | rfl
  · exact cG C9 V t.1 hf rfl tC_lay0 2 (by decide) hl (Or.inl rfl) rfl hdg (kk r hr (view_gR hf rfl))
  · exact cG C9 V t.1 hf rfl tC_lay1 2 (by decide) hl (Or.inl rfl) rfl hdg (kk r hr (view_gR hf rfl))
  · exact cG C9 V t.1 hf rfl tC_lay2 2 (by decide) hl (Or.inl rfl) rfl hdg (kk r hr (view_gR hf rfl))
  · exact cG C9 V t.1 hf rfl tC_lay3 2 (by decide) hl (Or.inl rfl) rfl hdg (kk r hr (view_gR hf rfl))
  · exact cG C9 V t.1 hf rfl tC_lay4 2 (by decide) hl (Or.inl rfl) rfl hdg (kk r hr (view_gR hf rfl))
  · exact cG C9 V t.1 hf rfl tC_lay6 2 (by decide) hl (Or.inl rfl) rfl hdg (kk r hr (view_gR hf rfl))
end CS

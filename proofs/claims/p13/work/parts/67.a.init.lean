/-! the class: TurnKeeper's constructor, the cells told (laid by wip/gen_init4.py) -/
abbrev sF (n : Int32) (c : Nat) : List Value := [.int n, .int 0, .int 0, .int 0, .int 0, .int 0, .long 0, .null, .null, .int 0, .int 0, .ref c, .int 0]
def tkM (ks : kS) (tp sy : Nat) (g : Nat → Option Nat) (t : Nat) (τ : Nat → Nat) (L : List Nat) (f : Nat → va_E) : Prop := ∃ (cd by9 : Nat) (v9 : Int32) (ya ca : Nat → Nat), f tp = .inr (8, [.ref cd, .int 0, .int 0, .int v9, .ref by9, .int 0]) ∧ ty τ L cd 12 ∧ ty τ L by9 11 ∧ f sy = .inl (ks.2.2.2, 24, rfs (fun _ => none)) ∧ (∀ j, j < t → g j = some (ya j) ∧ ty τ L (ya j) 7 ∧ ty τ L (ca j) 12 ∧ ca j ≠ cd ∧ f (ya j) = .inr (7, sF (nI j) (ca j))) ∧ ∀ i j, i < t → j < t → i ≠ j → ya i ≠ ya j ∧ ca i ≠ ca j
section TK
variable {ks : kS} {τ τ1 : Nat → Nat} {L L1 : List Nat} {f f1 f2 : Nat → va_E} {tp sy st q c9 t : Nat} {g : Nat → Option Nat}
theorem tkM_k (h : tkM ks tp sy g t τ L f) (k : gVt τ L τ1 L) : tkM ks tp sy g t τ1 L f := by
  obtain ⟨cd, by9, v9, ya, ca, h1, h2, h3, h4, h5, h6⟩ := h
  exact ⟨cd, by9, v9, ya, ca, h1, ty_g k (by decide) h2, ty_g k (by decide) h3, h4, fun j hj => ⟨(h5 j hj).1, ty_g k (by decide) (h5 j hj).2.1, ty_g k (by decide) (h5 j hj).2.2.1, (h5 j hj).2.2.2⟩, h6⟩
theorem tkM_s {x : va_E} (h : tkM ks tp sy g t τ L f) (w : gW τ L f τ1 L1 f1) (ttp : ty τ L tp 8) (tsy : ty τ L sy 15) (tst : ty τ L st 99) (hq : q ∉ L) (tq : ty τ1 L1 q 7) (hc : c9 ∉ L) (tc : ty τ1 L1 c9 12) (hf : f1 q = .inr (7, sF (nI t) c9)) (e : f2 = va_up f1 st x) : tkM ks tp sy (va_up g t (some q)) (t + 1) τ1 L1 f2 := by
  obtain ⟨cd, by9, v9, ya, ca, h1, h2, h3, h4, h5, h6⟩ := h
  have ne : ∀ a n, n ≠ 99 → ty τ L a n → a ≠ st := fun a n hn ha z => hn (by rw [← ha.2, z]; exact tst.2)
  have qs : q ≠ st := fun z => hq (by rw [z]; exact tst.1)
  refine ⟨cd, by9, v9, va_up ya t q, va_up ca t c9, ?_, gW.ty w h2, gW.ty w h3, ?_, fun j hj => ?_, fun i j hi hj n => ?_⟩
  · rw [e, va_up_ne _ _ (ne tp 8 (by decide) ttp)]; exact gW.eq w ttp.1 h1
  · rw [e, va_up_ne _ _ (ne sy 15 (by decide) tsy)]; exact gW.eq w tsy.1 h4
  · by_cases z : j = t
    · subst z
      rw [va_up_self, va_up_self, va_up_self, e, va_up_ne _ _ qs]
      exact ⟨rfl, tq, tc, fun y => hc (by rw [y]; exact h2.1), hf⟩
    · have o := h5 j (by omega)
      rw [va_up_ne _ _ z, va_up_ne _ _ z, va_up_ne _ _ z, e, va_up_ne _ _ (ne _ 7 (by decide) o.2.1)]
      exact ⟨o.1, gW.ty w o.2.1, gW.ty w o.2.2.1, o.2.2.2.1, gW.eq w o.2.1.1 o.2.2.2.2⟩
  · by_cases z : i = t
    · subst z
      have o := h5 j (by omega)
      rw [va_up_self, va_up_self, va_up_ne _ _ (fun y => n y.symm), va_up_ne _ _ (fun y => n y.symm)]
      exact ⟨fun y => hq (by rw [y]; exact o.2.1.1), fun y => hc (by rw [y]; exact o.2.2.1.1)⟩
    · rw [va_up_ne _ _ z, va_up_ne _ _ z]
      by_cases z2 : j = t
      · subst z2
        have o := h5 i (by omega)
        rw [va_up_self, va_up_self]
        exact ⟨fun y => hq (by rw [← y]; exact o.2.1.1), fun y => hc (by rw [← y]; exact o.2.2.1.1)⟩
      · rw [va_up_ne _ _ z2, va_up_ne _ _ z2]
        exact h6 i j (by omega) (by omega) n
end TK
/-! the class: TurnKeeper's constructor -/
abbrev tkF (tp sy st : Nat) : List Value := [.ref tp, .ref sy, .ref st, .long 0, .long 0, .int 7]
/-- before the Strand t is made -/
def tkL (ks : kS) (o tp sy st : Nat) (t : Nat) (τ : Nat → Nat) (L : List Nat) (f : Nat → va_E) : Prop :=
  ty τ L o 99 ∧ f o = .inr (9, tkF tp sy st) ∧ ty τ L tp 8 ∧ ty τ L sy 15 ∧ ty τ L st 99 ∧ st ≠ o ∧ (∃ g : Nat → Option Nat, f st = .inl (ks.2.2.1, 8, rfs g) ∧ (∀ j, j < t → ∃ y, g j = some y ∧ ty τ L y 7) ∧ tkM ks tp sy g t τ L f) ∧ ∀ b, b ∈ L → b ≠ tp → τ b ≠ 8
theorem no8_w {τ τ1 : Nat → Nat} {L L1 : List Nat} {f f1 : Nat → va_E} {tp : Nat} (h : ∀ b, b ∈ L → b ≠ tp → τ b ≠ 8) (g : gW τ L f τ1 L1 f1) : ∀ b, b ∈ L1 → b ≠ tp → τ1 b ≠ 8 := fun b hb hn => by
  by_cases z : b ∈ L
  · rw [(g.1 b z).2.1]; exact h b z hn
  · exact g.2 b hb z
set_option maxHeartbeats 1000000 in
set_option maxRecDepth 100000 in
theorem c_X12_init (l : Launch) (D : va_G) (ks : kS) (τ : Nat → Nat) (L : List Nat) (A : Nat → Prop) (N : State → Prop) (hN : cNk A N) (κ : kC) (hN0 : ∀ U, N U → N0 κ A U) (f : Nat → va_E) (o0 : Nat) (t_o0 : ty τ L o0 99) (hf_o0 : f o0 = .inr (9, [.null, .null, .null, .long 0, .long 0, .int 0])) (hL8 : ∀ b, b ∈ L → τ b ≠ 8) :
    Met l yX12_init (Cond.code yX12_init cX12_init 2 none :: tC) ({ frames := 2, cells := 21, slots := 3902, locals := 60 }) (va_Pc [.ref o0] (cB D ks τ L A N (0, f))) (va_Qv (fun x9 => ty x9.2.1 x9.2.2 o0 9 ∧ (∃ tp sy st g, x9.1 o0 = .inr (9, tkF tp sy st) ∧ ty x9.2.1 x9.2.2 tp 8 ∧ ty x9.2.1 x9.2.2 sy 15 ∧ ty x9.2.1 x9.2.2 st 14 ∧ x9.1 st = .inl (ks.2.2.1, 8, rfs g) ∧ tkM ks tp sy g 8 x9.2.1 x9.2.2 x9.1) ∧ ∀ a b, ty x9.2.1 x9.2.2 a 8 → ty x9.2.1 x9.2.2 b 8 → a = b) (cBn D ks A N 0) A) 21 3902 A := by
  refine cMetN (own := RX12) (by decide) rfl (Nat.le_of_ble_eq_true rfl) ?_
  intro p e s m below meth c ls C9 hml hr hlk hmn V I hNs hl
  have hx := C9.1
  have hb := C9.2.1
  have hown := C9.2.2.1
  have hts := C9.2.2.2.1
  have h0 := hN0 s hNs
  have hS : va_S A s.heap s.heap [] := va_S.rf
  have hl : lv_has ls 2 [(0, .ref o0)] := hl
  -- the loop: one Strand after another
  have loop : ∀ (k t tp sy st : Nat) (τ1 : Nat → Nat) (L1 : List Nat) (f1 : Nat → va_E) (H : Heap) (locs : List Loc) (ls : Array Slot), t + k = 8 → tkL ks o0 tp sy st t τ1 L1 f1 → cV D L1 f1 A H → cI ks τ1 L1 0 f1 → va_S A s.heap H locs → lv_has ls 2 [(0, .ref o0), (1, .int (nI t))] →
      W p l e ({ frames := 2, cells := 21, slots := 3902, locals := 60 } : Room) s m ([.ref o0] : List Value).toArray below meth c H locs (5 + 2 * t) (1878 + 253 * t) (MQ below (va_Qv (fun x9 => ty x9.2.1 x9.2.2 o0 9 ∧ (∃ tp sy st g, x9.1 o0 = .inr (9, tkF tp sy st) ∧ ty x9.2.1 x9.2.2 tp 8 ∧ ty x9.2.1 x9.2.2 sy 15 ∧ ty x9.2.1 x9.2.2 st 14 ∧ x9.1 st = .inl (ks.2.2.1, 8, rfs g) ∧ tkM ks tp sy g 8 x9.2.1 x9.2.2 x9.1) ∧ ∀ a b, ty x9.2.1 x9.2.2 a 8 → ty x9.2.1 x9.2.2 b 8 → a = b) (cBn D ks A N 0) A) ([.ref o0] : List Value).toArray s 21 3902 A) (F0 m 41 ls []) := by
    intro k
    induction k with
    | zero =>
      intro t tp sy st τ1 L1 f1 H locs ls hk ⟨g1, g2, g3, g4, g5, g6, ⟨g, g7, g8, g10⟩, g9⟩ V I hS hl
      obtain rfl : t = 8 := by omega
      refine lv_iload_n hx hb dX12_init_41 rfl (lv_at hl 1 rfl) ?_
      refine lv_bipush (v := 8) hx hb dX12_init_42 (by decide) ?_
      refine lv_icmp_ge (tgt := 67) hx hb dX12_init_44 (by decide) (fun _ => ?_) (fun h => absurd (show (8 : Int32) ≤ nI 8 by decide) h)
      obtain ⟨τ2, gt2, hn2, ht2, I2⟩ := rekind (k := 14) I g5 (fun τ9 q9 => by
        rw [g7]
        show ∃ _, _
        exact ⟨g, rfl, fun j hj => by obtain ⟨y, z1, z2⟩ := g8 j hj; exact ⟨y, z1, ty_g q9 (by decide) z2⟩⟩)
      have g1' : ty τ2 L1 o0 99 := ⟨g1.1, (hn2 o0 (Ne.symm g6)).trans g1.2⟩
      obtain ⟨τ3, gt3, hn3, ht3, I3⟩ := rekind (k := 9) I2 g1' (fun τ9 q9 => by
        rw [g2]
        exact mk9 (ty_g q9 (by decide) (ty_g gt2 (by decide) g3)) (ty_g q9 (by decide) (ty_g gt2 (by decide) g4)) (ty_g q9 (by decide) ht2))
      refine cRetN C9 hr hlk hN hNs V I3 hS ⟨ht3, ⟨tp, sy, st, g, g2, ty_g gt3 (by decide) (ty_g gt2 (by decide) g3), ty_g gt3 (by decide) (ty_g gt2 (by decide) g4), ty_g gt3 (by decide) ht2, g7, tkM_k (tkM_k g10 gt2) gt3⟩, fun a b ha hb9 => ?_⟩ ⟨by omega, by omega⟩ dX12_init_67
      have key : ∀ a, ty τ3 L1 a 8 → a = tp := fun a ha => Classical.byContradiction fun hn => by
        have h9 := g9 a ha.1 hn
        by_cases z : a = o0
        · have h1 := ht3.2; rw [← z, ha.2] at h1; exact absurd h1 (by decide)
        · by_cases z2 : a = st
          · have h1 : τ3 a = 14 := (hn3 a z).trans (z2 ▸ ht2.2); rw [ha.2] at h1; exact absurd h1 (by decide)
          · have h1 := (hn3 a z).trans (hn2 a z2); rw [ha.2] at h1; exact h9 h1.symm
      exact (key a ha).trans (key b hb9).symm
    | succ k ih =>
      intro t tp sy st τ1 L1 f1 H locs ls hk ⟨g1, g2, g3, g4, g5, g6, ⟨g, g7, g8, g10⟩, g9⟩ V I hS hl
      have ht8 : t < 8 := by omega
      refine lv_iload_n hx hb dX12_init_41 rfl (lv_at hl 1 rfl) ?_
      refine lv_bipush (v := 8) hx hb dX12_init_42 (by decide) ?_
      refine lv_icmp_ge (tgt := 67) hx hb dX12_init_44 (by decide) (fun h => absurd h (nI_ge (b := 8) ht8 (by decide))) (fun _ => ?_)
      refine lv_aload_n hx hb dX12_init_47 rfl (lv_at hl 0 rfl) ?_
      refine cG C9 V g1.1 g2 rfl tC_lay9 2 (by decide) tCf_X12_24 (Or.inl rfl) rfl dX12_init_48 ?_
      refine lv_iload_n hx hb dX12_init_51 rfl (lv_at hl 1 rfl) ?_
      refine cNw (ci := 7) (fs := [.int 0, .int 0, .int 0, .int 0, .int 0, .int 0, .long 0, .null, .null, .int 0, .int 0, .null, .int 0]) C9 h0 V I hS rfl tC_lay7 tyX8 tyX8_ok tCw_X12_22 dfl_X8 ⟨show 5 + 2 * t + 1 ≤ 21 by omega, show 1878 + 253 * t + 13 ≤ 3902 by omega⟩ dX12_init_52 (fun q τ2 L2 f2 H hg2 hq2 ht2 hf2 V I hS => ?_)
      refine lv_dup hx hb dX12_init_55 rfl ?_
      refine lv_iload_n hx hb dX12_init_56 rfl (lv_at hl 1 rfl) ?_
      refine cGoN (cRunI (As := [.int (nI t)]) (rest := [.ref q, .int (nI t), .ref st]) C9 hml hN hNs V I hS (c_X8_init l D ks τ2 L2 A N hN κ hN0 0 f2 q (nI t) ht2 hf2) tCn_X12_32 rfl okN_X8_init ⟨rfl, rfl, Nat.le_of_ble_eq_true rfl, Nat.le_of_ble_eq_true rfl⟩ hl.1 rfl (Nat.le_of_ble_eq_true rfl) dX12_init_57 ⟨show 5 + 2 * t + 1 + 1 ≤ 21 by omega, show 1878 + 253 * t + 13 + 240 ≤ 3902 by omega⟩) hS (fun f3 τ3 L3 H locs hp3 V I hS => ?_)
      have I : cI ks τ3 L3 0 f3 := I
      have V : cV D L3 f3 A H := V
      have gg3 : gU τ2 L2 f2 q τ3 L3 f3 := hp3.1
      have ht3 : ty τ3 L3 q 7 := hp3.2.1
      obtain ⟨c9, hc9, tc9, hfc9⟩ := hp3.2.2
      have hw3 := gNew hg2 hq2 gg3 ht3 (by decide)
      have k1 := gW.ty hw3 g1
      have k2 := gW.eq hw3 g1.1 g2
      have k3 := gW.ty hw3 g3
      have k4 := gW.ty hw3 g4
      have k5 := gW.ty hw3 g5
      have k7 := gW.eq hw3 g5.1 g7
      obtain ⟨vn, vs, vx, va, vw9, vi, vwk, vsy, vrw, vkp, van, vcd, vsz, hfq, -⟩ := op7 I ht3
      refine cSr C9 V hS k5.1 k7 ht3.1 hfq (cvin (N := 8) rfl (nI_pos' (by omega)) (nI_lt (b := 8) ht8 (by decide))) dX12_init_60 (fun f4 H locs ef4 V hS => ?_)
      have I := cI_raw I k5.2 ef4
      refine lv_iinc (v := nI (t + 1)) (lv' := [(1, .int (nI (t + 1))), (0, .ref o0)]) hx hb dX12_init_61 hl (k := 1) rfl (by rw [nI_succ]; rfl) (by decide) rfl (fun ls hl => ?_)
      refine lv_goto (tgt := 41) hx hb dX12_init_64 (by decide) ?_
      refine cWd (mc := 5 + 2 * (t + 1)) (ms := 1878 + 253 * (t + 1)) ⟨by omega, by omega⟩ ?_
      refine ih (t + 1) tp sy st τ3 L3 f4 _ _ _ (by omega) ⟨k1, ?_, k3, k4, k5, g6, ⟨va_up g t (some q), ?_, ?_, tkM_s g10 hw3 g3 g4 g5 hq2 ht3 (fun z => hc9 (hg2.1 c9 z).1) tc9 hfc9 ef4⟩, no8_w g9 hw3⟩ V I hS (lv_sub hl [1, 0] rfl)
      · rw [ef4, va_up_ne _ _ (Ne.symm g6)]; exact k2
      · rw [ef4, va_up_self, nI_clamp (by omega)]
      · intro j hj
        by_cases z : j = t
        · subst z; exact ⟨q, va_up_self _ _ _, ht3⟩
        · obtain ⟨y, z1, z2⟩ := g8 j (by omega)
          exact ⟨y, by rw [va_up_ne _ _ z]; exact z1, gW.ty hw3 z2⟩
  -- up to the loop
  refine lv_aload_n hx hb dX12_init_0 rfl (lv_at hl 0 rfl) ?_
  refine cObj C9 hml hl.1 tCo_X12_1 ⟨Nat.le_of_ble_eq_true rfl, Nat.le_of_ble_eq_true rfl⟩ dX12_init_1 ?_
  refine lv_aload_n hx hb dX12_init_4 rfl (lv_at hl 0 rfl) ?_
  refine cNw (ci := 8) (fs := [.null, .int 0, .int 0, .int 0, .null, .int 0]) C9 h0 V I hS rfl tC_lay8 tyX10 tyX10_ok tCw_X12_7 dfl_X10 ⟨Nat.le_of_ble_eq_true rfl, Nat.le_of_ble_eq_true rfl⟩ dX12_init_5 (fun q τ2 L2 f2 H hg2 hq2 ht2 hf2 V I hS => ?_)
  refine lv_dup hx hb dX12_init_8 rfl ?_
  refine cGoN (cRunIN (As := []) (rest := [.ref q, .ref o0]) C9 hml hN hNs h0 V I hS (c_X10_init l D ks τ2 L2 A N hN κ hN0 0 f2 q ht2 hf2) tCn_X12_9 rfl okN_X10_init ⟨rfl, rfl, Nat.le_of_ble_eq_true rfl, Nat.le_of_ble_eq_true rfl⟩ hl.1 rfl (Nat.le_of_ble_eq_true rfl) dX12_init_9 ⟨Nat.le_of_ble_eq_true rfl, Nat.le_of_ble_eq_true rfl⟩) hS (fun f3 τ3 L3 H locs hp3 V I hS => ?_)
  have I : cI ks τ3 L3 0 f3 := I
  have V : cV D L3 f3 A H := V
  have gg3 : gU τ2 L2 f2 q τ3 L3 f3 := hp3.1
  have ht3 : ty τ3 L3 q 8 := hp3.2.1
  obtain ⟨cd9, by9, v9, -, tcd9, -, tby9, hft9⟩ := hp3.2.2
  have hoq : o0 ≠ q := fun z => hq2 (by rw [← z]; exact t_o0.1)
  have b1 := hg2.1 o0 t_o0.1
  have b2 := gg3.1 o0 b1.1 hoq
  have k1 : ty τ3 L3 o0 99 := ⟨b2.1, b2.2.1.trans (b1.2.1.trans t_o0.2)⟩
  have k2 : f3 o0 = .inr (9, [.null, .null, .null, .long 0, .long 0, .int 0]) := b2.2.2.trans (b1.2.2.trans hf_o0)
  have k8 : ∀ b, b ∈ L3 → b ≠ q → τ3 b ≠ 8 := fun b hb9 hn => by
    by_cases z : b ∈ L2
    · rw [(gg3.1 b z hn).2.1]
      by_cases z2 : b ∈ L
      · rw [(hg2.1 b z2).2.1]; exact hL8 b z2
      · exact hg2.2 b z z2
    · exact gg3.2 b hb9 z
  refine cPF (v := .ref q) (ty := .object "TurnKeeper$Tape") C9 V hS k1.1 k2 rfl tC_lay9 tyX12 tyX12_ok nmX12 0 (by decide) tCf_X12_10 rfl rfl hmn rfl (by decide +kernel) rfl rfl (Nat.le_of_ble_eq_true rfl) dX12_init_12 (fun f4 H locs ef4 V hS => ?_)
  have k2 : f4 o0 = .inr (9, [.ref q, .null, .null, .long 0, .long 0, .int 0]) := up_s ef4
  have I := cI_raw I k1.2 ef4
  refine lv_aload_n hx hb dX12_init_15 rfl (lv_at hl 0 rfl) ?_
  refine lv_bipush (v := 24) hx hb dX12_init_16 (by decide) ?_
  refine cNq (K := 24) (k := 15) (t0 := 3) C9 h0 h0.2.2.2.2.2.2.2.2.2.2.2.2.1.2 V I hS tCl_X12_16 rfl (by decide) (by decide) (by decide) (fun _ _ => mk15 (fun _ => tySO_n)) (by decide) ⟨Nat.le_of_ble_eq_true rfl, Nat.le_of_ble_eq_true rfl⟩ dX12_init_18 (fun sy τ5 L5 f5 H hg5 hq5 ht5 hf5 V I hS => ?_)
  have k1o := k1
  have k2 := gW.eq hg5 k1.1 k2
  have k1 := gW.ty hg5 k1
  have syo : sy ≠ o0 := fun z => hq5 (by rw [z]; exact k1o.1)
  have ht3q := ht3
  have ht3 := gW.ty hg5 ht3
  have syL := ht5.1
  have k8 := no8_w k8 hg5
  refine cPF (v := .ref sy) (ty := .array (.object "TurnKeeper$Sync")) C9 V hS k1.1 k2 rfl tC_lay9 tyX12 tyX12_ok nmX12 1 (by decide) tCf_X12_18 rfl rfl hmn rfl (by decide +kernel) rfl rfl (Nat.le_of_ble_eq_true rfl) dX12_init_21 (fun f6 H locs ef6 V hS => ?_)
  have k2 : f6 o0 = .inr (9, [.ref q, .ref sy, .null, .long 0, .long 0, .int 0]) := up_s ef6
  have I := cI_raw I k1.2 ef6
  refine lv_aload_n hx hb dX12_init_24 rfl (lv_at hl 0 rfl) ?_
  refine lv_bipush (v := 8) hx hb dX12_init_25 (by decide) ?_
  refine cNq (K := 8) (k := 99) (t0 := 2) C9 h0 h0.2.2.2.2.2.2.2.2.2.2.2.2.1.1 V I hS tCl_X12_22 rfl (by decide) (by decide) (by decide) (fun _ _ => cOk99) (by decide) ⟨Nat.le_of_ble_eq_true rfl, Nat.le_of_ble_eq_true rfl⟩ dX12_init_27 (fun st τ7 L7 f7 H hg7 hq7 ht7 hf7 V I hS => ?_)
  have hne : st ≠ o0 := fun z => hq7 (by rw [z]; exact k1.1)
  have k2 := gW.eq hg7 k1.1 k2
  have k1 := gW.ty hg7 k1
  have ht5q := ht3
  have ht3 := gW.ty hg7 ht3
  have ht5 := gW.ty hg7 ht5
  have k8 := no8_w k8 hg7
  refine cPF (v := .ref st) (ty := .array (.object "TurnKeeper$Strand")) C9 V hS k1.1 k2 rfl tC_lay9 tyX12 tyX12_ok nmX12 2 (by decide) tCf_X12_24 rfl rfl hmn rfl (by decide +kernel) rfl rfl (Nat.le_of_ble_eq_true rfl) dX12_init_30 (fun f8 H locs ef8 V hS => ?_)
  have k2 : f8 o0 = .inr (9, [.ref q, .ref sy, .ref st, .long 0, .long 0, .int 0]) := up_s ef8
  have hf8 : f8 st = .inl (ks.2.2.1, 8, rfs (fun _ => none)) := by rw [ef8, va_up_ne _ _ hne]; exact hf7
  have I := cI_raw I k1.2 ef8
  refine lv_aload_n hx hb dX12_init_33 rfl (lv_at hl 0 rfl) ?_
  refine lv_bipush (v := 7) hx hb dX12_init_34 (by decide) ?_
  refine cP (v := .int 7) (ty := .int) C9 V hS k1.1 k2 rfl tC_lay9 tyX12 tyX12_ok nmX12 5 (by decide) tCf_X12_28 rfl rfl (by decide +kernel) rfl rfl (Nat.le_of_ble_eq_true rfl) dX12_init_36 (fun f9 H locs ef9 V hS => ?_)
  have k2 : f9 o0 = .inr (9, tkF q sy st) := up_s ef9
  have hf9 : f9 st = .inl (ks.2.2.1, 8, rfs (fun _ => none)) := by rw [ef9, va_up_ne _ _ hne]; exact hf8
  have I := cI_raw I k1.2 ef9
  refine lv_iconst (v := 0) hx hb dX12_init_39 (by decide) ?_
  refine lv_istore_n (lv' := [(1, .int 0), (0, .ref o0)]) hx hb dX12_init_40 rfl hl (by decide) rfl (fun ls hl => ?_)
  refine cWd (mc := 5 + 2 * 0) (ms := 1878 + 253 * 0) ⟨Nat.le_of_ble_eq_true rfl, Nat.le_of_ble_eq_true rfl⟩ ?_
  exact loop 8 0 q sy st τ7 L7 f9 _ _ _ rfl ⟨k1, k2, ht3, ht5, ht7, hne, ⟨fun _ => none, hf9, fun j hj => absurd hj (Nat.not_lt_zero _), ⟨cd9, by9, v9, fun _ => 0, fun _ => 0, (by rw [ef9, va_up_ne _ _ (Ne.symm hoq), ef8, va_up_ne _ _ (Ne.symm hoq), (hg7.1 q ht5q.1).2.2, ef6, va_up_ne _ _ (Ne.symm hoq), (hg5.1 q ht3q.1).2.2, ef4, va_up_ne _ _ (Ne.symm hoq)]; exact hft9), gW.ty hg7 (gW.ty hg5 tcd9), gW.ty hg7 (gW.ty hg5 tby9), (by rw [ef9, va_up_ne _ _ syo, ef8, va_up_ne _ _ syo, (hg7.1 sy syL).2.2, ef6, va_up_ne _ _ syo]; exact hf5), fun j hj => absurd hj (Nat.not_lt_zero _), fun i j hi => absurd hi (Nat.not_lt_zero _)⟩⟩, k8⟩ V I hS (lv_sub hl [1, 0] rfl)

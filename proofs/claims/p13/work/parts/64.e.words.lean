/-! reading a PROGRAM, both side by side: words; the rows on bits are out of the kit's laws -/
theorem wb_tb (n : Nat) : (lN n).toBitVec = BitVec.ofNat 64 n := rfl
theorem wb_inj {a b : Int64} (h : a.toBitVec = b.toBitVec) : a = b := Int64.toBitVec_inj.mp h
theorem wb_c : ∀ k, k < 64 → ((nI k).toInt64 &&& 63) = lN k := by decide +kernel
theorem wb_sm : ∀ k, k < 64 → (BitVec.ofNat 64 k).smod 64 = BitVec.ofNat 64 k := by decide +kernel
theorem wb_shl (n : Nat) {k : Nat} (hk : k < 64) : lN n <<< ((nI k).toInt64 &&& 63) = lN (n * 2 ^ k) := by
  rw [wb_c k hk]
  apply wb_inj
  rw [Int64.toBitVec_shiftLeft, wb_tb, wb_tb, wb_tb, wb_sm k hk]
  apply BitVec.eq_of_toNat_eq
  rw [BitVec.shiftLeft_eq', BitVec.toNat_shiftLeft, BitVec.toNat_ofNat, BitVec.toNat_ofNat, BitVec.toNat_ofNat, Nat.mod_eq_of_lt (show k < 2 ^ 64 by omega), Nat.shiftLeft_eq, Nat.mul_mod, Nat.mod_mod, ← Nat.mul_mod]
theorem u_tn {n : Nat} (h : n < 2 ^ 64) : (UInt64.ofNat n).toNat = n := Nat.mod_eq_of_lt h
theorem g_or {k p a b : Nat} (hp : 2 ^ k = p) (ha : a < p) (h : b * p + a < 2 ^ 64) : lN (b * p) ||| lN a = lN (b * p + a) := by
  subst hp
  have h1 : b * 2 ^ k ||| a = b * 2 ^ k + a := by rw [← Nat.shiftLeft_eq, Nat.shiftLeft_add_eq_or_of_lt ha]
  have h3 : UInt64.ofNat (b * 2 ^ k) ||| UInt64.ofNat a = UInt64.ofNat (b * 2 ^ k + a) := UInt64.toNat_inj.mp (by rw [UInt64.toNat_or, u_tn (by omega), u_tn (by omega), u_tn h, h1])
  have h2 := congrArg UInt64.toInt64 h3
  exact h2

def pkR : List Nat → Nat
  | [] => 0
  | b :: r => pkR r * 256 + b
def nz : List Nat → Bool
  | [] => true
  | [b] => b != 0
  | _ :: c :: r => nz (c :: r)
def rl (f : Nat → Nat) : Nat → List Nat
  | 0 => []
  | n + 1 => f n :: rl f n
theorem nz_t : ∀ (b : Nat) (r : List Nat), nz (b :: r) = true → nz r = true
  | _, [], _ => rfl
  | _, _ :: _, h => h
theorem pk_pos : ∀ (l : List Nat), l ≠ [] → nz l = true → 0 < pkR l
  | [], h, _ => absurd rfl h
  | [b], _, h => by
    have e : b ≠ 0 := by simpa [nz] using h
    simp only [pkR]; omega
  | b :: c :: r, _, h => by
    have := pk_pos (c :: r) (by simp) h
    rw [pkR]; omega
theorem pk_inj : ∀ (l m : List Nat), (∀ x ∈ l, x < 256) → (∀ x ∈ m, x < 256) → nz l = true → nz m = true → pkR l = pkR m → l = m
  | [], [], _, _, _, _, _ => rfl
  | [], b :: r, _, _, _, h, e => by
    have := pk_pos (b :: r) (by simp) h
    rw [← e] at this; exact absurd this (Nat.lt_irrefl 0)
  | b :: r, [], _, _, h, _, e => by
    have := pk_pos (b :: r) (by simp) h
    rw [e] at this; exact absurd this (Nat.lt_irrefl 0)
  | b :: r, c :: s, hl, hm, h, k, e => by
    have hb := hl b (by simp)
    have hc := hm c (by simp)
    have e1 : pkR r * 256 + b = pkR s * 256 + c := e
    have eb : b = c := by omega
    have er : pkR r = pkR s := by omega
    rw [eb, pk_inj r s (fun x z => hl x (by simp [z])) (fun x z => hm x (by simp [z])) (nz_t _ _ h) (nz_t _ _ k) er]
theorem rl_mem {f : Nat → Nat} : ∀ (m x : Nat), x ∈ rl f m → ∃ j, j < m ∧ x = f j
  | 0, _, h => by simp [rl] at h
  | m + 1, x, h => by
    rw [rl] at h
    rcases List.mem_cons.mp h with z | z
    · exact ⟨m, Nat.lt_succ_self _, z⟩
    · obtain ⟨j, j1, j2⟩ := rl_mem m x z
      exact ⟨j, by omega, j2⟩
theorem rl_nz {f : Nat → Nat} (h : f 0 ≠ 0) : ∀ (m : Nat), nz (rl f m) = true
  | 0 => rfl
  | 1 => by simp [rl, nz, h]
  | m + 2 => by
    have := rl_nz h (m + 1)
    exact this
theorem rl_eq {f g : Nat → Nat} : ∀ (m n : Nat), rl f m = rl g n → m = n ∧ ∀ j, j < m → f j = g j
  | 0, 0, _ => ⟨rfl, fun _ h => absurd h (Nat.not_lt_zero _)⟩
  | 0, n + 1, h => by simp [rl] at h
  | m + 1, 0, h => by simp [rl] at h
  | m + 1, n + 1, h => by
    rw [rl, rl] at h
    have h1 := (List.cons.inj h).1
    obtain ⟨e, h2⟩ := rl_eq m n (List.cons.inj h).2
    refine ⟨by omega, fun j hj => ?_⟩
    by_cases c : j = m
    · subst c; subst e; exact h1
    · exact h2 j (by omega)
theorem rl_cg {f g : Nat → Nat} : ∀ (m : Nat), (∀ j, j < m → f j = g j) → rl f m = rl g m
  | 0, _ => rfl
  | m + 1, h => by rw [rl, rl, h m (Nat.lt_succ_self _), rl_cg m (fun j hj => h j (by omega))]
theorem pkb_lt {f : Nat → Nat} : ∀ (m : Nat), (∀ j, j < m → f j < 256) → pkR (rl f m) < 256 ^ m
  | 0, _ => Nat.zero_lt_one
  | m + 1, h => by
    have a := pkb_lt m (fun j hj => h j (by omega))
    have b := h m (Nat.lt_succ_self _)
    rw [rl, pkR, Nat.pow_succ]; omega
theorem by64 : ∀ n, n < 256 → (nI n).toInt64 = lN n := by decide +kernel
theorem lN_inj {a b : Nat} (ha : a < 2 ^ 64) (hb : b < 2 ^ 64) (h : lN a = lN b) : a = b := by
  have e : (lN a).toBitVec.toNat = (lN b).toBitVec.toNat := by rw [h]
  rw [wb_tb, wb_tb, BitVec.toNat_ofNat, BitVec.toNat_ofNat, Nat.mod_eq_of_lt ha, Nat.mod_eq_of_lt hb] at e
  exact e
theorem lgc_0 {x y : Int64} : lg_cmp x y = 0 ↔ x = y := by
  unfold lg_cmp
  by_cases c : x > y
  · rw [if_pos c]
    exact ⟨fun z => absurd z (by decide), fun z => by rw [z] at c; exact absurd c (Int64.lt_irrefl)⟩
  · rw [if_neg c]
    by_cases d : x = y
    · rw [if_pos d]; exact ⟨fun _ => d, fun _ => rfl⟩
    · rw [if_neg d]; exact ⟨fun z => absurd z (by decide), fun z => absurd z d⟩
/-- the text of word w, its last letter first -/
def tx (w : Nat) : List Nat := rl (fun j => ((sBy.getD w []).getD j 0).toNatClampNeg) (sLn.getD w 0)
/-- the reference's word by the class's number -/
def tcN (k : Nat) : Nat := if k ≤ 6 then k else if k = 33 then 7 else k + 1
theorem wds_t : ∀ k, k < 34 → wds.getD k 0 = lN (pkR (tx (tcN k))) := by decide +kernel
theorem tx_ok : ∀ w, w < 34 → nz (tx w) = true ∧ (∀ x ∈ tx w, x < 256) ∧ pkR (tx w) < 2 ^ 64 := by decide +kernel
theorem tcN_lt : ∀ k, k < 34 → tcN k < 34 := by decide +kernel
theorem tcN_on : ∀ w, w < 34 → ∃ k, k < 34 ∧ tcN k = w := by decide +kernel
theorem sLn_7 : ∀ w, w < 34 → 2 ≤ sLn.getD w 0 ∧ sLn.getD w 0 ≤ 7 := by decide +kernel
theorem sBy_l : ∀ w, w < 34 → ∀ j, j < sLn.getD w 0 → 97 ≤ (sBy.getD w []).getD j 0 ∧ (sBy.getD w []).getD j 0 ≤ 122 := by decide +kernel
theorem sBy_c : ∀ w, w < 68 → ∀ j, j < sLn.getD w 0 → (Int32.toUInt32 (((sBy.getD w []).getD j 0) &&& 255) % 65536).toInt32 = (sBy.getD w []).getD j 0 := by decide +kernel
theorem tx_inj : ∀ w, w < 34 → ∀ v, v < 34 → tx w = tx v → w = v := by decide +kernel
theorem sh0 : ∀ n, n < 17 → nI n >>> ((0 : Int32) &&& 31) = nI n := by decide +kernel
theorem tn17 : ∀ n, n < 17 → (nI n).toNatClampNeg = n := by decide +kernel
theorem len_e {X : xS} {w : Nat} : FC_J0_length_8abf5 X w = nI (sLn.getD w 0) := by
  rw [FC_J0_length_8abf5, FC_J0_coder_7d493, gLt_x, gLt_x, sh0 _ (by have := sLn_le.1 w; omega)]
theorem chr_e {X : xS} {w j : Nat} (hw : w < 68) (hj : j < sLn.getD w 0) : FC_J0_charAt_5068e X w (nI j) = (sBy.getD w []).getD j 0 := by
  rw [FC_J0_charAt_5068e, FC_J0_isLatin1_aae02, gLt_x, if_neg (by decide), FC_J1_charAt_3b067, gLt_x, gLt_x, gLt_x, tn17 _ (by have := sLn_le.1 w; omega), sBy_c w hw j hj]
/-- the m bytes from q on are word w's text -/
def mt (b : Int32 → Int32) (q : Int32) (m w : Nat) : Prop := m = sLn.getD w 0 ∧ ∀ j, j < m → b (q + nI j) = (sBy.getD w []).getD j 0
theorem mt_tx {b : Int32 → Int32} {q : Int32} {m w : Nat} (h : mt b q m w) : rl (fun j => (b (q + nI j)).toNatClampNeg) m = tx w := by
  obtain ⟨h1, h2⟩ := h
  unfold tx
  rw [← h1]
  exact rl_cg m (fun j hj => by rw [h2 j hj])
theorem mt_u {b : Int32 → Int32} {q : Int32} {m w v : Nat} (hw : w < 34) (hv : v < 34) (h : mt b q m w) (k : mt b q m v) : w = v := tx_inj w hw v hv (by rw [← mt_tx h, ← mt_tx k])
theorem tx_mt {b : Int32 → Int32} {q : Int32} {m w : Nat} (hw : w < 34) (hb : ∀ j, j < m → 0 ≤ b (q + nI j)) (h : rl (fun j => (b (q + nI j)).toNatClampNeg) m = tx w) : mt b q m w := by
  unfold tx at h
  obtain ⟨e, h2⟩ := rl_eq _ _ h
  refine ⟨e, fun j hj => tn_inj (hb j hj) ?_ (h2 j hj)⟩
  have := (sBy_l w hw j (by omega)).1
  exact Int32.le_trans (by decide) this
theorem k_n {q : Int32} {m j : Nat} {L : Int32} (q0 : 0 ≤ q) (h : q + nI m ≤ L) (hm : m ≤ 1600) (hL : L ≤ 1600) (hq : q ≤ L) (hj : j < m) : 0 ≤ q + nI j ∧ q ≤ q + nI j ∧ q + nI j < q + nI m ∧ q + nI j < L := by
  have a := nI_lt hj (by omega)
  have b := nI_pos' (n := j) (by omega)
  have c : nI m ≤ 1600 := by have := nI_le (a := m) (b := 1600) hm (by decide); exact this
  generalize nI j = x at *
  generalize nI m = y at *
  clear hm hj
  have q1 : q ≤ 1600 := Int32.le_trans hq hL
  clear hq
  have z : q + x < q + y := by clear h hL; grind
  exact ⟨by clear h hL z; grind, by clear h hL z; grind, z, Int32.lt_of_lt_of_le z h⟩
section WD
variable {ad : adT} {S : mS} {X : xS} {q e : Int32} {m w : Nat}
theorem xA_c {c p : Int32} (h : RT ad S X) (p0 : 0 ≤ p) (pL : p < gI S 7) (hc : 0 ≤ c ∧ c ≤ 127) : (xA X (ad 11 0) p = c) = (gA S 1 p = c) := by
  have y := h.2.2.2.2.2.1 p p0 pL
  unfold byt at y
  apply propext
  clear h; grind
theorem isTx (h : RT ad S X) (q0 : 0 ≤ q) (qL : q ≤ gI S 7) (hw : w < 34) (eL : q + nI (sLn.getD w 0) ≤ gI S 7) : ∀ (N j : Nat), j ≤ sLn.getD w 0 → sLn.getD w 0 - j < N → (∀ i, i < j → gA S 1 (q + nI i) = (sBy.getD w []).getD i 0) →
    ((∀ i, i < sLn.getD w 0 → gA S 1 (q + nI i) = (sBy.getD w []).getD i 0) ∧ FC_X10_isText_L33 (ad 9 0) q w N (nI j) X = 1) ∨ ((∃ i, i < sLn.getD w 0 ∧ gA S 1 (q + nI i) ≠ (sBy.getD w []).getD i 0) ∧ FC_X10_isText_L33 (ad 9 0) q w N (nI j) X = 0) := by
  have l7 := sLn_7 w hw
  have hL := h.2.2.2.2.1
  intro N
  induction N with
  | zero => intro j _ z; exact absurd z (Nat.not_lt_zero _)
  | succ N ih =>
    intro j hj hN hi
    rw [FC_X10_isText_L33, len_e, gLt_x]
    by_cases c : j = sLn.getD w 0
    · rw [if_pos (by rw [c]; exact Int32.le_refl _)]
      exact Or.inl ⟨by rw [← c]; exact hi, rfl⟩
    · have jl : j < sLn.getD w 0 := by omega
      have kn := k_n q0 eL (by omega) hL.2 qL jl
      have bl := sBy_l w hw j jl
      rw [if_neg (show ¬ nI (sLn.getD w 0) ≤ nI j from Int32.not_le.mpr (nI_lt jl (by omega))), gLt_x, gLt_x, chr_e (by omega) jl, gLt_x, h.2.2.1, Option.getD_some]
      have hx := xA_c (c := (sBy.getD w []).getD j 0) h kn.1 kn.2.2.2 ⟨Int32.le_trans (by decide) bl.1, Int32.le_trans bl.2 (by decide)⟩
      by_cases d : xA X (ad 11 0) (q + nI j) = (sBy.getD w []).getD j 0
      · rw [if_pos d, gLt_x, ← nI_succ]
        rw [hx] at d
        exact ih (j + 1) jl (by omega) (fun i i1 => by
          by_cases y : i = j
          · rw [y]; exact d
          · exact hi i (by omega))
      · rw [if_neg d]
        rw [hx] at d
        exact Or.inr ⟨⟨j, jl, d⟩, rfl⟩
theorem isText_e (h : RT ad S X) (h5 : xI X (ad 9 0) 5 = e) (q0 : 0 ≤ q) (qL : q ≤ gI S 7) (eL : e ≤ gI S 7) (he : e = q + nI m) (hm : m ≤ 1600) (hw : w < 34) : (mt (gA S 1) q m w ∧ FC_X10_isText X (ad 9 0) q w = 1) ∨ (¬ mt (gA S 1) q m w ∧ FC_X10_isText X (ad 9 0) q w = 0) := by
  have l7 := sLn_7 w hw
  have hL := h.2.2.2.2.1
  rw [FC_X10_isText, len_e]
  repeat rw [gLt_x]
  rw [h5]
  by_cases c : m = sLn.getD w 0
  · rw [if_pos (show e - q = nI (sLn.getD w 0) by rw [he, c]; grind), if_neg (show ¬ q < 0 by clear h; grind)]
    repeat rw [gLt_x]
    rw [if_pos (show e ≤ 1600 by clear h; grind)]
    repeat rw [gLt_x]
    have fu : sLn.getD w 0 - 0 < (nI (sLn.getD w 0) - (0 : Int32)).toInt.toNat + 1 := by
      rw [show nI (sLn.getD w 0) - (0 : Int32) = nI (sLn.getD w 0) by generalize nI (sLn.getD w 0) = y; grind, nI_toInt (by omega)]; omega
    have r := isTx h q0 qL hw (by rw [← c, ← he]; exact eL) ((nI (sLn.getD w 0) - (0 : Int32)).toInt.toNat + 1) 0 (Nat.zero_le _) fu (fun i z => absurd z (Nat.not_lt_zero _))
    rcases r with ⟨r1, r2⟩ | ⟨⟨i, i1, i2⟩, r2⟩
    · exact Or.inl ⟨⟨c, fun j hj => r1 j (by omega)⟩, r2⟩
    · exact Or.inr ⟨fun z => i2 (z.2 i (by omega)), r2⟩
  · have ne : ¬ e - q = nI (sLn.getD w 0) := fun z => by
      rw [he, show q + nI m - q = nI m by grind] at z
      exact c (nI_inj31 (by omega) (by omega) z)
    rw [if_neg ne]
    exact Or.inr ⟨fun z => c z.1, rfl⟩
theorem wordAt_l (h : RT ad S X) (h5 : xI X (ad 9 0) 5 = e) (q0 : 0 ≤ q) (qL : q ≤ gI S 7) (eL : e ≤ gI S 7) (he : e = q + nI m) (hm : m ≤ 1600) : ∀ (N j : Nat), j ≤ 34 → 34 - j < N → (∀ w, w < j → ¬ mt (gA S 1) q m w) →
    (∃ w, w < 34 ∧ mt (gA S 1) q m w ∧ FC_X10_wordAt_L2 (ad 9 0) q N (nI j) X = nI w) ∨ ((∀ w, w < 34 → ¬ mt (gA S 1) q m w) ∧ FC_X10_wordAt_L2 (ad 9 0) q N (nI j) X = -1) := by
  intro N
  induction N with
  | zero => intro j _ z; exact absurd z (Nat.not_lt_zero _)
  | succ N ih =>
    intro j hj hN hi
    rw [FC_X10_wordAt_L2]
    by_cases c : j = 34
    · subst c
      rw [if_pos (by decide)]
      exact Or.inr ⟨hi, rfl⟩
    · have jl : j < 34 := by omega
      rw [if_neg (show ¬ 34 ≤ nI j from Int32.not_le.mpr (nI_lt jl (by decide))), gLt_x, gLt_x, show (nI j).toNatClampNeg = j from by
        have : ∀ n, n < 34 → (nI n).toNatClampNeg = n := by decide +kernel
        exact this j jl]
      rcases isText_e h h5 q0 qL eL he hm jl with ⟨r1, r2⟩ | ⟨r1, r2⟩
      · rw [r2, if_neg (by decide)]
        exact Or.inl ⟨j, jl, r1, rfl⟩
      · rw [r2, if_pos rfl, gLt_x, ← nI_succ]
        exact ih (j + 1) jl (by omega) (fun w hw => by
          by_cases y : w = j
          · rw [y]; exact r1
          · exact hi w (by omega))
theorem wordAt_e (h : RT ad S X) (h5 : xI X (ad 9 0) 5 = e) (q0 : 0 ≤ q) (qL : q ≤ gI S 7) (eL : e ≤ gI S 7) (he : e = q + nI m) (hm : m ≤ 1600) :
    (∃ w, w < 34 ∧ mt (gA S 1) q m w ∧ FC_X10_wordAt X (ad 9 0) q = nI w) ∨ ((∀ w, w < 34 → ¬ mt (gA S 1) q m w) ∧ FC_X10_wordAt X (ad 9 0) q = -1) := by
  rw [FC_X10_wordAt, gLt_x]
  have r := wordAt_l h h5 q0 qL eL he hm (((34 : Int32) - 0).toInt.toNat + 1) 0 (Nat.zero_le _) (by decide) (fun w z => absurd z (Nat.not_lt_zero _))
  exact r
/-! the reference's word -/
theorem w75 {v : Int64} (hw : ∀ k, 0 ≤ k → k < 34 → gL S 4 k = wPk k) : ∀ (N j : Nat), j ≤ 34 → 34 - j < N → (∀ k, k < j → wds.getD k 0 ≠ v) →
    (∃ k, k < 34 ∧ wds.getD k 0 = v ∧ G_word_L75 S v N (nI j) = nI k) ∨ ((∀ k, k < 34 → wds.getD k 0 ≠ v) ∧ G_word_L75 S v N (nI j) = -1) := by
  intro N
  induction N with
  | zero => intro j _ z; exact absurd z (Nat.not_lt_zero _)
  | succ N ih =>
    intro j hj hN hi
    rw [G_word_L75]
    by_cases c : j = 34
    · subst c
      rw [if_pos (by decide)]
      exact Or.inr ⟨hi, rfl⟩
    · have jl : j < 34 := by omega
      have lt : nI j < 34 := nI_lt jl (by decide)
      have tn : (nI j).toNatClampNeg = j := by
        have : ∀ n, n < 34 → (nI n).toNatClampNeg = n := by decide +kernel
        exact this j jl
      have eW := hw (nI j) (nI_pos' (by omega)) lt
      unfold wPk at eW
      rw [tn] at eW
      rw [if_neg (show ¬ 34 ≤ nI j from Int32.not_le.mpr lt), eW]
      by_cases d : wds.getD j 0 = v
      · rw [if_pos (lgc_0.mpr d)]
        exact Or.inl ⟨j, jl, d, rfl⟩
      · rw [if_neg (fun z => d (lgc_0.mp z)), gLt_x, ← nI_succ]
        exact ih (j + 1) jl (by omega) (fun w hw => by
          by_cases y : w = j
          · rw [y]; exact d
          · exact hi w (by omega))
theorem w46 (hb : ∀ j, j < m → 0 ≤ gA S 1 (q + nI j) ∧ gA S 1 (q + nI j) ≤ 255) (h9 : gI S 9 = q + nI m) (q0 : 0 ≤ q) (qL : q ≤ 1600) (hm : m ≤ 7) : ∀ (N n : Nat), n ≤ m → m - n < N →
    G_word_L46 S N (lN (pkR (rl (fun j => (gA S 1 (q + nI j)).toNatClampNeg) n))) (q + nI n) = G_word_L75 S (lN (pkR (rl (fun j => (gA S 1 (q + nI j)).toNatClampNeg) m))) (((34 : Int32) - 0).toInt.toNat + 1) 0 := by
  have fb : ∀ j, j < m → (gA S 1 (q + nI j)).toNatClampNeg < 256 := fun j hj => by
    have a := (hb j hj).1
    have b := (hb j hj).2
    have a1 : (gA S 1 (q + nI j)).toInt ≤ (255 : Int32).toInt := Int32.le_iff_toInt_le.mp b
    have e : (255 : Int32).toInt = 255 := by decide
    simp only [Int32.toNatClampNeg]; omega
  intro N
  induction N with
  | zero => intro n _ z; exact absurd z (Nat.not_lt_zero _)
  | succ N ih =>
    intro n hn hN
    rw [G_word_L46, h9]
    by_cases c : n = m
    · subst c
      rw [if_pos (Int32.le_refl _), gLt_x]
    · have nl : n < m := by omega
      have lt : q + nI n < q + nI m := by
        have a := nI_lt nl (by omega)
        have b := nI_pos' (n := n) (by omega)
        have d : nI m ≤ 7 := by have := nI_le (a := m) (b := 7) hm (by decide); exact this
        generalize nI n = x at *
        generalize nI m = y at *
        clear ih hb fb; grind
      rw [if_neg (Int32.not_le.mpr lt)]
      repeat rw [gLt_x]
      have bx := fb n nl
      have bp : pkR (rl (fun j => (gA S 1 (q + nI j)).toNatClampNeg) n) < 256 ^ n := pkb_lt n (fun j hj => fb j (by omega))
      have p6 : (256 : Nat) ^ n ≤ 256 ^ 6 := Nat.pow_le_pow_right (by decide) (by omega)
      have e1 : gA S 1 (q + nI n) = nI (gA S 1 (q + nI n)).toNatClampNeg := i32n (hb n nl).1
      have sh := wb_shl (pkR (rl (fun j => (gA S 1 (q + nI j)).toNatClampNeg) n)) (k := 8) (by decide)
      rw [show nI 8 = (8 : Int32) by decide] at sh
      rw [sh]
      have by6 := by64 _ bx
      rw [← e1] at by6
      rw [by6, g_or (k := 8) rfl bx (by omega), show q + nI n + 1 = q + nI (n + 1) by rw [nI_succ]; grind]
      exact ih (n + 1) nl (by omega)
theorem word_e (hb : ∀ j, j < m → 0 ≤ gA S 1 (q + nI j) ∧ gA S 1 (q + nI j) ≤ 255) (hw : ∀ k, 0 ≤ k → k < 34 → gL S 4 k = wPk k) (h8 : gI S 8 = q) (h9 : gI S 9 = q + nI m) (q0 : 0 ≤ q) (qL : q ≤ 1600) (hm : m ≤ 1600) :
    (∃ k, k < 34 ∧ mt (gA S 1) q m (tcN k) ∧ G_word S = nI k) ∨ ((∀ w, w < 34 → ¬ mt (gA S 1) q m w) ∧ G_word S = -1) := by
  rw [G_word, gLt_x, h8, h9, show q + nI m - q = nI m by grind]
  by_cases c7 : 7 < m
  · have l : (7 : Int32) < nI m := nI_lt (a := 7) c7 (by omega)
    rw [if_pos l]
    exact Or.inr ⟨fun w w1 z => by have := z.1; have := sLn_7 w w1; omega, rfl⟩
  · have l : ¬ (7 : Int32) < nI m := fun z => c7 ((nI_ltI (a := 7) (by decide) (by omega)).mp z)
    rw [if_neg l]
    have fin : (∀ j, j < m → j = 0 → gA S 1 (q + nI 0) ≠ 0) → (∃ k, k < 34 ∧ mt (gA S 1) q m (tcN k) ∧ G_word_J41 S 0 = nI k) ∨ ((∀ w, w < 34 → ¬ mt (gA S 1) q m w) ∧ G_word_J41 S 0 = -1) := fun h0 => by
      have J : G_word_J41 S 0 = G_word_L75 S (lN (pkR (rl (fun j => (gA S 1 (q + nI j)).toNatClampNeg) m))) (((34 : Int32) - 0).toInt.toNat + 1) 0 := by
        have r := w46 hb h9 q0 qL (by omega) ((gI S 9 - q).toInt.toNat + 1) 0 (Nat.zero_le _) (by
          rw [h9, show q + nI m - q = nI m by grind, nI_toInt (by omega)]; omega)
        rw [show q + nI 0 = q by rw [show nI 0 = 0 by decide]; grind] at r
        rw [G_word_J41, gLt_x, h8]
        exact r
      rw [J]
      have nzm : nz (rl (fun j => (gA S 1 (q + nI j)).toNatClampNeg) m) = true := by
        cases m with
        | zero => rfl
        | succ m =>
          refine rl_nz ?_ _
          intro z
          have e1 := i32n (hb 0 (by omega)).1
          rw [z] at e1
          exact h0 0 (by omega) rfl e1
      have fb : ∀ j, j < m → (gA S 1 (q + nI j)).toNatClampNeg < 256 := fun j hj => by
        have a := (hb j hj).1
        have b := (hb j hj).2
        have a1 : (gA S 1 (q + nI j)).toInt ≤ (255 : Int32).toInt := Int32.le_iff_toInt_le.mp b
        have e : (255 : Int32).toInt = 255 := by decide
        simp only [Int32.toNatClampNeg]; omega
      have bp := pkb_lt (f := fun j => (gA S 1 (q + nI j)).toNatClampNeg) m fb
      have p7 : (256 : Nat) ^ m ≤ 256 ^ 7 := Nat.pow_le_pow_right (by decide) (by omega)
      have key : ∀ k, k < 34 → (wds.getD k 0 = lN (pkR (rl (fun j => (gA S 1 (q + nI j)).toNatClampNeg) m)) ↔ mt (gA S 1) q m (tcN k)) := fun k k1 => by
        have t := tx_ok (tcN k) (tcN_lt k k1)
        rw [wds_t k k1]
        constructor
        · intro z
          refine tx_mt (tcN_lt k k1) (fun j hj => (hb j hj).1) ?_
          exact pk_inj _ _ (fun x hx => by obtain ⟨j, j1, j2⟩ := rl_mem _ _ hx; rw [j2]; exact fb j j1) t.2.1 nzm t.1 (lN_inj t.2.2 (by omega) z).symm
        · intro z
          rw [mt_tx z]
      rcases w75 (v := lN (pkR (rl (fun j => (gA S 1 (q + nI j)).toNatClampNeg) m))) hw (((34 : Int32) - 0).toInt.toNat + 1) 0 (Nat.zero_le _) (by decide) (fun k z => absurd z (Nat.not_lt_zero _)) with ⟨k, k1, k2, k3⟩ | ⟨k2, k3⟩
      · exact Or.inl ⟨k, k1, (key k k1).mp k2, k3⟩
      · refine Or.inr ⟨fun w w1 z => ?_, k3⟩
        obtain ⟨k, k1, k4⟩ := tcN_on w w1
        exact k2 k k1 ((key k k1).mpr (by rw [k4]; exact z))
    by_cases c0 : m = 0
    · subst c0
      rw [if_pos (show q + nI 0 ≤ q by rw [show nI 0 = 0 by decide]; grind)]
      exact fin (fun j z => absurd z (Nat.not_lt_zero _))
    · have gt : ¬ q + nI m ≤ q := by
        have a := nI_lt (a := 0) (b := m) (by omega) (by omega)
        have d : nI m ≤ 7 := by have := nI_le (a := m) (b := 7) (by omega) (by decide); exact this
        rw [show nI 0 = 0 by decide] at a
        generalize nI m = y at *
        clear hb hw; grind
      rw [if_neg gt]
      by_cases d : gA S 1 q = 0
      · rw [if_pos d]
        refine Or.inr ⟨fun w w1 z => ?_, rfl⟩
        have z2 := z.2 0 (by omega)
        rw [show q + nI 0 = q by rw [show nI 0 = 0 by decide]; grind, d] at z2
        have := (sBy_l w w1 0 (by have := sLn_7 w w1; omega)).1
        rw [← z2] at this
        exact absurd this (by decide)
      · rw [if_neg d]
        exact fin (fun j _ _ => by rw [show q + nI 0 = q by rw [show nI 0 = 0 by decide]; grind]; exact d)
end WD

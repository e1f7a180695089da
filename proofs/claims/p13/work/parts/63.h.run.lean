/-! both side by side: run -/
theorem m7_a : ∀ a : Fin 16, ((nI a.val &&& 7) + 1) - ((nI a.val &&& 7) + 1) / 8 * 8 = (nI a.val + 1) &&& 7 := by decide
theorem m7_r : ∀ a : Fin 16, 0 ≤ (nI a.val &&& 7) ∧ (nI a.val &&& 7) < 8 := by decide
theorem m7_i : ∀ a : Fin 8, (0 + nI a.val) &&& 7 = nI a.val := by decide
theorem m7_f : ∀ a : Fin 9, ∀ b : Fin 8, (0 ≤ ((nI b.val - nI a.val) &&& 7) ∧ ((nI b.val - nI a.val) &&& 7) < 8) ∧ (nI a.val + ((nI b.val - nI a.val) &&& 7)) &&& 7 = nI b.val := by decide
theorem m7_s : ∀ a : Fin 8, (nI a.val + 1) - (nI a.val + 1) / 8 * 8 = (nI a.val + 1 + 0) &&& 7 := by decide
theorem i32f {q : Int32} {n : Nat} {m : Int32} (h0 : 0 ≤ q) (h1 : q < m) (hm : m.toInt = n) : ∃ a : Fin n, q = nI a.val := by
  have e := i32n h0
  have a1 : q.toInt < m.toInt := Int32.lt_iff_toInt_lt.mp h1
  have a0 : (0 : Int) ≤ q.toInt := Int32.le_iff_toInt_le.mp h0
  exact ⟨⟨q.toNatClampNeg, by simp only [Int32.toNatClampNeg]; omega⟩, e⟩
theorem n7_a {x : Int32} (h0 : 0 ≤ x) (h1 : x < 16) : ((x &&& 7) + 1) - ((x &&& 7) + 1) / 8 * 8 = (x + 1) &&& 7 := by
  obtain ⟨a, rfl⟩ := i32f (n := 16) h0 h1 (by decide)
  exact m7_a a
theorem n7_r {x : Int32} (h0 : 0 ≤ x) (h1 : x < 16) : 0 ≤ (x &&& 7) ∧ (x &&& 7) < 8 := by
  obtain ⟨a, rfl⟩ := i32f (n := 16) h0 h1 (by decide)
  exact m7_r a
theorem n7_i {x : Int32} (h0 : 0 ≤ x) (h1 : x < 8) : (0 + x) &&& 7 = x := by
  obtain ⟨a, rfl⟩ := i32f (n := 8) h0 h1 (by decide)
  exact m7_i a
theorem n7_s {x : Int32} (h0 : 0 ≤ x) (h1 : x < 8) : (x + 1) - (x + 1) / 8 * 8 = (x + 1 + 0) &&& 7 := by
  obtain ⟨a, rfl⟩ := i32f (n := 8) h0 h1 (by decide)
  exact m7_s a
theorem n7_f {x u : Int32} (h0 : 0 ≤ x) (h1 : x < 9) (u0 : 0 ≤ u) (u1 : u < 8) : ∃ j, 0 ≤ j ∧ j < 8 ∧ (x + j) &&& 7 = u := by
  obtain ⟨a, rfl⟩ := i32f (n := 9) h0 h1 (by decide)
  obtain ⟨b, rfl⟩ := i32f (n := 8) u0 u1 (by decide)
  exact ⟨_, (m7_f a b).1.1, (m7_f a b).1.2, (m7_f a b).2⟩
/-- the READY one behind so many others -/
def sr (S : mS) (fm : Int32) : Nat → Int32 → Int32 → Option Int32
  | 0, _, _ => none
  | n + 1, l, i => if 8 ≤ i then none else (if gA S 13 ((fm + i) &&& 7) = 1 then (if l = 0 then some ((fm + i) &&& 7) else sr S fm n (l + (-1)) (i + 1)) else sr S fm n l (i + 1))
theorem srX {ad : adT} {S : mS} {X : xS} {fm : Int32} (h : Rel ad (-1) S X) (f0 : 0 ≤ fm ∧ fm < 9) : ∀ (n M : Nat) (l i : Int32), 0 ≤ i → i ≤ 8 → (8 - i).toInt.toNat < n → (8 - i).toInt.toNat < M → FC_X12_readyFrom_L5 (ad 8 0) fm M l i X = ((sr S fm n l i).map (ad 0), X) := by
  intro n
  induction n with
  | zero => intro M l i _ _ h; exact absurd h (Nat.not_lt_zero _)
  | succ n ih =>
    intro M l i i0 i8 hn hM
    cases M with
    | zero => exact absurd hM (Nat.not_lt_zero _)
    | succ M =>
      rw [FC_X12_readyFrom_L5, sr]
      by_cases c : (8 : Int32) ≤ i
      · rw [if_pos c, if_pos c]; rfl
      · have hx := n7_r (x := fm + i) (by clear h ih hn; grind) (by clear h ih hn; grind)
        have n1 := msd hn (b := 8 - (i + 1)) (by clear h ih hn; grind) (by clear h ih hn; grind)
        have m1 := msd hM (b := 8 - (i + 1)) (by clear h ih hn; grind) (by clear h ih hn; grind)
        rw [if_neg c, if_neg c, gLt_x, h.2.1.2.2.1, Option.getD_some, gLt_x, h.2.1.2.2.2.2.2.2 _ hx.1 hx.2, Option.getD_some, gLt_x, (th0 h hx).2.1]
        by_cases d : gA S 13 ((fm + i) &&& 7) = 1
        · rw [if_pos d, if_pos d]
          by_cases e : l = 0
          · rw [if_pos e, if_pos e]; rfl
          · rw [if_neg e, if_neg e, gLt_x, gLt_x]
            exact ih M _ _ (by clear h ih hn n1; grind) (by clear h ih hn n1; grind) n1 m1
        · rw [if_neg d, if_neg d, gLt_x]
          exact ih M _ _ (by clear h ih hn n1; grind) (by clear h ih hn n1; grind) n1 m1
theorem srS {S : mS} {fm dn u : Int32} {K : Int32 → mS → Int32 × mS} (f0 : 0 ≤ fm ∧ fm < 9) : ∀ (n M : Nat) (l i : Int32), 0 ≤ l → l ≤ 8 → 0 ≤ i → i ≤ 8 → (8 - i).toInt.toNat < n → (8 - i).toInt.toNat < M → sr S fm n l i = some u → G_run_L109 dn S K M ((fm + i) &&& 7) l = K (dn + 1) (G_one S u) ∧ gA S 13 u = 1 ∧ 0 ≤ u ∧ u < 8 := by
  intro n
  induction n with
  | zero => intro M l i _ _ _ _ h; exact absurd h (Nat.not_lt_zero _)
  | succ n ih =>
    intro M l i l0 l8 i0 i8 hn hM hs
    cases M with
    | zero => exact absurd hM (Nat.not_lt_zero _)
    | succ M =>
      rw [sr] at hs
      by_cases c : (8 : Int32) ≤ i
      · rw [if_pos c] at hs; exact absurd hs (by simp)
      · rw [if_neg c] at hs
        have hx := n7_r (x := fm + i) (by clear ih hn; grind) (by clear ih hn; grind)
        have n1 := msd hn (b := 8 - (i + 1)) (by clear ih hn; grind) (by clear ih hn; grind)
        have m1 := msd hM (b := 8 - (i + 1)) (by clear ih hn; grind) (by clear ih hn; grind)
        have nx : ((fm + i) &&& 7) + 1 - (((fm + i) &&& 7) + 1) / 8 * 8 = (fm + (i + 1)) &&& 7 := by
          rw [n7_a (by clear ih hn; grind) (by clear ih hn; grind), show fm + i + 1 = fm + (i + 1) by grind]
        rw [G_run_L109]
        by_cases d : gA S 13 ((fm + i) &&& 7) = 1
        · rw [if_pos d] at hs
          by_cases e : l = 0
          · rw [if_pos e] at hs
            have eu := Option.some.inj hs
            rw [if_pos d, if_pos (show l ≤ 0 by rw [e]; decide), gLt_x, gLt_x, eu]
            rw [eu] at d hx
            exact ⟨rfl, d, hx.1, hx.2⟩
          · rw [if_neg e] at hs
            rw [if_pos d, if_neg (show ¬ l ≤ 0 by clear ih hs n1 m1; grind), if_pos d, gLt_x, gLt_x, nx]
            exact ih M _ _ (by clear ih hn n1 hs nx; grind) (by clear ih hn n1 hs nx; grind) (by clear ih hn n1 hs nx; grind) (by clear ih hn n1 hs nx; grind) n1 m1 hs
        · rw [if_neg d] at hs
          rw [if_neg d, if_neg d, gLt_x, nx]
          exact ih M _ _ l0 l8 (by clear ih hn n1 hs nx; grind) (by clear ih hn n1 hs nx; grind) n1 m1 hs
/-- with none to pass by one is found -/
theorem sr_0 {S : mS} {fm : Int32} : ∀ (n : Nat) (i : Int32), 0 ≤ i → i ≤ 8 → (8 - i).toInt.toNat < n → (∃ j, i ≤ j ∧ j < 8 ∧ gA S 13 ((fm + j) &&& 7) = 1) → ∃ u, sr S fm n 0 i = some u := by
  intro n
  induction n with
  | zero => intro i _ _ h; exact absurd h (Nat.not_lt_zero _)
  | succ n ih =>
    intro i i0 i8 hn hj
    obtain ⟨j, j0, j1, j2⟩ := hj
    rw [sr, if_neg (show ¬ 8 ≤ i by clear ih hn; grind)]
    by_cases d : gA S 13 ((fm + i) &&& 7) = 1
    · rw [if_pos d, if_pos rfl]; exact ⟨_, rfl⟩
    · rw [if_neg d]
      have ne : j ≠ i := fun q => d (by rw [← q]; exact j2)
      exact ih (i + 1) (by clear ih hn; grind) (by clear ih hn; grind) (msd hn (by clear ih hn; grind) (by clear ih hn; grind)) ⟨j, by clear ih hn; grind, j1, j2⟩
/-- how many READY ones stand from i on -/
theorem rdy_b {S : mS} : ∀ (N : Nat) (w i : Int32), 0 ≤ i → i ≤ 8 → 0 ≤ w → w ≤ i → (8 - i).toInt.toNat < N → w ≤ G_ready_L4 S N w i ∧ G_ready_L4 S N w i ≤ w + (8 - i) := by
  intro N
  induction N with
  | zero => intro w i _ _ _ _ h; exact absurd h (Nat.not_lt_zero _)
  | succ N ih =>
    intro w i i0 i8 w0 wi hN
    rw [G_ready_L4]
    by_cases c : (8 : Int32) ≤ i
    · rw [if_pos c]; exact ⟨Int32.le_refl _, by clear ih hN; grind⟩
    · rw [if_neg c]
      have n1 := msd hN (b := 8 - (i + 1)) (by clear ih hN; grind) (by clear ih hN; grind)
      by_cases d : gA S 13 i = 1
      · rw [if_pos d, gLt_x, gLt_x]
        have r := ih (w + 1) (i + 1) (by clear ih hN; grind) (by clear ih hN; grind) (by clear ih hN; grind) (by clear ih hN; grind) n1
        generalize G_ready_L4 S N (w + 1) (i + 1) = g at r ⊢
        have e1 : w + 1 + (8 - (i + 1)) = w + (8 - i) := by clear ih hN n1 r; grind
        rw [e1] at r
        exact ⟨Int32.le_trans (by clear ih hN n1 r; grind) r.1, r.2⟩
      · rw [if_neg d, gLt_x, gLt_x, show w + 0 = w by grind]
        have r := ih w (i + 1) (by clear ih hN; grind) (by clear ih hN; grind) w0 (by clear ih hN; grind) n1
        generalize G_ready_L4 S N w (i + 1) = g at r ⊢
        exact ⟨r.1, Int32.le_trans r.2 (by clear ih hN n1 r; grind)⟩
/-- in order, one behind fewer than there are is found -/
theorem sr_1 {S : mS} : ∀ (N n : Nat) (w l i : Int32), 0 ≤ i → i ≤ 8 → 0 ≤ w → w ≤ i → 0 ≤ l → (8 - i).toInt.toNat < N → (8 - i).toInt.toNat < n → w + l < G_ready_L4 S N w i → l ≤ 8 → ∃ u, sr S 0 n l i = some u := by
  intro N
  induction N with
  | zero => intro n w l i _ _ _ _ _ h; exact absurd h (Nat.not_lt_zero _)
  | succ N ih =>
    intro n w l i i0 i8 w0 wi l0 hN hn hl l8
    cases n with
    | zero => exact absurd hn (Nat.not_lt_zero _)
    | succ n =>
      rw [G_ready_L4] at hl
      rw [sr]
      by_cases c : (8 : Int32) ≤ i
      · rw [if_pos c] at hl; exfalso; clear ih hN hn; grind
      · rw [if_neg c] at hl ⊢
        have n1 := msd hN (b := 8 - (i + 1)) (by clear ih hN; grind) (by clear ih hN; grind)
        have m1 := msd hn (b := 8 - (i + 1)) (by clear ih hn; grind) (by clear ih hn; grind)
        rw [n7_i i0 (by clear ih hN hl; grind)]
        by_cases d : gA S 13 i = 1
        · rw [if_pos d] at hl ⊢
          rw [gLt_x, gLt_x] at hl
          by_cases e : l = 0
          · rw [if_pos e]; exact ⟨_, rfl⟩
          · rw [if_neg e]
            refine ih n (w + 1) (l + (-1)) (i + 1) (by clear ih hN hl; grind) (by clear ih hN hl; grind) (by clear ih hN hl; grind) (by clear ih hN hl; grind) (by clear ih hN hl; grind) n1 m1 ?_ (by clear ih hN hl; grind)
            rw [show w + 1 + (l + (-1)) = w + l by grind]; exact hl
        · rw [if_neg d] at hl ⊢
          rw [gLt_x, gLt_x, show w + 0 = w by grind] at hl
          exact ih n w l (i + 1) (by clear ih hN hl; grind) (by clear ih hN hl; grind) w0 (by clear ih hN hl; grind) l0 n1 m1 hl l8
theorem cntR {ad : adT} {S : mS} {X : xS} (h : Rel ad (-1) S X) : ∀ (N : Nat) (n i : Int32), 0 ≤ i → i ≤ 8 → (8 - i).toInt.toNat < N → FC_X12_howManyReady_L13 (ad 13 0) 8 N n i X = (G_ready_L4 S N n i, X) := by
  intro N
  induction N with
  | zero => intro n i _ _ h; exact absurd h (Nat.not_lt_zero _)
  | succ N ih =>
    intro n i i0 i1 hN
    rw [FC_X12_howManyReady_L13, G_ready_L4]
    by_cases c : (8 : Int32) ≤ i
    · rw [if_pos c, if_pos c]
    · rw [if_neg c, if_neg c]
      have ht : 0 ≤ i ∧ i < 8 := by clear ih h; grind
      have n1 := msd hN (b := 8 - (i + 1)) (by clear ih h hN; grind) (by clear ih h hN; grind)
      rw [gLt_x, h.2.1.2.2.2.2.2.2 i ht.1 ht.2, Option.getD_some, gLt_x, (th0 h ht).2.1]
      by_cases d : gA S 13 i = 1
      · rw [if_pos d, if_pos d]
        repeat rw [gLt_x]
        exact ih _ _ (by clear ih h; grind) (by clear ih h; grind) n1
      · rw [if_neg d, if_neg d]
        repeat rw [gLt_x]
        exact ih _ _ (by clear ih h; grind) (by clear ih h; grind) n1
theorem rdy_e {S : mS} : G_ready S = G_ready_L4 S ((8 - 0 : Int32).toInt.toNat + 1) 0 0 := by rw [G_ready, gLt_x, gLt_x]
theorem cntR_e {ad : adT} {S : mS} {X : xS} (h : Rel ad (-1) S X) : FC_X12_howManyReady X (ad 8 0) = (G_ready S, X) := by
  rw [FC_X12_howManyReady, rdy_e]
  repeat rw [gLt_x]
  rw [h.2.1.2.2.1, Option.getD_some]
  exact cntR h _ _ _ (by decide) (by decide) (Nat.lt_succ_self _)
theorem rdyI {S : mS} {k : Nat} {v : Int32} : ∀ (N : Nat) (w i : Int32), G_ready_L4 (sI S k v) N w i = G_ready_L4 S N w i := by
  intro N
  induction N with
  | zero => intro w i; rw [G_ready_L4, G_ready_L4]
  | succ N ih =>
    intro w i
    rw [G_ready_L4, G_ready_L4, gA_sI]
    repeat rw [gLt_x]
    rw [ih, ih]

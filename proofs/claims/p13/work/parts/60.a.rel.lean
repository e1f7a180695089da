/-! the class against the reference: what each field of the one is in the other -/
abbrev adT : Type := Nat → Int32 → Nat
def inj (ad : adT) : Prop := ∀ k i l j, ad k i = ad l j → k = l ∧ i = j
theorem inj_e {ad : adT} (h : inj ad) (k : Nat) (i : Int32) (l : Nat) (j : Int32) : (ad k i = ad l j) = (k = l ∧ i = j) :=
  propext ⟨h k i l j, fun q => by rw [q.1, q.2]⟩
theorem tn_inj {i j : Int32} (hi : 0 ≤ i) (hj : 0 ≤ j) (h : i.toNatClampNeg = j.toNatClampNeg) : i = j := by
  have h1 : (0 : Int) ≤ i.toInt := Int32.le_iff_toInt_le.mp hi
  have h2 : (0 : Int) ≤ j.toInt := Int32.le_iff_toInt_le.mp hj
  simp only [Int32.toNatClampNeg] at h
  exact Int32.toInt_inj.mp (by omega)
theorem tn_e {i j : Int32} (hi : 0 ≤ i) (hj : 0 ≤ j) : (i.toNatClampNeg = j.toNatClampNeg) = (i = j) := propext ⟨tn_inj hi hj, fun q => by rw [q]⟩
theorem ix8 {b d i j : Int32} (hb : 0 ≤ b ∧ b < 24) (hd : 0 ≤ d ∧ d < 24) (hi : 0 ≤ i ∧ i < 8) (hj : 0 ≤ j ∧ j < 8) (h : 8 * b + i = 8 * d + j) : b = d ∧ i = j := by
  by_cases q : d = b
  · subst q; exact ⟨rfl, by grind⟩
  · have := a_row hb hd hj (j := i + 1) (by grind) q
    grind
theorem ix100 {b d i j : Int32} (hb : 0 ≤ b ∧ b < 24) (hd : 0 ≤ d ∧ d < 24) (hi : 0 ≤ i ∧ i < 100) (hj : 0 ≤ j ∧ j < 100) (h : 100 * b + i = 100 * d + j) : b = d ∧ i = j := by
  rcases (show d = b ∨ d < b ∨ b < d by grind) with q | q | q
  · subst q; exact ⟨rfl, by grind⟩
  · have h2 : d + 1 ≤ b := by grind
    grind
  · have h2 : b + 1 ≤ d := by grind
    grind
theorem ix240 {b d i j : Int32} (hb : 0 ≤ b ∧ b < 8) (hd : 0 ≤ d ∧ d < 8) (hi : 0 ≤ i ∧ i < 240) (hj : 0 ≤ j ∧ j < 240) (h : 240 * b + i = 240 * d + j) : b = d ∧ i = j := by
  rcases (show d = b ∨ d < b ∨ b < d by grind) with q | q | q
  · subst q; exact ⟨rfl, by grind⟩
  · have h2 : d + 1 ≤ b := by grind
    grind
  · have h2 : b + 1 ≤ d := by grind
    grind
/-- the class's number of the reference's word -/
def toC (q : Int32) : Int32 := if q ≤ 6 then q else if q = 33 then 7 else q + 1
/-- an INSTRUCTION: the word, and the numbers that it has -/
def cM (x : Int32 → Int32) (k q a b c : Int32) : Prop :=
  0 ≤ q ∧ q ≤ 33 ∧ x (4 * k) = toC q ∧ (q ≠ 6 → q ≠ 33 → x (4 * k + 1) = a) ∧ (q = 15 ∨ q = 16 ∨ q = 17 ∨ q = 18 → x (4 * k + 2) = b) ∧ (q = 16 → x (4 * k + 3) = c)
/-- a byte, with its sign and without -/
def byt (x y : Int32) : Prop := 0 ≤ y ∧ y ≤ 255 ∧ ((x = y ∧ y ≤ 127) ∨ (x = y - 256 ∧ 128 ≤ y))
/-- the class of an OBJECT by its KIND (from 1) -/
def kC9 (k : Int32) : Nat := if k = 1 then 3 else if k = 2 then 6 else if k = 3 then 2 else if k = 4 then 2 else if k = 5 then 4 else if k = 8 then 0 else 1
/-- the words of the reference, eight bits a letter -/
def wds : List Int64 := [1819238756, 6382692, 1786080624, 2053468783, 1818588019, 495739823472, 6647396, 1819239275, 7631481, 129117126091627, 2002872692, 126896544047468, 6384748, 6776180, 7562612, 6909539, 6513011, 27412411693232741, 32199663576773477, 431415716206, 1685026670, 418614700404, 1835361652, 7370100, 1952541541, 478459356530, 1886350444, 1734964837, 1785686382, 26990, 7304564, 7305070, 1650549611, 1953066341]
def wPk (k : Int32) : Int64 := wds.getD k.toNatClampNeg 0
def Rk (ad : adT) (S : mS) (X : xS) : Prop :=
  xR X (ad 8 0) 0 = some (ad 9 0) ∧ xR X (ad 8 0) 1 = some (ad 12 0) ∧ xR X (ad 8 0) 2 = some (ad 13 0) ∧ xJ X (ad 8 0) 3 = gJ S 24 ∧ xJ X (ad 8 0) 4 = gJ S 25 ∧ xI X (ad 8 0) 5 = gI S 26 ∧
  ∀ t, 0 ≤ t → t < 8 → xQ X (ad 13 0) t = some (ad 0 t)
def Rz (ad : adT) (S : mS) (X : xS) : Prop :=
  xR X (ad 9 0) 0 = some (ad 10 0) ∧ xI X (ad 9 0) 2 = gI S 2 ∧ xR X (ad 9 0) 4 = some (ad 11 0) ∧ (∀ i, 0 ≤ i → i < gI S 2 → byt (xA X (ad 11 0) i) (gA S 1 i)) ∧ ∀ k, 0 ≤ k → k < 34 → gL S 4 k = wPk k
def Rt (ad : adT) (S : mS) (X : xS) : Prop := ∀ t, 0 ≤ t → t < 8 →
  xI X (ad 0 t) 0 = t ∧ xI X (ad 0 t) 1 = gA S 13 t ∧ xI X (ad 0 t) 2 = gA S 14 t ∧ xI X (ad 0 t) 3 = gA S 15 t ∧ xI X (ad 0 t) 4 = gA S 17 t ∧ xI X (ad 0 t) 5 = gA S 20 t ∧ xJ X (ad 0 t) 6 = gL S 23 t ∧
  (gA S 22 t = 0 → xI X (ad 0 t) 9 = 0) ∧ (gA S 22 t ≠ 0 → xI X (ad 0 t) 9 = gA S 18 t) ∧ (gA S 22 t ≠ 0 → gA S 21 t = 0 → xI X (ad 0 t) 10 = gA S 19 t) ∧ xR X (ad 0 t) 11 = some (ad 1 t) ∧ xI X (ad 0 t) 12 = gA S 12 t
def Rc (ad : adT) (S : mS) (X : xS) : Prop := ∀ t k, 0 ≤ t → t < 8 → 0 ≤ k → k < 60 → k < gA S 12 t →
  cM (xA X (ad 1 t)) k (gA S 11 (240 * t + 4 * k)) (gA S 11 (240 * t + 4 * k + 1)) (gA S 11 (240 * t + 4 * k + 2)) (gA S 11 (240 * t + 4 * k + 3))
def Rp1 (ad : adT) (S : mS) (X : xS) : Prop := ∀ b i, 0 ≤ b → b < 24 → 0 ≤ i → i < gA S 33 b → xR X (ad 0 (gA S 32 (8 * b + i))) 7 = some (ad 2 b) ∧ xR X (ad 0 (gA S 32 (8 * b + i))) 8 = some (ad 3 b)
def Rp2 (ad : adT) (e : Int32) (S : mS) (X : xS) : Prop := ∀ t, t ≠ e → 0 ≤ t → t < 8 → nR S t → gA S 21 t = 0 → xR X (ad 0 t) 7 = none ∧ xR X (ad 0 t) 8 = none
def Rp3 (ad : adT) (S : mS) (X : xS) : Prop := ∀ t, 0 ≤ t → t < 8 → gA S 21 t ≠ 0 → xR X (ad 0 t) 7 = some (ad 2 (gA S 16 t)) ∧ xR X (ad 0 t) 8 = some (ad 5 (gA S 16 t))
def rOb (ad : adT) (X : xS) (b k f s o : Int32) : Prop :=
  xC X (ad 2 b) = kC9 k ∧ xI X (ad 2 b) 0 = b ∧ xI X (ad 2 b) 1 = k - 1 ∧ xR X (ad 2 b) 2 = some (ad 3 b) ∧ xR X (ad 3 b) 1 = some (ad 4 b) ∧
  (k = 1 → xI X (ad 2 b) 3 = o ∧ xI X (ad 2 b) 4 = s ∧ xI X (ad 2 b) 5 = f ∧ xR X (ad 2 b) 6 = some (ad 5 b) ∧ xR X (ad 5 b) 1 = some (ad 6 b)) ∧
  (k = 2 ∨ k = 3 ∨ k = 4 → xI X (ad 2 b) 3 = f) ∧ (k = 5 → xR X (ad 2 b) 3 = some (ad 7 b) ∧ nI (xC X (ad 7 b)) = f) ∧ (k = 6 → xI X (ad 2 b) 3 = 1) ∧ (k = 7 → xI X (ad 2 b) 3 = s) ∧
  (k = 6 ∨ k = 7 → xI X (ad 2 b) 4 = f) ∧ (k = 8 → xI X (ad 2 b) 3 = o ∧ xI X (ad 2 b) 4 = f)
def Ro (ad : adT) (S : mS) (X : xS) : Prop := ∀ b, 0 ≤ b → b < 24 → (gA S 28 b = 0 → xQ X (ad 12 0) b = none) ∧ (gA S 28 b ≠ 0 → xQ X (ad 12 0) b = some (ad 2 b) ∧ rOb ad X b (gA S 28 b) (gA S 29 b) (gA S 30 b) (gA S 31 b))
def Rr (ad : adT) (S : mS) (X : xS) : Prop := ∀ b, 0 ≤ b → b < 24 → gA S 28 b ≠ 0 → xI X (ad 3 b) 0 = gA S 33 b ∧ ∀ i, 0 ≤ i → i < gA S 33 b → xQ X (ad 4 b) i = some (ad 0 (gA S 32 (8 * b + i)))
def Rr2 (ad : adT) (S : mS) (X : xS) : Prop := ∀ b, 0 ≤ b → b < 24 → gA S 28 b = 1 → xI X (ad 5 b) 0 = gA S 35 b ∧ ∀ i, 0 ≤ i → i < gA S 35 b → xQ X (ad 6 b) i = some (ad 0 (gA S 34 (8 * b + i)))
/-- a place of the ring -/
def rix (h i f : Int32) : Int32 := if h + i < f then h + i else h + i - f
def Rq (ad : adT) (S : mS) (X : xS) : Prop := ∀ b, 0 ≤ b → b < 24 → gA S 28 b = 5 → xI X (ad 2 b) 5 = gA S 37 b ∧ (0 ≤ xI X (ad 2 b) 4 ∧ xI X (ad 2 b) 4 < gA S 29 b) ∧
  ∀ i, 0 ≤ i → i < gA S 37 b → xA X (ad 7 b) (rix (xI X (ad 2 b) 4) i (gA S 29 b)) = gA S 36 (100 * b + i)
/-- e: a THREAD on its way from a row (-1 for none) -/
def Rel (ad : adT) (e : Int32) (S : mS) (X : xS) : Prop := inj ad ∧ Rk ad S X ∧ Rz ad S X ∧ Rt ad S X ∧ Rc ad S X ∧ Rp1 ad S X ∧ Rp2 ad e S X ∧ Rp3 ad S X ∧ Ro ad S X ∧ Rr ad S X ∧ Rr2 ad S X ∧ Rq ad S X

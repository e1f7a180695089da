/-! the class: a view of the pool, field by field; what a write to the pool is to the view -/
abbrev xS : Type := (Nat → Nat → Int32) × (Nat → Nat → Int64) × (Nat → Nat → Option Nat) × (Nat → Nat → Int32) × (Nat → Nat → Option Nat) × (Nat → Nat)
def eI (e : va_E) (j : Nat) : Int32 := match e with
  | .inr (_, l) => (match l[j]? with | some (.int v) => v | _ => 0)
  | _ => 0
def eJ (e : va_E) (j : Nat) : Int64 := match e with
  | .inr (_, l) => (match l[j]? with | some (.long v) => v | _ => 0)
  | _ => 0
def eR (e : va_E) (j : Nat) : Option Nat := match e with
  | .inr (_, l) => (match l[j]? with | some (.ref v) => some v | _ => none)
  | _ => none
def eA (e : va_E) (i : Nat) : Int32 := match e with
  | .inl (_, _, .inl g) => g i
  | _ => 0
def eQ (e : va_E) (i : Nat) : Option Nat := match e with
  | .inl (_, _, .inr (.inr (.inr (.inr g)))) => g i
  | _ => none
/-- an object's class, an array's length -/
def eC (e : va_E) : Nat := match e with
  | .inr (c, _) => c
  | .inl (_, n, _) => n
def view (f : Nat → va_E) : xS := (fun a j => eI (f a) j, fun a j => eJ (f a) j, fun a j => eR (f a) j, fun a j => eA (f a) j, fun a j => eQ (f a) j, fun a => eC (f a))
def xI (X : xS) (a j : Nat) : Int32 := X.1 a j
def xJ (X : xS) (a j : Nat) : Int64 := X.2.1 a j
def xR (X : xS) (a j : Nat) : Option Nat := X.2.2.1 a j
def xA (X : xS) (a : Nat) (i : Int32) : Int32 := X.2.2.2.1 a i.toNatClampNeg
def xQ (X : xS) (a : Nat) (i : Int32) : Option Nat := X.2.2.2.2.1 a i.toNatClampNeg
def xC (X : xS) (a : Nat) : Nat := X.2.2.2.2.2 a
def up2 {α : Type} (g : Nat → Nat → α) (a j : Nat) (v : α) : Nat → Nat → α := fun b k => if b = a ∧ k = j then v else g b k
def xwI (X : xS) (a j : Nat) (v : Int32) : xS := (up2 X.1 a j v, X.2.1, X.2.2.1, X.2.2.2.1, X.2.2.2.2.1, X.2.2.2.2.2)
def xwJ (X : xS) (a j : Nat) (v : Int64) : xS := (X.1, up2 X.2.1 a j v, X.2.2.1, X.2.2.2.1, X.2.2.2.2.1, X.2.2.2.2.2)
def xwR (X : xS) (a j : Nat) (v : Option Nat) : xS := (X.1, X.2.1, up2 X.2.2.1 a j v, X.2.2.2.1, X.2.2.2.2.1, X.2.2.2.2.2)
def xwA (X : xS) (a : Nat) (i : Int32) (v : Int32) : xS := (X.1, X.2.1, X.2.2.1, up2 X.2.2.2.1 a i.toNatClampNeg v, X.2.2.2.2.1, X.2.2.2.2.2)
def xwQ (X : xS) (a : Nat) (i : Int32) (v : Option Nat) : xS := (X.1, X.2.1, X.2.2.1, X.2.2.2.1, up2 X.2.2.2.2.1 a i.toNatClampNeg v, X.2.2.2.2.2)
theorem xS_ext {X Y : xS} (h1 : ∀ a j, X.1 a j = Y.1 a j) (h2 : ∀ a j, X.2.1 a j = Y.2.1 a j) (h3 : ∀ a j, X.2.2.1 a j = Y.2.2.1 a j) (h4 : ∀ a j, X.2.2.2.1 a j = Y.2.2.2.1 a j) (h5 : ∀ a j, X.2.2.2.2.1 a j = Y.2.2.2.2.1 a j) (h6 : ∀ a, X.2.2.2.2.2 a = Y.2.2.2.2.2 a) : X = Y := by
  obtain ⟨x1, x2, x3, x4, x5, x6⟩ := X
  obtain ⟨y1, y2, y3, y4, y5, y6⟩ := Y
  have e1 : x1 = y1 := funext fun a => funext fun j => h1 a j
  have e2 : x2 = y2 := funext fun a => funext fun j => h2 a j
  have e3 : x3 = y3 := funext fun a => funext fun j => h3 a j
  have e4 : x4 = y4 := funext fun a => funext fun j => h4 a j
  have e5 : x5 = y5 := funext fun a => funext fun j => h5 a j
  have e6 : x6 = y6 := funext fun a => h6 a
  rw [e1, e2, e3, e4, e5, e6]
theorem set_at {l : List Value} {j k : Nat} {w v : Value} (hw : l[j]? = some w) : (l.set j v)[k]? = if k = j then some v else l[k]? := by
  have hj : j < l.length := by
    rcases Nat.lt_or_ge j l.length with h | h
    · exact h
    · rw [List.getElem?_eq_none h] at hw; cases hw
  rw [List.getElem?_set]
  by_cases q : k = j
  · rw [if_pos q, if_pos q.symm, if_pos hj]
  · rw [if_neg q, if_neg (fun z => q z.symm)]
section VW
variable {f f1 : Nat → va_E} {a c j : Nat} {l : List Value}
theorem view_I {w v : Int32} (h : f a = .inr (c, l)) (hw : l[j]? = some (.int w)) (e : f1 = va_up f a (.inr (c, l.set j (.int v)))) : view f1 = xwI (view f) a j v := by
  subst e
  apply xS_ext
  all_goals intro b
  all_goals by_cases q : b = a
  all_goals try intro k
  all_goals simp only [view, xwI, up2]
  all_goals first
    | (subst q; simp only [va_up_self, eI, eJ, eR, eA, eQ, eC, h, set_at hw]; by_cases z : k = j <;> simp [z, hw])
    | (subst q; simp only [va_up_self, eI, eJ, eR, eA, eQ, eC, h])
    | (rw [va_up_ne _ _ q]; simp [q])
    | (rw [va_up_ne _ _ q])
theorem view_J {w v : Int64} (h : f a = .inr (c, l)) (hw : l[j]? = some (.long w)) (e : f1 = va_up f a (.inr (c, l.set j (.long v)))) : view f1 = xwJ (view f) a j v := by
  subst e
  apply xS_ext
  all_goals intro b
  all_goals by_cases q : b = a
  all_goals try intro k
  all_goals simp only [view, xwJ, up2]
  all_goals first
    | (subst q; simp only [va_up_self, eI, eJ, eR, eA, eQ, eC, h, set_at hw]; by_cases z : k = j <;> simp [z, hw])
    | (subst q; simp only [va_up_self, eI, eJ, eR, eA, eQ, eC, h])
    | (rw [va_up_ne _ _ q]; simp [q])
    | (rw [va_up_ne _ _ q])
theorem view_R {w v : Option Nat} (h : f a = .inr (c, l)) (hw : l[j]? = some (va_rf w)) (e : f1 = va_up f a (.inr (c, l.set j (va_rf v)))) : view f1 = xwR (view f) a j v := by
  subst e
  apply xS_ext
  all_goals intro b
  all_goals by_cases q : b = a
  all_goals try intro k
  all_goals simp only [view, xwR, up2]
  all_goals first
    | (subst q; simp only [va_up_self, eI, eJ, eR, eA, eQ, eC, h, set_at hw]; by_cases z : k = j <;> cases v <;> cases w <;> simp [z, hw, va_rf])
    | (subst q; simp only [va_up_self, eI, eJ, eR, eA, eQ, eC, h])
    | (rw [va_up_ne _ _ q]; simp [q])
    | (rw [va_up_ne _ _ q])
theorem view_A {cA : ClassId} {n : Nat} {g : Nat → Int32} {i v : Int32} (h : f a = .inl (cA, n, .inl g)) (e : f1 = va_up f a (.inl (cA, n, .inl (upd g i.toNatClampNeg v)))) : view f1 = xwA (view f) a i v := by
  subst e
  apply xS_ext
  all_goals intro b
  all_goals by_cases q : b = a
  all_goals try intro k
  all_goals simp only [view, xwA, up2]
  all_goals first
    | (subst q; simp only [va_up_self, eI, eJ, eR, eA, eQ, eC, h, upd, true_and])
    | (rw [va_up_ne _ _ q]; simp [q])
    | (rw [va_up_ne _ _ q])
theorem view_Q {cA : ClassId} {n : Nat} {g : Nat → Option Nat} {i : Int32} {v : Option Nat} (h : f a = .inl (cA, n, rfs g)) (e : f1 = va_up f a (.inl (cA, n, rfs (va_up g i.toNatClampNeg v)))) : view f1 = xwQ (view f) a i v := by
  subst e
  apply xS_ext
  all_goals intro b
  all_goals by_cases q : b = a
  all_goals try intro k
  all_goals simp only [view, xwQ, up2]
  all_goals first
    | (subst q; simp only [va_up_self, eI, eJ, eR, eA, eQ, eC, h, rfs, true_and]; by_cases z : k = i.toNatClampNeg <;> simp [z, va_up])
    | (subst q; simp only [va_up_self, eI, eJ, eR, eA, eQ, eC, h, rfs])
    | (rw [va_up_ne _ _ q]; simp [q])
    | (rw [va_up_ne _ _ q])
end VW
-- reading
section VG
variable {f : Nat → va_E} {a c j : Nat} {l : List Value}
theorem view_gI {v : Int32} (h : f a = .inr (c, l)) (hw : l[j]? = some (.int v)) : v = xI (view f) a j := by simp [xI, view, eI, h, hw]
theorem view_gJ {v : Int64} (h : f a = .inr (c, l)) (hw : l[j]? = some (.long v)) : v = xJ (view f) a j := by simp [xJ, view, eJ, h, hw]
theorem view_gR {v : Nat} (h : f a = .inr (c, l)) (hw : l[j]? = some (.ref v)) : v = (xR (view f) a j).getD 0 := by simp [xR, view, eR, h, hw]
theorem view_gO {v : Option Nat} (h : f a = .inr (c, l)) (hw : l[j]? = some (va_rf v)) : v = xR (view f) a j := by cases v <;> simp [xR, view, eR, h, hw, va_rf]
theorem view_gA {cA : ClassId} {n : Nat} {g : Nat → Int32} {i : Int32} (h : f a = .inl (cA, n, .inl g)) : g i.toNatClampNeg = xA (view f) a i := by simp [xA, view, eA, h]
theorem view_gQ {cA : ClassId} {n : Nat} {g : Nat → Option Nat} {i : Int32} (h : f a = .inl (cA, n, rfs g)) : g i.toNatClampNeg = xQ (view f) a i := by simp [xQ, view, eQ, h, rfs]
theorem view_gQs {cA : ClassId} {n y : Nat} {g : Nat → Option Nat} {i : Int32} (h : f a = .inl (cA, n, rfs g)) (e : g i.toNatClampNeg = some y) : y = (xQ (view f) a i).getD 0 := by rw [← view_gQ h, e]; rfl
theorem view_c (h : f a = .inr (c, l)) : xC (view f) a = c := by simp [xC, view, eC, h]
theorem view_cn {d : Nat} (h : f a = .inr (c, l)) (hd : c ≠ d) : ¬ xC (view f) a = d := by rw [view_c h]; exact hd
theorem view_l {cA : ClassId} {n : Nat} {g : (Nat → Int32) ⊕ (Nat → Int64) ⊕ (Nat → UInt32) ⊕ (Nat → UInt64) ⊕ (Nat → Option Nat)} (h : f a = .inl (cA, n, g)) : xC (view f) a = n := by simp [xC, view, eC, h]
end VG
def gO {β : Type} (o : Option Nat) (n : β) (s : Nat → β) : β := match o with
  | none => n
  | some y => s y
theorem gO_e {β : Type} {a n : β} {s : Nat → β} {v r : Option Nat} (h : a = gO v n s) (e : r = v) : a = gO r n s := by rw [e]; exact h
theorem gO_n {β : Type} {a n : β} {s : Nat → β} (h : a = gO none n s) : a = n := h
theorem gO_s {β : Type} {a n : β} {s : Nat → β} {y : Nat} (h : a = gO (some y) n s) : a = s y := h
-- reading behind writing
section RW
variable (X : xS) (a b j k : Nat) (i q : Int32)
theorem xI_I (v : Int32) : xI (xwI X a j v) b k = if b = a ∧ k = j then v else xI X b k := rfl
theorem xI_J (v : Int64) : xI (xwJ X a j v) b k = xI X b k := rfl
theorem xI_R (v : Option Nat) : xI (xwR X a j v) b k = xI X b k := rfl
theorem xI_A (v : Int32) : xI (xwA X a i v) b k = xI X b k := rfl
theorem xI_Q (v : Option Nat) : xI (xwQ X a i v) b k = xI X b k := rfl
theorem xJ_I (v : Int32) : xJ (xwI X a j v) b k = xJ X b k := rfl
theorem xJ_J (v : Int64) : xJ (xwJ X a j v) b k = if b = a ∧ k = j then v else xJ X b k := rfl
theorem xJ_R (v : Option Nat) : xJ (xwR X a j v) b k = xJ X b k := rfl
theorem xJ_A (v : Int32) : xJ (xwA X a i v) b k = xJ X b k := rfl
theorem xJ_Q (v : Option Nat) : xJ (xwQ X a i v) b k = xJ X b k := rfl
theorem xR_I (v : Int32) : xR (xwI X a j v) b k = xR X b k := rfl
theorem xR_J (v : Int64) : xR (xwJ X a j v) b k = xR X b k := rfl
theorem xR_R (v : Option Nat) : xR (xwR X a j v) b k = if b = a ∧ k = j then v else xR X b k := rfl
theorem xR_A (v : Int32) : xR (xwA X a i v) b k = xR X b k := rfl
theorem xR_Q (v : Option Nat) : xR (xwQ X a i v) b k = xR X b k := rfl
theorem xA_I (v : Int32) : xA (xwI X a j v) b q = xA X b q := rfl
theorem xA_J (v : Int64) : xA (xwJ X a j v) b q = xA X b q := rfl
theorem xA_R (v : Option Nat) : xA (xwR X a j v) b q = xA X b q := rfl
theorem xA_A (v : Int32) : xA (xwA X a i v) b q = if b = a ∧ q.toNatClampNeg = i.toNatClampNeg then v else xA X b q := rfl
theorem xA_Q (v : Option Nat) : xA (xwQ X a i v) b q = xA X b q := rfl
theorem xQ_I (v : Int32) : xQ (xwI X a j v) b q = xQ X b q := rfl
theorem xQ_J (v : Int64) : xQ (xwJ X a j v) b q = xQ X b q := rfl
theorem xQ_R (v : Option Nat) : xQ (xwR X a j v) b q = xQ X b q := rfl
theorem xQ_A (v : Int32) : xQ (xwA X a i v) b q = xQ X b q := rfl
theorem xQ_Q (v : Option Nat) : xQ (xwQ X a i v) b q = if b = a ∧ q.toNatClampNeg = i.toNatClampNeg then v else xQ X b q := rfl
theorem xC_I (v : Int32) : xC (xwI X a j v) b = xC X b := rfl
theorem xC_J (v : Int64) : xC (xwJ X a j v) b = xC X b := rfl
theorem xC_R (v : Option Nat) : xC (xwR X a j v) b = xC X b := rfl
theorem xC_A (v : Int32) : xC (xwA X a i v) b = xC X b := rfl
theorem xC_Q (v : Option Nat) : xC (xwQ X a i v) b = xC X b := rfl
end RW

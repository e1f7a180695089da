/-! a switch and its target (draft: not built yet) -/
def tabT (pc : Nat) (dflt lo hi : Int) (offs : List Int) (x : Int32) : Nat := ((pc : Int) + (if x.toInt < lo then dflt else if hi < x.toInt then dflt else (offs[(x.toInt - lo).toNat]?).getD dflt)).toNat
def lookT (pc : Nat) (dflt : Int) (ps : List (Int × Int)) (x : Int32) : Nat := ((pc : Int) + Op.lookupswitch.offset ps dflt x.toInt).toNat
section TG
variable {p : Program} {l : Launch} {e : Env} {R : Room} {s : State} {m : MethodId} {args : Array Value} {below : List Frame} {meth : Method} {c : Code} {H : Heap} {locs : List Loc} {cells slots : Nat} {Q : State → Prop}
variable {cc : ByteArray} {pc : Nat} {ls : Array Slot} {rest : List Value}
theorem cTabG (hx : p.tables.exec = Jvm.exec) (hb : c.code = cc) {dflt lo hi : Int} {offs : Array Int} {len : Nat} {x : Int32} (ts : List Nat) (hdg : decode cc pc = .ok (.tableswitch dflt lo hi offs, len)) (hsz : (offs.size : Int) = hi - lo + 1) (hm : ∀ o ∈ dflt :: offs.toList, ∃ t ∈ ts, (pc : Int) + o = (t : Int))
    (kk : ∀ t ∈ ts, tabT pc dflt lo hi offs.toList x = t → W p l e R s m args below meth c H locs cells slots Q (F0 m t ls rest)) : W p l e R s m args below meth c H locs cells slots Q (F0 m pc ls (.int x :: rest)) := by
  by_cases h1 : x.toInt < lo
  · obtain ⟨t, ht, e⟩ := hm dflt (List.mem_cons_self)
    exact lv_tableOut hx hb hdg (Or.inl h1) e (kk t ht (by unfold tabT; rw [if_pos h1, e]; exact Int.toNat_natCast t))
  · by_cases h2 : hi < x.toInt
    · obtain ⟨t, ht, e⟩ := hm dflt (List.mem_cons_self)
      exact lv_tableOut hx hb hdg (Or.inr h2) e (kk t ht (by unfold tabT; rw [if_neg h1, if_pos h2, e]; exact Int.toNat_natCast t))
    · have hk : (x.toInt - lo).toNat < offs.size := by omega
      obtain ⟨t, ht, e⟩ := hm (offs[(x.toInt - lo).toNat]) (List.mem_cons_of_mem _ (by simp))
      exact lv_tableIn hx hb hdg h1 h2 (Array.getElem?_eq_getElem hk) e (kk t ht (by
        have q : offs.toList[(x.toInt - lo).toNat]? = some (offs[(x.toInt - lo).toNat]) := by rw [Array.getElem?_toList]; exact Array.getElem?_eq_getElem hk
        unfold tabT; rw [if_neg h1, if_neg h2, q, Option.getD_some, e]; exact Int.toNat_natCast t))
theorem cLookG (hx : p.tables.exec = Jvm.exec) (hb : c.code = cc) {dflt : Int} {ps : Array (Int × Int)} {len : Nat} {x : Int32} (ts : List Nat) (hdg : decode cc pc = .ok (.lookupswitch dflt ps, len)) (hp : (ps.toList.zip (ps.toList.drop 1)).all (fun (a, next) => a.1 < next.1) = true) (hm : ∀ o ∈ dflt :: ps.toList.map (·.2), ∃ t ∈ ts, (pc : Int) + o = (t : Int))
    (kk : ∀ t ∈ ts, lookT pc dflt ps.toList x = t → W p l e R s m args below meth c H locs cells slots Q (F0 m t ls rest)) : W p l e R s m args below meth c H locs cells slots Q (F0 m pc ls (.int x :: rest)) := by
  have key : ∀ (l : List (Int × Int)) (k : Int), Op.lookupswitch.offset l dflt k ∈ dflt :: l.map (·.2) := by
    intro l k
    induction l with
    | nil => exact List.mem_cons_self
    | cons z r ih =>
      obtain ⟨a, o⟩ := z
      show (if a = k then o else Op.lookupswitch.offset r dflt k) ∈ _
      by_cases h : a = k
      · rw [if_pos h]; simp
      · rw [if_neg h]
        rcases List.mem_cons.mp ih with q | q
        · rw [q]; exact List.mem_cons_self
        · exact List.mem_cons_of_mem _ (List.mem_cons_of_mem _ q)
  obtain ⟨t, ht, e⟩ := hm _ (key ps.toList x.toInt)
  exact lv_lookup hx hb hdg hp rfl e (kk t ht (by unfold lookT; rw [e]; exact Int.toNat_natCast t))
end TG

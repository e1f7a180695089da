/-! make: both side by side -/
def nwF (y r a r2 a2 q : Nat) : Nat → Nat := fun j => if j = 2 then y else if j = 3 then r else if j = 4 then a else if j = 5 then r2 else if j = 6 then a2 else q
theorem nwF_inj {y r a r2 a2 q : Nat} (d1 : y ≠ r) (d2 : y ≠ a) (d3 : y ≠ r2) (d4 : y ≠ a2) (d5 : y ≠ q) (d6 : r ≠ a) (d7 : r ≠ r2) (d8 : r ≠ a2) (d9 : r ≠ q) (d10 : a ≠ r2) (d11 : a ≠ a2) (d12 : a ≠ q) (d13 : r2 ≠ a2) (d14 : r2 ≠ q) (d15 : a2 ≠ q) : ∀ k l, 2 ≤ k → k ≤ 7 → 2 ≤ l → l ≤ 7 → nwF y r a r2 a2 q k = nwF y r a r2 a2 q l → k = l := by
  intro k l k1 k2 l1 l2 e
  unfold nwF at e
  rcases (show k = 2 ∨ k = 3 ∨ k = 4 ∨ k = 5 ∨ k = 6 ∨ k = 7 by omega) with rfl | rfl | rfl | rfl | rfl | rfl <;> rcases (show l = 2 ∨ l = 3 ∨ l = 4 ∨ l = 5 ∨ l = 6 ∨ l = 7 by omega) with rfl | rfl | rfl | rfl | rfl | rfl <;> simp at e <;> omega
section MG
variable {ks : kS} {ad : adT} {B : Int32} {S : mS} {τ τ1 : Nat → Nat} {L L1 : List Nat} {f f6 f9 f8 : Nat → va_E} {ψ : Int32} {b K F Dd : Int32} {M : Nat} {nw : Nat → Nat} {X : xS}
theorem mkX_n : mkX (adN ad S b M nw) X b K F Dd = mkX (fun k _ => nw k) X b K F Dd := by
  have e2 := adN_n (ad := ad) (S := S) (b := b) (M := M) (nw := nw) (k := 2) (by decide)
  have e3 := adN_n (ad := ad) (S := S) (b := b) (M := M) (nw := nw) (k := 3) (by decide)
  have e4 := adN_n (ad := ad) (S := S) (b := b) (M := M) (nw := nw) (k := 4) (by decide)
  have e5 := adN_n (ad := ad) (S := S) (b := b) (M := M) (nw := nw) (k := 5) (by decide)
  have e6 := adN_n (ad := ad) (S := S) (b := b) (M := M) (nw := nw) (k := 6) (by decide)
  have e7 := adN_n (ad := ad) (S := S) (b := b) (M := M) (nw := nw) (k := 7) (by decide)
  unfold mkX rOb
  rw [e2, e3, e4, e5, e6, e7]
theorem mk_go (h : Sim ad B S (view f6)) (w : gW τ L f6 τ1 L1 f9) (hL : ∀ k i, lv S k i → ad k i ∈ L) (hb : 0 ≤ b ∧ b < 24) (hk : gA S 28 b = 0) (m9 : mInv (mkS S b K F Dd)) (hob : jOb B K F Dd (-1) 0 ∧ K ≠ 0) (hM : ∀ a, a ∈ L → a < M) (n1 : ∀ k, 2 ≤ k → k ≤ 7 → (nw k ∉ L ∧ nw k < M) ∨ nw k = M + cdA k b) (n2 : ∀ k l, 2 ≤ k → k ≤ 7 → 2 ≤ l → l ≤ 7 → nw k = nw l → k = l) (hx : mkX (fun k _ => nw k) (view f9) b K F Dd) : Sim (adN ad S b M nw) B (mkS S b K F Dd) (xwQ (view f9) (ad 12 0) b (some (nw 2))) := by
  have s := Sim_ch h (adN_inj h.2.2.1 hk hL hM n1 n2) (fun k i l => adN_lv hk l) (ag_gW hL w)
  have r := Sim_mk s hb hk (by rw [mkX_n]; exact hx) hob.2 m9 hob.1
  rw [adN_lv hk (show lv S 12 0 from Or.inr (Or.inl ⟨by decide, rfl⟩)), adN_n (by decide)] at r
  exact r
/-- what isn't an array -/
theorem y_ar {y a r : Nat} {x : Option Nat} {a9 : Nat} {b9 : Int32} {g : Nat → Option Nat} {cA : ClassId} {n : Nat} (e8 : view f8 = xwQ (view f9) a9 b9 x) (hy : xR (view f9) y 2 = some r) (ha : f8 a = .inl (cA, n, rfs g)) : y ≠ a := fun z => by
  have e : xR (view f8) y 2 = some r := by rw [e8]; exact hy
  rw [z] at e
  simp [xR, view, eR, ha, rfs] at e
theorem c_ne {k l : Nat} (h : k ≠ l) : cdA k b ≠ cdA l b := fun z => h (cdA_inj z).1
/-- a plain OBJECT -/
theorem mk_pl {y r : Nat} (h : Sim ad B S (view f6)) (w : gW τ L f6 τ1 L1 f9) (I8 : cI ks τ1 L1 ψ f8) (e8 : view f8 = xwQ (view f9) (ad 12 0) b (some y)) (hL : ∀ k i, lv S k i → ad k i ∈ L) (hb : 0 ≤ b ∧ b < 24) (hk : gA S 28 b = 0) (m9 : mInv (mkS S b K F Dd)) (hob : jOb B K F Dd (-1) 0 ∧ K ≠ 0) (hy : y ∉ L) (hr : nRow L τ1 L1 f9 r) (hry : xR (view f9) y 2 = some r) (hcy : xC (view f9) y ≠ 5) (hK : K ≠ 1 ∧ K ≠ 5)
    (hx : ∀ a, xR (view f9) r 1 = some a → ∀ nw : Nat → Nat, nw 2 = y → nw 3 = r → nw 4 = a → rOb (fun k _ => nw k) (view f9) b K F Dd (-1)) : ∃ ad2 : adT, ad2 8 0 = ad 8 0 ∧ Sim ad2 B (mkS S b K F Dd) (view f8) := by
  obtain ⟨r1, r2, a, a1, a2, r3⟩ := hr
  obtain ⟨M0, hM0⟩ := lM (L ++ L1)
  have hM : ∀ c, c ∈ L → c < M0 + y + 1 := fun c hc => by have := hM0 c (by simp [hc]); omega
  have rM : r < M0 + y + 1 := by have := hM0 r (by simp [r2.1]); omega
  have aM : a < M0 + y + 1 := by have := hM0 a (by simp [a2.1]); omega
  obtain ⟨g, ha, -⟩ := op13 I8 a2
  have ya := y_ar e8 hry ha
  have yr : y ≠ r := fun z => hcy (by rw [z]; simp [xC, view, eC, r3])
  have ra : r ≠ a := fun z => by have p := r2.2; have q := a2.2; rw [z] at p; rw [p] at q; exact absurd q (by decide)
  have xra : xR (view f9) r 1 = some a := by simp [xR, view, eR, r3]
  have xr0 : xI (view f9) r 0 = 0 := by simp [xI, view, eI, r3]
  generalize hMe : M0 + y + 1 = M at *
  have yM : y < M := by omega
  have c56 := c_ne (b := b) (show 5 ≠ 6 by decide)
  have c57 := c_ne (b := b) (show 5 ≠ 7 by decide)
  have c67 := c_ne (b := b) (show 6 ≠ 7 by decide)
  have go := mk_go (M := M) (nw := nwF y r a (M + cdA 5 b) (M + cdA 6 b) (M + cdA 7 b)) h w hL hb hk m9 hob hM (fun k k1 k2 => by
    unfold nwF
    rcases (show k = 2 ∨ k = 3 ∨ k = 4 ∨ k = 5 ∨ k = 6 ∨ k = 7 by omega) with rfl | rfl | rfl | rfl | rfl | rfl
    · exact Or.inl ⟨hy, yM⟩
    · exact Or.inl ⟨r1, rM⟩
    · exact Or.inl ⟨a1, aM⟩
    · exact Or.inr rfl
    · exact Or.inr rfl
    · exact Or.inr rfl) (nwF_inj yr ya (by omega) (by omega) (by omega) ra (by omega) (by omega) (by omega) (by omega) (by omega) (by omega) (by omega) (by omega) (by omega)) ⟨hx a xra _ rfl rfl rfl, xr0, fun z => absurd z hK.1, fun z => absurd z hK.2⟩
  have go2 : Sim (adN ad S b M (nwF y r a (M + cdA 5 b) (M + cdA 6 b) (M + cdA 7 b))) B (mkS S b K F Dd) (view f8) := by rw [e8]; exact go
  exact ⟨adN ad S b M (nwF y r a (M + cdA 5 b) (M + cdA 6 b) (M + cdA 7 b)), adN_lv hk (show lv S 8 0 from Or.inr (Or.inl ⟨by decide, rfl⟩)), go2⟩

/-- a QUEUE -/
theorem mk_qu {y r q : Nat} (h : Sim ad B S (view f6)) (w : gW τ L f6 τ1 L1 f9) (I8 : cI ks τ1 L1 ψ f8) (e8 : view f8 = xwQ (view f9) (ad 12 0) b (some y)) (hL : ∀ k i, lv S k i → ad k i ∈ L) (hb : 0 ≤ b ∧ b < 24) (hk : gA S 28 b = 0) (m9 : mInv (mkS S b 5 F 0)) (hob : jOb B 5 F 0 (-1) 0 ∧ (5 : Int32) ≠ 0) (hy : y ∉ L) (hr : nRow L τ1 L1 f9 r) (hF : 1 ≤ F ∧ F ≤ 100) (hq : q ∉ L) (tq : ty τ1 L1 q (100 + F.toNatClampNeg)) (yq : q ≠ y) (hf : f9 y = .inr (4, [.int b, .int 4, .ref r, .ref q, .int 0, .int 0])) : ∃ ad2 : adT, ad2 8 0 = ad 8 0 ∧ Sim ad2 B (mkS S b 5 F 0) (view f8) := by
  have hry : xR (view f9) y 2 = some r := by simp [xR, view, eR, hf]
  obtain ⟨r1, r2, a, a1, a2, r3⟩ := hr
  obtain ⟨M0, hM0⟩ := lM (L ++ L1)
  have hM : ∀ c, c ∈ L → c < M0 + y + 1 := fun c hc => by have := hM0 c (by simp [hc]); omega
  have rM : r < M0 + y + 1 := by have := hM0 r (by simp [r2.1]); omega
  have aM : a < M0 + y + 1 := by have := hM0 a (by simp [a2.1]); omega
  have qM : q < M0 + y + 1 := by have := hM0 q (by simp [tq.1]); omega
  obtain ⟨g, ha, -⟩ := op13 I8 a2
  have ya := y_ar e8 hry ha
  have yr : y ≠ r := fun z => by rw [z, r3] at hf; simp at hf
  have ra : r ≠ a := fun z => by have p := r2.2; have q := a2.2; rw [z] at p; rw [p] at q; exact absurd q (by decide)
  have rq : r ≠ q := fun z => by have p := r2.2; have q9 := tq.2; rw [z] at p; omega
  have aq : a ≠ q := fun z => by
    have p := a2.2
    have q9 := tq.2
    have c := cq_k hF
    rw [z] at p; omega
  have xra : xR (view f9) r 1 = some a := by simp [xR, view, eR, r3]
  have xr0 : xI (view f9) r 0 = 0 := by simp [xI, view, eI, r3]
  obtain ⟨g9, hq8⟩ := opN I8 tq (cq_k hF)
  have xc8 : xC (view f8) q = F.toNatClampNeg := by simp [xC, view, eC, hq8]
  have xc9 : xC (view f9) q = F.toNatClampNeg := by rw [e8] at xc8; exact xc8
  have nF : nI F.toNatClampNeg = F := (i32n (Int32.le_trans (by decide) hF.1)).symm
  generalize hMe : M0 + y + 1 = M at *
  have yM : y < M := by omega
  have c56 := c_ne (b := b) (show 5 ≠ 6 by decide)
  have go := mk_go (M := M) (nw := nwF y r a (M + cdA 5 b) (M + cdA 6 b) q) h w hL hb hk m9 hob hM (fun k k1 k2 => by
    unfold nwF
    rcases (show k = 2 ∨ k = 3 ∨ k = 4 ∨ k = 5 ∨ k = 6 ∨ k = 7 by omega) with rfl | rfl | rfl | rfl | rfl | rfl
    · exact Or.inl ⟨hy, yM⟩
    · exact Or.inl ⟨r1, rM⟩
    · exact Or.inl ⟨a1, aM⟩
    · exact Or.inr rfl
    · exact Or.inr rfl
    · exact Or.inl ⟨hq, qM⟩) (nwF_inj yr ya (by omega) (by omega) (fun z => yq z.symm) ra (by omega) (by omega) rq (by omega) (by omega) aq (by omega) (by omega) (by omega)) ⟨⟨by show xC (view f9) y = _; simp [xC, view, eC, hf, kC9], by show xI (view f9) y 0 = _; simp [xI, view, eI, hf], by show xI (view f9) y 1 = _; simp [xI, view, eI, hf], hry, xra, fun z => absurd z (by decide), fun z => absurd z (by decide), fun _ => ⟨by show xR (view f9) y 3 = some q; simp [xR, view, eR, hf], by show nI (xC (view f9) q) = F; rw [xc9]; exact nF⟩, fun z => absurd z (by decide), fun z => absurd z (by decide), fun z => absurd z (by decide), fun z => absurd z (by decide)⟩, xr0, fun z => absurd z (by decide), fun _ => ⟨by show xI (view f9) y 5 = 0; simp [xI, view, eI, hf], by show 0 ≤ xI (view f9) y 4; simp [xI, view, eI, hf], by
      show xI (view f9) y 4 < F
      have e : xI (view f9) y 4 = 0 := by simp [xI, view, eI, hf]
      rw [e]; exact Int32.lt_of_lt_of_le (by decide) hF.1⟩⟩
  have go2 : Sim (adN ad S b M (nwF y r a (M + cdA 5 b) (M + cdA 6 b) q)) B (mkS S b 5 F 0) (view f8) := by rw [e8]; exact go
  exact ⟨_, adN_lv hk (show lv S 8 0 from Or.inr (Or.inl ⟨by decide, rfl⟩)), go2⟩
/-- a LOCK -/
theorem mk_lk {y r s : Nat} {M9 : List Nat} (h : Sim ad B S (view f6)) (w : gW τ L f6 τ1 L1 f9) (I8 : cI ks τ1 L1 ψ f8) (e8 : view f8 = xwQ (view f9) (ad 12 0) b (some y)) (hL : ∀ k i, lv S k i → ad k i ∈ L) (hb : 0 ≤ b ∧ b < 24) (hk : gA S 28 b = 0) (m9 : mInv (mkS S b 1 0 Dd)) (hob : jOb B 1 0 Dd (-1) 0 ∧ (1 : Int32) ≠ 0) (hy : y ∉ L) (hr : nRow L τ1 L1 f9 r) (hs : nRow M9 τ1 L1 f9 s) (hLM : ∀ c, c ∈ L → c ∈ M9) (rM9 : r ∈ M9) (aM9 : ∀ a, f9 r = .inr (5, [.int 0, .ref a]) → a ∈ M9) (hf : f9 y = .inr (3, [.int b, .int 0, .ref r, .int (-1), .int Dd, .int 0, .ref s])) : ∃ ad2 : adT, ad2 8 0 = ad 8 0 ∧ Sim ad2 B (mkS S b 1 0 Dd) (view f8) := by
  have hry : xR (view f9) y 2 = some r := by simp [xR, view, eR, hf]
  obtain ⟨r1, r2, a, a1, a2, r3⟩ := hr
  obtain ⟨s1, s2, c, c1, c2, s3⟩ := hs
  obtain ⟨M0, hM0⟩ := lM (L ++ L1)
  have hM : ∀ c, c ∈ L → c < M0 + y + 1 := fun c hc => by have := hM0 c (by simp [hc]); omega
  have rM : r < M0 + y + 1 := by have := hM0 r (by simp [r2.1]); omega
  have aM : a < M0 + y + 1 := by have := hM0 a (by simp [a2.1]); omega
  have sM : s < M0 + y + 1 := by have := hM0 s (by simp [s2.1]); omega
  have cM9 : c < M0 + y + 1 := by have := hM0 c (by simp [c2.1]); omega
  obtain ⟨g, ha, -⟩ := op13 I8 a2
  obtain ⟨g2, hc, -⟩ := op13 I8 c2
  have ya := y_ar e8 hry ha
  have yc := y_ar e8 hry hc
  have yr : y ≠ r := fun z => by rw [z, r3] at hf; simp at hf
  have ys : y ≠ s := fun z => by rw [z, s3] at hf; simp at hf
  have k5 : ∀ p q, ty τ1 L1 p 5 → ty τ1 L1 q 13 → p ≠ q := fun p q u v z => by have p9 := u.2; have q9 := v.2; rw [z] at p9; rw [p9] at q9; exact absurd q9 (by decide)
  have rs : r ≠ s := fun z => s1 (by rw [← z]; exact rM9)
  have ac : a ≠ c := fun z => c1 (by rw [← z]; exact aM9 a r3)
  have xra : xR (view f9) r 1 = some a := by simp [xR, view, eR, r3]
  have xsc : xR (view f9) s 1 = some c := by simp [xR, view, eR, s3]
  have xr0 : xI (view f9) r 0 = 0 := by simp [xI, view, eI, r3]
  have xs0 : xI (view f9) s 0 = 0 := by simp [xI, view, eI, s3]
  generalize hMe : M0 + y + 1 = M at *
  have yM : y < M := by omega
  have go := mk_go (M := M) (nw := nwF y r a s c (M + cdA 7 b)) h w hL hb hk m9 hob hM (fun k k1 k2 => by
    unfold nwF
    rcases (show k = 2 ∨ k = 3 ∨ k = 4 ∨ k = 5 ∨ k = 6 ∨ k = 7 by omega) with rfl | rfl | rfl | rfl | rfl | rfl
    · exact Or.inl ⟨hy, yM⟩
    · exact Or.inl ⟨r1, rM⟩
    · exact Or.inl ⟨a1, aM⟩
    · exact Or.inl ⟨fun z => s1 (hLM _ z), sM⟩
    · exact Or.inl ⟨fun z => c1 (hLM _ z), cM9⟩
    · exact Or.inr rfl) (nwF_inj yr ya ys yc (by omega) (k5 r a r2 a2) rs (k5 r c r2 c2) (by omega) (fun z => k5 s a s2 a2 z.symm) ac (by omega) (k5 s c s2 c2) (by omega) (by omega)) ⟨⟨by show xC (view f9) y = _; simp [xC, view, eC, hf, kC9], by show xI (view f9) y 0 = _; simp [xI, view, eI, hf], by show xI (view f9) y 1 = _; simp [xI, view, eI, hf], hry, xra, fun _ => ⟨by show xI (view f9) y 3 = _; simp [xI, view, eI, hf], by show xI (view f9) y 4 = _; simp [xI, view, eI, hf], by show xI (view f9) y 5 = _; simp [xI, view, eI, hf], by show xR (view f9) y 6 = some s; simp [xR, view, eR, hf], xsc⟩, fun z => absurd z (by decide), fun z => absurd z (by decide), fun z => absurd z (by decide), fun z => absurd z (by decide), fun z => absurd z (by decide), fun z => absurd z (by decide)⟩, xr0, fun _ => xs0, fun z => absurd z (by decide)⟩
  have go2 : Sim (adN ad S b M (nwF y r a s c (M + cdA 7 b))) B (mkS S b 1 0 Dd) (view f8) := by rw [e8]; exact go
  exact ⟨_, adN_lv hk (show lv S 8 0 from Or.inr (Or.inl ⟨by decide, rfl⟩)), go2⟩
end MG

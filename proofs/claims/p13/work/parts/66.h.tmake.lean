/-! make: both side by side, whole -/
section TM
variable {ks : kS} {ad : adT} {B : Int32} {S : mS} {τ τ1 : Nat → Nat} {L L1 : List Nat} {f f6 f9 f8 : Nat → va_E} {ψ : Int32} {b k x : Int32} {y : Nat}
theorem mk_all (h : Sim ad B S (view f6)) (w : gW τ L f6 τ1 L1 f9) (I8 : cI ks τ1 L1 ψ f8) (e8 : view f8 = xwQ (view f9) (ad 12 0) b (some y)) (hL : ∀ k i, lv S k i → ad k i ∈ L) (hb : 0 ≤ b ∧ b < 24) (hk : gA S 28 b = 0) (fp : fitP k x) (m9 : mInv (mkS S b (k + 1) (mkF k x) (mkD k x))) (hob : jOb B (k + 1) (mkF k x) (mkD k x) (-1) 0 ∧ k + 1 ≠ 0) (o : nOb L τ1 L1 f9 y b k x) : ∃ ad2 : adT, ad2 8 0 = ad 8 0 ∧ Sim ad2 B (mkS S b (k + 1) (mkF k x) (mkD k x)) (view f8) := by
  obtain ⟨hy, o⟩ := o
  rcases o with ⟨e, r, s, M9, hf, hr, hs, u1, u2, u3⟩ | ⟨e, r, hf, hr⟩ | ⟨e, q, hq, tq, yq, r, hf, hr⟩ | ⟨e, r, hf, hr⟩ | ⟨e, r, hf, hr⟩ | ⟨e, r, hf, hr⟩ | ⟨e, r, hf, hr⟩
  · subst e
    have eK : (0 : Int32) + 1 = 1 := by decide
    have eF : mkF 0 x = 0 := by unfold mkF; rw [if_pos (Or.inl rfl)]
    have eD : mkD 0 x = x := by unfold mkD; rw [if_pos rfl]
    rw [eK, eF, eD] at m9 hob ⊢
    have ex : (if x = 1 then (1 : Int32) else 0) = x := by
      have z := fp.2.1 rfl
      by_cases c : x = 1
      · rw [if_pos c, c]
      · rw [if_neg c]; clear fp m9 hob hf h; grind
    rw [ex] at hf
    exact mk_lk h w I8 e8 hL hb hk m9 hob hy hr hs u1 u2 u3 hf
  · subst e
    have eK : (1 : Int32) + 1 = 2 := by decide
    have eF : mkF 1 x = x := by unfold mkF; rw [if_neg (by decide)]
    have eD : mkD 1 x = 0 := by unfold mkD; rw [if_neg (by decide)]
    rw [eK, eF, eD] at m9 hob ⊢
    refine mk_pl h w I8 e8 hL hb hk m9 hob hy hr (by simp [xR, view, eR, hf]) (by simp [xC, view, eC, hf]) (by decide) (fun a ha nw e2 e3 e4 => ?_)
    unfold rOb
    dsimp only
    rw [e2, e3, e4]
    exact ⟨by simp [xC, view, eC, hf, kC9], by simp [xI, view, eI, hf], by simp [xI, view, eI, hf], by simp [xR, view, eR, hf], ha, fun z => absurd z (by decide), fun _ => by simp [xI, view, eI, hf], fun z => absurd z (by decide), fun z => absurd z (by decide), fun z => absurd z (by decide), fun z => absurd z (by decide), fun z => absurd z (by decide)⟩
  · subst e
    have eK : (4 : Int32) + 1 = 5 := by decide
    have eF : mkF 4 x = x := by unfold mkF; rw [if_neg (by decide)]
    have eD : mkD 4 x = 0 := by unfold mkD; rw [if_neg (by decide)]
    rw [eK, eF, eD] at m9 hob ⊢
    exact mk_qu h w I8 e8 hL hb hk m9 hob hy hr (fp.2.2.2.2 rfl) hq tq yq hf
  · subst e
    have eK : (5 : Int32) + 1 = 6 := by decide
    have eF : mkF 5 x = x := by unfold mkF; rw [if_neg (by decide)]
    have eD : mkD 5 x = 0 := by unfold mkD; rw [if_neg (by decide)]
    rw [eK, eF, eD] at m9 hob ⊢
    refine mk_pl h w I8 e8 hL hb hk m9 hob hy hr (by simp [xR, view, eR, hf]) (by simp [xC, view, eC, hf]) (by decide) (fun a ha nw e2 e3 e4 => ?_)
    unfold rOb
    dsimp only
    rw [e2, e3, e4]
    exact ⟨by simp [xC, view, eC, hf, kC9], by simp [xI, view, eI, hf], by simp [xI, view, eI, hf], by simp [xR, view, eR, hf], ha, fun z => absurd z (by decide), fun z => absurd z (by decide), fun z => absurd z (by decide), fun _ => by simp [xI, view, eI, hf], fun z => absurd z (by decide), fun _ => by simp [xI, view, eI, hf], fun z => absurd z (by decide)⟩
  · subst e
    have eK : (6 : Int32) + 1 = 7 := by decide
    have eF : mkF 6 x = 0 := by unfold mkF; rw [if_pos (by decide)]
    have eD : mkD 6 x = 0 := by unfold mkD; rw [if_neg (by decide)]
    rw [eK, eF, eD] at m9 hob ⊢
    refine mk_pl h w I8 e8 hL hb hk m9 hob hy hr (by simp [xR, view, eR, hf]) (by simp [xC, view, eC, hf]) (by decide) (fun a ha nw e2 e3 e4 => ?_)
    unfold rOb
    dsimp only
    rw [e2, e3, e4]
    exact ⟨by simp [xC, view, eC, hf, kC9], by simp [xI, view, eI, hf], by simp [xI, view, eI, hf], by simp [xR, view, eR, hf], ha, fun z => absurd z (by decide), fun z => absurd z (by decide), fun z => absurd z (by decide), fun z => absurd z (by decide), fun _ => by simp [xI, view, eI, hf], fun _ => by simp [xI, view, eI, hf], fun z => absurd z (by decide)⟩
  · subst e
    have eK : (7 : Int32) + 1 = 8 := by decide
    have eF : mkF 7 x = 0 := by unfold mkF; rw [if_pos (by decide)]
    have eD : mkD 7 x = 0 := by unfold mkD; rw [if_neg (by decide)]
    rw [eK, eF, eD] at m9 hob ⊢
    refine mk_pl h w I8 e8 hL hb hk m9 hob hy hr (by simp [xR, view, eR, hf]) (by simp [xC, view, eC, hf]) (by decide) (fun a ha nw e2 e3 e4 => ?_)
    unfold rOb
    dsimp only
    rw [e2, e3, e4]
    exact ⟨by simp [xC, view, eC, hf, kC9], by simp [xI, view, eI, hf], by simp [xI, view, eI, hf], by simp [xR, view, eR, hf], ha, fun z => absurd z (by decide), fun z => absurd z (by decide), fun z => absurd z (by decide), fun z => absurd z (by decide), fun z => absurd z (by decide), fun z => absurd z (by decide), fun _ => ⟨by simp [xI, view, eI, hf], by simp [xI, view, eI, hf]⟩⟩
  · have k23 : k = 2 ∨ k = 3 := by
      have z := fp.1
      clear fp m9 hob hf h e8 hr; grind
    rcases k23 with c | c
    · subst c
      have eK : (2 : Int32) + 1 = 3 := by decide
      have eF : mkF 2 x = x := by unfold mkF; rw [if_neg (by decide)]
      have eD : mkD 2 x = 0 := by unfold mkD; rw [if_neg (by decide)]
      rw [eK, eF, eD] at m9 hob ⊢
      refine mk_pl h w I8 e8 hL hb hk m9 hob hy hr (by simp [xR, view, eR, hf]) (by simp [xC, view, eC, hf]) (by decide) (fun a ha nw e2 e3 e4 => ?_)
      unfold rOb
      dsimp only
      rw [e2, e3, e4]
      exact ⟨by simp [xC, view, eC, hf, kC9], by simp [xI, view, eI, hf], by simp [xI, view, eI, hf], by simp [xR, view, eR, hf], ha, fun z => absurd z (by decide), fun _ => by simp [xI, view, eI, hf], fun z => absurd z (by decide), fun z => absurd z (by decide), fun z => absurd z (by decide), fun z => absurd z (by decide), fun z => absurd z (by decide)⟩
    · subst c
      have eK : (3 : Int32) + 1 = 4 := by decide
      have eF : mkF 3 x = x := by unfold mkF; rw [if_neg (by decide)]
      have eD : mkD 3 x = 0 := by unfold mkD; rw [if_neg (by decide)]
      rw [eK, eF, eD] at m9 hob ⊢
      refine mk_pl h w I8 e8 hL hb hk m9 hob hy hr (by simp [xR, view, eR, hf]) (by simp [xC, view, eC, hf]) (by decide) (fun a ha nw e2 e3 e4 => ?_)
      unfold rOb
      dsimp only
      rw [e2, e3, e4]
      exact ⟨by simp [xC, view, eC, hf, kC9], by simp [xI, view, eI, hf], by simp [xI, view, eI, hf], by simp [xR, view, eR, hf], ha, fun z => absurd z (by decide), fun _ => by simp [xI, view, eI, hf], fun z => absurd z (by decide), fun z => absurd z (by decide), fun z => absurd z (by decide), fun z => absurd z (by decide), fun z => absurd z (by decide)⟩
theorem t_make {r9 : Int32} {a9 : Nat} (I : cI ks τ L ψ f) (I8 : cI ks τ1 L1 ψ f8) (t : ty τ L (ad 8 0) 9) (h : Sim ad B S (view f)) (hB : 0 ≤ B) (hz : FC_X12_fits (view f) k x ≠ 0) (r0 : 0 ≤ r9 ∧ r9 < 24) (e6 : (r9, view f6) = FC_X12_leastFree (view f) (ad 8 0)) (w : gW τ L f6 τ1 L1 f9) (o : nOb L τ1 L1 f9 y r9 k x) (ea : xR (view f6) (ad 8 0) 1 = some a9) (e8 : view f8 = xwQ (view f9) a9 r9 (some y)) :
    (G_make S k x).1 = r9 ∧ gI (G_make S k x).2 0 = 0 ∧ ∃ ad2 : adT, ad2 8 0 = ad 8 0 ∧ Sim ad2 B (G_make S k x).2 (view f8) := by
  rcases make_e (k := k) (x := x) h with ⟨-, c, -⟩ | ⟨fp, -, z⟩
  · exact absurd c hz
  · rcases z with ⟨z1, -⟩ | ⟨b, b0, b1, b2, b3, b4⟩
    · have e := e6.trans z1
      have e1 : r9 = -1 := (Prod.mk.inj e).1
      have := r0.1
      rw [e1] at this; exact absurd this (by decide)
    · have e := e6.trans b3
      have e1 : r9 = b := (Prod.mk.inj e).1
      have e2 : view f6 = view f := (Prod.mk.inj e).2
      subst e1
      have pm := p_make S k x h.1 _ _ (pr_eta (G_make S k x))
      have m9 := pm.1
      rw [b4] at m9 ⊢
      have ea2 : a9 = ad 12 0 := by
        rw [e2, h.2.2.2.1.2.1] at ea
        simpa using ea.symm
      rw [ea2] at e8
      exact ⟨rfl, by simp [mkS, gI_sA, gI_sI], mk_all (by rw [e2]; exact h) w I8 e8 (lvL I t h) r0 b2 fp m9 (mk_ob fp hB) o⟩
end TM

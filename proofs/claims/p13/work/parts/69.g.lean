/-! the law: its loop -/
theorem s_gt {j Ls : Nat} (hL : Ls ≤ 3072) (hj : j ≤ 512) (h : 6 * j + 6 ≤ Ls) : ¬ nI Ls - 6 < nI (6 * j) := by
  obtain ⟨k, rfl⟩ : ∃ k, Ls = k + 6 := ⟨Ls - 6, by omega⟩
  have e : nI (k + 6) - 6 = nI k := by
    rw [← nI_plus, show (6 : Int32) = nI 6 by decide, Int32.add_sub_cancel]
  rw [e]
  exact nI_nlt (by omega) (by omega)
theorem s_le {j Ls : Nat} (hL : Ls ≤ 3072) (hj : j ≤ 512) (h : Ls < 6 * j + 6) : nI Ls - 6 < nI (6 * j) := by
  rw [Int32.lt_iff_toInt_lt, Int32.toInt_sub, nI_toInt (by omega), nI_toInt (by omega)]
  have e : (6 : Int32).toInt = 6 := by decide
  rw [e]
  have h6 : ((Ls : Int) - 6).bmod (2 ^ 32) = (Ls : Int) - 6 := by
    rw [Int.bmod_eq_of_le] <;> omega
  rw [h6]
  omega
theorem lI_n {D : va_G} {ks : kS} {cs : ClassId × ClassId × ClassId} {n0 h1 h2 ox om j : Nat} {ad : Nat → Nat} {H : Heap} (h : lI D ks cs n0 h1 h2 ox om ad j H) (hj : j < 512) : lI D ks cs n0 h1 h2 ox om ad (j + 1) H := by
  obtain ⟨τ, L, ψ, f, g, S, aX, X, hs, ha, ht, hu⟩ := h
  exact l_fin X hs (by rw [lB_s j]; exact (lB_0 (lB_b hj)).1) ha ht hu
set_option maxHeartbeats 1000000 in
set_option maxRecDepth 100000 in
theorem lLoop (l : Launch) (hlt : l.stackTraces = false) {p : Program} {e : Env} {s : State} {m : MethodId} {below : List Frame} {meth : Method} {c : Code} {b Ls : Nat} {xs : Nat → Int32} {D : va_G} {ks : kS} {cs : ClassId × ClassId × ClassId} {κ : kC} {h1 h2 ox om : Nat} {ad : Nat → Nat}
    (C : lC p s m c b D ks cs κ) (hr : meth.sig.returnType = ret) (hlk : meth.locks = false) (hX : va_X b Ls xs s s.heap) (hbl : b < s.heap.size) (hn : s.heap.size ≤ h1 ∧ h1 ≤ h2) (hLs : Ls ≤ 3072) :
    ∀ (k j : Nat) (H : Heap) (locs : List Loc) (ls : Array Slot), j ≤ 512 → Ls < 6 * (j + k) + 6 → lI D ks cs s.heap.size h1 h2 ox om ad j H → va_S (l0 s.heap.size) s.heap H locs → lv_has ls 8 (lL b ox om h2 j) →
      W p l e room_1 s m #[Value.ref b] below meth c H locs (50 + 5 * j) (10789 + 116 * j) (lw_Z below #[Value.ref b] s) (F0 m 23 ls []) := by
  obtain ⟨hx, hb, hown, hml, hts, -⟩ := id C
  have hbA : ¬ l0 s.heap.size b := Nat.not_le.mpr hbl
  intro k
  induction k with
  | zero =>
    intro j H locs ls hj hk I hS hl
    refine lv_iload hx hb dL_law_23 (lv_at hl 4 rfl) ?_
    refine lv_aload_n hx hb dL_law_25 rfl (lv_at hl 0 rfl) ?_
    refine va_slen hx hb hX hbl hbA hS dL_law_26 ?_
    refine lv_bipush (v := 6) hx hb dL_law_27 (by decide) ?_
    refine lv_isub hx hb dL_law_29 ?_
    refine lv_icmp_gt (tgt := 586) hx hb dL_law_30 (by decide) (fun _ => ?_) (fun h => absurd (s_le hLs hj (by omega)) h)
    refine lv_iconst (v := 1) hx hb dL_law_586 (by decide) ?_
    refine va_forget (fun q hq => hS.2.2 q hq) ?_
    refine cWd (mc := 601024) (ms := 7293034) ⟨by omega, by omega⟩ ?_
    exact lw_ret hx hb hr hlk dL_law_587
  | succ k ih =>
    intro j H locs ls hj hk I hS hl
    refine lv_iload hx hb dL_law_23 (lv_at hl 4 rfl) ?_
    refine lv_aload_n hx hb dL_law_25 rfl (lv_at hl 0 rfl) ?_
    refine va_slen hx hb hX hbl hbA hS dL_law_26 ?_
    refine lv_bipush (v := 6) hx hb dL_law_27 (by decide) ?_
    refine lv_isub hx hb dL_law_29 ?_
    by_cases hc : 6 * j + 6 ≤ Ls
    · refine lv_icmp_gt (tgt := 586) hx hb dL_law_30 (by decide) (fun h => absurd h (s_gt hLs hj hc)) (fun _ => ?_)
      have next : ∀ (H1 : Heap) (locs1 : List Loc) (ls1 : Array Slot), lI D ks cs s.heap.size h1 h2 ox om ad (j + 1) H1 → va_S (l0 s.heap.size) s.heap H1 locs1 → lv_has ls1 8 (lL b ox om h2 j) → W p l e room_1 s m #[Value.ref b] below meth c H1 locs1 (50 + 5 * (j + 1)) (10789 + 116 * (j + 1)) (lw_Z below #[Value.ref b] s) (F0 m 580 ls1 []) := by
        intro H1 locs1 ls1 I1 hS1 hl1
        refine lv_iinc (v := nI (6 * (j + 1))) (lv' := [(4, .int (nI (6 * (j + 1)))), (0, .ref b), (1, .ref ox), (2, .ref om), (3, .ref h2)]) hx hb dL_law_580 hl1 (k := 4) rfl ?_ (by decide) rfl (fun ls2 hl2 => ?_)
        · show nI (6 * j) + Int32.ofInt 6 = nI (6 * (j + 1))
          rw [show Int32.ofInt 6 = nI 6 by decide, nI_plus]
          rfl
        · refine lv_goto (tgt := 23) hx hb dL_law_583 (by decide) ?_
          exact ih (j + 1) H1 locs1 ls2 (by omega) (by omega) I1 hS1 (lv_sub hl2 [1, 2, 3, 4, 0] rfl)
      refine lv_aload_n hx hb dL_law_33 rfl (lv_at hl 0 rfl) ?_
      refine lv_iload hx hb dL_law_34 (lv_at hl 4 rfl) ?_
      refine va_sld hx hb hX hbl hbA hS (nI_in (by omega) (by omega)) dL_law_36 ?_
      refine lv_bipush (v := 15) hx hb dL_law_37 (by decide) ?_
      refine lv_iand hx hb dL_law_39 ?_
      refine cTabG hx hb [580, 108, 184, 212, 252, 280, 296, 324, 376, 404, 432, 472, 485, 552] dL_law_40 rfl (by decide) ?_
      intro t9 hm _
      rcases List.mem_cons.mp hm with rfl | hm
      · exact cWd (mc := 50 + 5 * (j + 1)) (ms := 10789 + 116 * (j + 1)) ⟨by omega, by omega⟩ (next H locs ls (lI_n I (by omega)) hS hl)
      rcases List.mem_cons.mp hm with rfl | hm
      · exact l_feed l hlt C hX hbl hn hc hLs I hS hl next
      rcases List.mem_cons.mp hm with rfl | hm
      · exact l_end l hlt C hX hbl hn hc hLs I hS hl next
      rcases List.mem_cons.mp hm with rfl | hm
      · exact l_make l hlt C hX hbl hn hc hLs I hS hl next
      rcases List.mem_cons.mp hm with rfl | hm
      · exact l_drop l hlt C hX hbl hn hc hLs I hS hl next
      rcases List.mem_cons.mp hm with rfl | hm
      · exact l_thread l hlt C hX hbl hn hc hLs I hS hl next
      rcases List.mem_cons.mp hm with rfl | hm
      · exact l_step l hlt C hX hbl hn hc hLs I hS hl next
      rcases List.mem_cons.mp hm with rfl | hm
      · exact l_run l hlt C hX hbl hn hc hLs I hS hl next
      rcases List.mem_cons.mp hm with rfl | hm
      · exact l_tick l hlt C hX hbl hn hc hLs I hS hl next
      rcases List.mem_cons.mp hm with rfl | hm
      · exact l_interrupt l hlt C hX hbl hn hc hLs I hS hl next
      rcases List.mem_cons.mp hm with rfl | hm
      · exact l_look l hlt C hX hbl hn hc hLs I hS hl next
      rcases List.mem_cons.mp hm with rfl | hm
      · exact l_dead l hlt C hX hbl hn hc hLs I hS hl next
      rcases List.mem_cons.mp hm with rfl | hm
      · exact l_sync l hlt C hX hbl hn hc hLs I hS hl next
      rcases List.mem_cons.mp hm with rfl | hm
      · exact l_count l hlt C hX hbl hn hc hLs I hS hl next
      exact absurd hm List.not_mem_nil
    · refine lv_icmp_gt (tgt := 586) hx hb dL_law_30 (by decide) (fun _ => ?_) (fun h => absurd (s_le hLs hj (by omega)) h)
      refine lv_iconst (v := 1) hx hb dL_law_586 (by decide) ?_
      refine va_forget (fun q hq => hS.2.2 q hq) ?_
      refine cWd (mc := 601024) (ms := 7293034) ⟨by omega, by omega⟩ ?_
      exact lw_ret hx hb hr hlk dL_law_587

/-! count: both side by side, but for its answer -/
section CT
variable {ad : adT} {B : Int32} {S : mS} {X : xS} {w : Int32}
theorem ct_J : (G_count_J27 S w).2 = sI S 0 0 := by
  rw [G_count_J27, gLt_x]
  by_cases c0 : w = 0
  · rw [if_pos c0]
  · rw [if_neg c0]
    by_cases c1 : w = 1
    · rw [if_pos c1, gLt_x]
    · rw [if_neg c1]
      by_cases c2 : w = 2
      · rw [if_pos c2]
      · rw [if_neg c2]
        by_cases c3 : w = 3
        · rw [if_pos c3]
        · rw [if_neg c3]
          by_cases c4 : w = 4
          · rw [if_pos c4]
          · rw [if_neg c4]
theorem ct_S : ∃ v, (G_count S w).2 = sI S 0 v := by
  rw [G_count, gLt_x]
  by_cases c : G_in S w 0 4 = 0
  · rw [if_pos c, gLt_x]
    by_cases d : G_in S w 10 33 = 0
    · rw [if_pos d, G_refuse, gLt_x, gC_p]; exact ⟨1, rfl⟩
    · rw [if_neg d]; exact ⟨0, ct_J⟩
  · rw [if_neg c]; exact ⟨0, ct_J⟩
theorem sy_X {i : Int32} : (FC_X12_syncAt X (ad 8 0) i).2 = X := by
  unfold FC_X12_syncAt
  simp only [gLt_y, gO]
  repeat' split
  all_goals rfl
theorem ct_X (h : Sim ad B S X) : (FC_X12_count X (ad 8 0) w).2.2 = X := by
  have e := cnt_e h.2.2
  have q := sy_X (ad := ad) (X := X) (i := w - 10)
  have g : ∀ r : Option Nat × xS, r.2 = X → (gC r (fun r28 Xf26 => gO (r28) (((0 : Int32), ((-1) : Int64), Xf26)) (fun y29 => gLt (xI Xf26 y29 1 : Int32) (fun x30 => ((0 : Int32), ((Int32.toInt64 x30) : Int64), Xf26))))).2.2 = X := fun r hr => by
    obtain ⟨r1, r2⟩ := r
    cases r1 with
    | none => exact hr
    | some y => exact hr
  rw [FC_X12_count, e, gC_p]
  have hg := g _ q
  generalize gC (FC_X12_syncAt X (ad 8 0) (w - 10)) (fun r28 Xf26 => gO (r28) (((0 : Int32), ((-1) : Int64), Xf26)) (fun y29 => gLt (xI Xf26 y29 1 : Int32) (fun x30 => ((0 : Int32), ((Int32.toInt64 x30) : Int64), Xf26)))) = z at hg ⊢
  repeat rw [gLt_x]
  repeat' split
  all_goals first | rfl | exact hg
theorem t_count (h : Sim ad B S X) : Sim ad B (G_count S w).2 (FC_X12_count X (ad 8 0) w).2.2 := by
  obtain ⟨v, e⟩ := ct_S (S := S) (w := w)
  rw [ct_X h, e]
  exact s_I h (by decide)
end CT

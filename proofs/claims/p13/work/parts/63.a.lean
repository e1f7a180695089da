/-! both side by side: a step, by the word -/
def pfm (X : xS) (y a u : Nat) : xS := if xC X y = 0 then FC_X1_perform X y a u else (if xC X y = 1 then FC_X2_perform X y a u else (if xC X y = 2 then FC_X3_perform X y a u else (if xC X y = 3 then FC_X4_perform X y a u else (if xC X y = 4 then FC_X5_perform X y a u else FC_X7_perform X y a u))))
def oneT (S8 : mS) (t r14 r17 x19 : Int32) : mS := if (r14 : Int32) = 0 then (gLt (sA S8 14 t (r17) : mS) (fun S86 => G_one_J273 t x19 S86)) else (if (r14 : Int32) = 1 then (gLt (sA S8 14 t (((gA S8 14 t) + r17)) : mS) (fun S85 => G_one_J273 t x19 S85)) else (if (r14 : Int32) = 2 then (G_one_J150 t r17 S8) else (if (r14 : Int32) = 3 then (if ((gA S8 14 t) : Int32) = 0 then (G_one_J150 t r17 S8) else (if (r14 : Int32) = 4 then (if 0 ≤ ((gA S8 14 t) : Int32) then (if (r14 : Int32) = 5 then (if (r17 : Int32) ≤ 0 then (G_one_J198 t r17 x19 S8) else (if ((gA S8 20 t) : Int32) = 0 then (gLt (sA S8 13 t (3) : mS) (fun S83 => gLt (sL S83 23 t (((gJ S83 24) + (Int32.toInt64 r17))) : mS) (fun S84 => S84))) else (G_one_J198 t r17 x19 S8))) else (if (r14 : Int32) = 6 then (gLt (sA S8 13 t (4) : mS) (fun S80 => S80)) else (if (r14 : Int32) = 33 then (gLt (sA S8 14 t ((Int64.toInt32 (gJ S8 24))) : mS) (fun S79 => G_one_J273 t x19 S79)) else (if (r14 : Int32) ≤ 6 then (G_one_J273 t x19 S8) else (gC (G_with S8 t r14 r17) (fun r76 S75 => if (r76 : Int32) = 0 then (S75) else (G_one_J273 t x19 S75))))))) else (G_one_J150 t r17 S8)) else (if (r14 : Int32) = 5 then (if (r17 : Int32) ≤ 0 then (G_one_J198 t r17 x19 S8) else (if ((gA S8 20 t) : Int32) = 0 then (gLt (sA S8 13 t (3) : mS) (fun S68 => gLt (sL S68 23 t (((gJ S68 24) + (Int32.toInt64 r17))) : mS) (fun S69 => S69))) else (G_one_J198 t r17 x19 S8))) else (if (r14 : Int32) = 6 then (gLt (sA S8 13 t (4) : mS) (fun S65 => S65)) else (if (r14 : Int32) = 33 then (gLt (sA S8 14 t ((Int64.toInt32 (gJ S8 24))) : mS) (fun S64 => G_one_J273 t x19 S64)) else (if (r14 : Int32) ≤ 6 then (G_one_J273 t x19 S8) else (gC (G_with S8 t r14 r17) (fun r61 S60 => if (r61 : Int32) = 0 then (S60) else (G_one_J273 t x19 S60))))))))) else (if (r14 : Int32) = 4 then (if 0 ≤ ((gA S8 14 t) : Int32) then (if (r14 : Int32) = 5 then (if (r17 : Int32) ≤ 0 then (G_one_J198 t r17 x19 S8) else (if ((gA S8 20 t) : Int32) = 0 then (gLt (sA S8 13 t (3) : mS) (fun S52 => gLt (sL S52 23 t (((gJ S52 24) + (Int32.toInt64 r17))) : mS) (fun S53 => S53))) else (G_one_J198 t r17 x19 S8))) else (if (r14 : Int32) = 6 then (gLt (sA S8 13 t (4) : mS) (fun S49 => S49)) else (if (r14 : Int32) = 33 then (gLt (sA S8 14 t ((Int64.toInt32 (gJ S8 24))) : mS) (fun S48 => G_one_J273 t x19 S48)) else (if (r14 : Int32) ≤ 6 then (G_one_J273 t x19 S8) else (gC (G_with S8 t r14 r17) (fun r45 S44 => if (r45 : Int32) = 0 then (S44) else (G_one_J273 t x19 S44))))))) else (G_one_J150 t r17 S8)) else (if (r14 : Int32) = 5 then (if (r17 : Int32) ≤ 0 then (G_one_J198 t r17 x19 S8) else (if ((gA S8 20 t) : Int32) = 0 then (gLt (sA S8 13 t (3) : mS) (fun S37 => gLt (sL S37 23 t (((gJ S37 24) + (Int32.toInt64 r17))) : mS) (fun S38 => S38))) else (G_one_J198 t r17 x19 S8))) else (if (r14 : Int32) = 6 then (gLt (sA S8 13 t (4) : mS) (fun S34 => S34)) else (if (r14 : Int32) = 33 then (gLt (sA S8 14 t ((Int64.toInt32 (gJ S8 24))) : mS) (fun S33 => G_one_J273 t x19 S33)) else (if (r14 : Int32) ≤ 6 then (G_one_J273 t x19 S8) else (gC (G_with S8 t r14 r17) (fun r30 S29 => if (r30 : Int32) = 0 then (S29) else (G_one_J273 t x19 S29)))))))))))
theorem isT {S : mS} {b : Int32} (h : 0 ≤ b ∧ b < 24) (hk : gA S 28 b ≠ 0) : G_isThere S b = 1 := by
  rcases (p_isThere S b _ rfl).2 with z | z
  · exact z.1
  · exact absurd ⟨h.1, h.2, hk⟩ z.2
theorem isT0 {S : mS} {b : Int32} (h : ¬ (0 ≤ b ∧ b < 24 ∧ gA S 28 b ≠ 0)) : G_isThere S b = 0 := by
  rcases (p_isThere S b _ rfl).2 with z | z
  · exact absurd z.2 h
  · exact z.1
theorem xcl {ad : adT} {e : Int32} {S : mS} {X : xS} {b : Int32} (h : Rel ad e S X) (hb : 0 ≤ b ∧ b < 24) (hk : gA S 28 b ≠ 0) : xC X (ad 2 b) = kC9 (gA S 28 b) ∧ xI X (ad 2 b) 1 = gA S 28 b - 1 :=
  have z := ((h.2.2.2.2.2.2.2.2.1 b hb.1 hb.2).2 hk).2
  ⟨z.1, z.2.2.1⟩
section OPS
variable {ad : adT} {B : Int32} {S : mS} {X : xS} {b t : Int32}
theorem s_op7 (h : Sim ad B S X) (hB : 1 ≤ B ∧ B ≤ 1000000000) (hf : fre S t) (hb : 0 ≤ b ∧ b < 24) (hk : gA S 28 b = 1) (hq : opM S t = 7) : Sim ad (B + 8) (fin t (gA S 15 t + 1) (G_with S t 7 b)) (pfm X (ad 2 b) (ad 0 t) 8) := by
  have hc := (xcl h.2.2 hb (by rw [hk]; decide)).1
  rw [hk, show kC9 1 = 3 by decide] at hc
  rw [pfm, hc, if_neg (by decide), if_neg (by decide), if_neg (by decide), if_pos (by decide)]
  rw [G_with, isT hb (by rw [hk]; decide), gLt_x, if_neg (by decide), gLt_x, hk, show G_kindOf S 7 = 1 by rw [G_kindOf]; decide, if_pos rfl, if_neg (by decide), pas_eta]
  exact s_l7 h hB hf hb hk
theorem s_op8 (h : Sim ad B S X) (hB : 1 ≤ B ∧ B ≤ 1000000000) (hf : fre S t) (hb : 0 ≤ b ∧ b < 24) (hk : gA S 28 b = 1) (hq : opM S t = 8) : Sim ad (B + 8) (fin t (gA S 15 t + 1) (G_with S t 8 b)) (pfm X (ad 2 b) (ad 0 t) 9) := by
  have hc := (xcl h.2.2 hb (by rw [hk]; decide)).1
  rw [hk, show kC9 1 = 3 by decide] at hc
  rw [pfm, hc, if_neg (by decide), if_neg (by decide), if_neg (by decide), if_pos (by decide)]
  rw [G_with, isT hb (by rw [hk]; decide), gLt_x, if_neg (by decide), gLt_x, hk, show G_kindOf S 8 = 1 by rw [G_kindOf]; decide, if_pos rfl, if_neg (by decide), pas_eta]
  exact s_l8 h hB hf hb hk
theorem s_op9 (h : Sim ad B S X) (hB : 1 ≤ B ∧ B ≤ 1000000000) (hf : fre S t) (hb : 0 ≤ b ∧ b < 24) (hk : gA S 28 b = 1) (hq : opM S t = 9) : Sim ad (B + 8) (fin t (gA S 15 t + 1) (G_with S t 9 b)) (pfm X (ad 2 b) (ad 0 t) 10) := by
  have hc := (xcl h.2.2 hb (by rw [hk]; decide)).1
  rw [hk, show kC9 1 = 3 by decide] at hc
  rw [pfm, hc, if_neg (by decide), if_neg (by decide), if_neg (by decide), if_pos (by decide)]
  rw [G_with, isT hb (by rw [hk]; decide), gLt_x, if_neg (by decide), gLt_x, hk, show G_kindOf S 9 = 1 by rw [G_kindOf]; decide, if_pos rfl, if_neg (by decide), pas_eta]
  exact s_l9 h hB hf hb hk
theorem s_op10 (h : Sim ad B S X) (hB : 1 ≤ B ∧ B ≤ 1000000000) (hf : fre S t) (hb : 0 ≤ b ∧ b < 24) (hk : gA S 28 b = 1) (hq : opM S t = 10) : Sim ad (B + 8) (fin t (gA S 15 t + 1) (G_with S t 10 b)) (pfm X (ad 2 b) (ad 0 t) 11) := by
  have hc := (xcl h.2.2 hb (by rw [hk]; decide)).1
  rw [hk, show kC9 1 = 3 by decide] at hc
  rw [pfm, hc, if_neg (by decide), if_neg (by decide), if_neg (by decide), if_pos (by decide)]
  rw [G_with, isT hb (by rw [hk]; decide), gLt_x, if_neg (by decide), gLt_x, hk, show G_kindOf S 10 = 1 by rw [G_kindOf]; decide, if_pos rfl, if_neg (by decide), pas_eta]
  exact s_l10 h hB hf hb hk
theorem s_op11 (h : Sim ad B S X) (hB : 1 ≤ B ∧ B ≤ 1000000000) (hf : fre S t) (hb : 0 ≤ b ∧ b < 24) (hk : gA S 28 b = 1) (hq : opM S t = 11) : Sim ad (B + 8) (fin t (gA S 15 t + 1) (G_with S t 11 b)) (pfm X (ad 2 b) (ad 0 t) 12) := by
  have hc := (xcl h.2.2 hb (by rw [hk]; decide)).1
  rw [hk, show kC9 1 = 3 by decide] at hc
  rw [pfm, hc, if_neg (by decide), if_neg (by decide), if_neg (by decide), if_pos (by decide)]
  rw [G_with, isT hb (by rw [hk]; decide), gLt_x, if_neg (by decide), gLt_x, hk, show G_kindOf S 11 = 1 by rw [G_kindOf]; decide, if_pos rfl, if_neg (by decide), pas_eta]
  exact s_l11 h hB hf hb hk
theorem s_op12 (h : Sim ad B S X) (hB : 1 ≤ B ∧ B ≤ 1000000000) (hf : fre S t) (hb : 0 ≤ b ∧ b < 24) (hk : gA S 28 b = 1) (hq : opM S t = 12) : Sim ad (B + 8) (fin t (gA S 15 t + 1) (G_with S t 12 b)) (pfm X (ad 2 b) (ad 0 t) 13) := by
  have hc := (xcl h.2.2 hb (by rw [hk]; decide)).1
  rw [hk, show kC9 1 = 3 by decide] at hc
  rw [pfm, hc, if_neg (by decide), if_neg (by decide), if_neg (by decide), if_pos (by decide)]
  rw [G_with, isT hb (by rw [hk]; decide), gLt_x, if_neg (by decide), gLt_x, hk, show G_kindOf S 12 = 1 by rw [G_kindOf]; decide, if_pos rfl, if_neg (by decide), pas_eta]
  exact s_l12 h hB hf hb hk
theorem s_op13 (h : Sim ad B S X) (hB : 1 ≤ B ∧ B ≤ 1000000000) (hf : fre S t) (hb : 0 ≤ b ∧ b < 24) (hk : gA S 28 b = 6) (hq : opM S t = 13) : Sim ad (B + 8) (fin t (gA S 15 t + 1) (G_with S t 13 b)) (pfm X (ad 2 b) (ad 0 t) 14) := by
  have hc := (xcl h.2.2 hb (by rw [hk]; decide)).1
  rw [hk, show kC9 6 = 1 by decide] at hc
  rw [pfm, hc, if_neg (by decide), if_pos (by decide)]
  rw [G_with, isT hb (by rw [hk]; decide), gLt_x, if_neg (by decide), gLt_x, hk, show G_kindOf S 13 = 6 by rw [G_kindOf]; decide, if_pos rfl, if_pos (by decide), if_neg (by decide), pas_eta]
  exact s_mono (s_c13 h hf hb hk) (b8 hB)
theorem s_op14 (h : Sim ad B S X) (hB : 1 ≤ B ∧ B ≤ 1000000000) (hf : fre S t) (hb : 0 ≤ b ∧ b < 24) (hk : gA S 28 b = 6) (hq : opM S t = 14) : Sim ad (B + 8) (fin t (gA S 15 t + 1) (G_with S t 14 b)) (pfm X (ad 2 b) (ad 0 t) 15) := by
  have hc := (xcl h.2.2 hb (by rw [hk]; decide)).1
  rw [hk, show kC9 6 = 1 by decide] at hc
  rw [pfm, hc, if_neg (by decide), if_pos (by decide)]
  rw [G_with, isT hb (by rw [hk]; decide), gLt_x, if_neg (by decide), gLt_x, hk, show G_kindOf S 14 = 6 by rw [G_kindOf]; decide, if_pos rfl, if_pos (by decide), if_neg (by decide), pas_eta]
  exact s_mono (s_c14 h hf hb hk) (b8 hB)
theorem s_op15 (h : Sim ad B S X) (hB : 1 ≤ B ∧ B ≤ 1000000000) (hf : fre S t) (hb : 0 ≤ b ∧ b < 24) (hk : gA S 28 b = 6) (hq : opM S t = 15) : Sim ad (B + 8) (fin t (gA S 15 t + 1) (G_with S t 15 b)) (pfm X (ad 2 b) (ad 0 t) 16) := by
  have hc := (xcl h.2.2 hb (by rw [hk]; decide)).1
  rw [hk, show kC9 6 = 1 by decide] at hc
  rw [pfm, hc, if_neg (by decide), if_pos (by decide)]
  rw [G_with, isT hb (by rw [hk]; decide), gLt_x, if_neg (by decide), gLt_x, hk, show G_kindOf S 15 = 6 by rw [G_kindOf]; decide, if_pos rfl, if_pos (by decide), if_neg (by decide), pas_eta]
  exact s_mono (s_c15 h hf hb hk hq) (b8 hB)
theorem s_op16 (h : Sim ad B S X) (hB : 1 ≤ B ∧ B ≤ 1000000000) (hf : fre S t) (hb : 0 ≤ b ∧ b < 24) (hk : gA S 28 b = 6) (hq : opM S t = 16) : Sim ad (B + 8) (fin t (gA S 15 t + 1) (G_with S t 16 b)) (pfm X (ad 2 b) (ad 0 t) 17) := by
  have hc := (xcl h.2.2 hb (by rw [hk]; decide)).1
  rw [hk, show kC9 6 = 1 by decide] at hc
  rw [pfm, hc, if_neg (by decide), if_pos (by decide)]
  rw [G_with, isT hb (by rw [hk]; decide), gLt_x, if_neg (by decide), gLt_x, hk, show G_kindOf S 16 = 6 by rw [G_kindOf]; decide, if_pos rfl, if_pos (by decide), if_neg (by decide), pas_eta]
  exact s_mono (s_c16 h hf hb hk hq) (b8 hB)
theorem s_op17 (h : Sim ad B S X) (hB : 1 ≤ B ∧ B ≤ 1000000000) (hf : fre S t) (hb : 0 ≤ b ∧ b < 24) (hk : gA S 28 b = 2) (hq : opM S t = 17) : Sim ad (B + 8) (fin t (gA S 15 t + 1) (G_with S t 17 b)) (pfm X (ad 2 b) (ad 0 t) 18) := by
  have hc := (xcl h.2.2 hb (by rw [hk]; decide)).1
  rw [hk, show kC9 2 = 6 by decide] at hc
  rw [pfm, hc, if_neg (by decide), if_neg (by decide), if_neg (by decide), if_neg (by decide), if_neg (by decide)]
  rw [G_with, isT hb (by rw [hk]; decide), gLt_x, if_neg (by decide), gLt_x, hk, show G_kindOf S 17 = 2 by rw [G_kindOf]; decide, if_pos rfl, if_pos (by decide), if_pos (by decide), if_neg (by decide), pas_eta]
  exact s_mono (s_e17 h hf hb hk hq) (b8 hB)
theorem s_op18 (h : Sim ad B S X) (hB : 1 ≤ B ∧ B ≤ 1000000000) (hf : fre S t) (hb : 0 ≤ b ∧ b < 24) (hk : gA S 28 b = 2) (hq : opM S t = 18) : Sim ad (B + 8) (fin t (gA S 15 t + 1) (G_with S t 18 b)) (pfm X (ad 2 b) (ad 0 t) 19) := by
  have hc := (xcl h.2.2 hb (by rw [hk]; decide)).1
  rw [hk, show kC9 2 = 6 by decide] at hc
  rw [pfm, hc, if_neg (by decide), if_neg (by decide), if_neg (by decide), if_neg (by decide), if_neg (by decide)]
  rw [G_with, isT hb (by rw [hk]; decide), gLt_x, if_neg (by decide), gLt_x, hk, show G_kindOf S 18 = 2 by rw [G_kindOf]; decide, if_pos rfl, if_pos (by decide), if_pos (by decide), if_neg (by decide), pas_eta]
  exact s_mono (s_e18 h hf hb hk hq) (b8 hB)
theorem s_op19 (h : Sim ad B S X) (hB : 1 ≤ B ∧ B ≤ 1000000000) (hf : fre S t) (hb : 0 ≤ b ∧ b < 24) (hk : gA S 28 b = 2) (hq : opM S t = 19) : Sim ad (B + 8) (fin t (gA S 15 t + 1) (G_with S t 19 b)) (pfm X (ad 2 b) (ad 0 t) 20) := by
  have hc := (xcl h.2.2 hb (by rw [hk]; decide)).1
  rw [hk, show kC9 2 = 6 by decide] at hc
  rw [pfm, hc, if_neg (by decide), if_neg (by decide), if_neg (by decide), if_neg (by decide), if_neg (by decide)]
  rw [G_with, isT hb (by rw [hk]; decide), gLt_x, if_neg (by decide), gLt_x, hk, show G_kindOf S 19 = 2 by rw [G_kindOf]; decide, if_pos rfl, if_pos (by decide), if_pos (by decide), if_neg (by decide), pas_eta]
  exact s_mono (s_e19 h hf hb hk) (b8 hB)
theorem s_op20 (h : Sim ad B S X) (hB : 1 ≤ B ∧ B ≤ 1000000000) (hf : fre S t) (hb : 0 ≤ b ∧ b < 24) (hk : gA S 28 b = 3) (hq : opM S t = 20) : Sim ad (B + 8) (fin t (gA S 15 t + 1) (G_with S t 20 b)) (pfm X (ad 2 b) (ad 0 t) 21) := by
  have hc := (xcl h.2.2 hb (by rw [hk]; decide)).1
  rw [hk, show kC9 3 = 2 by decide] at hc
  rw [pfm, hc, if_neg (by decide), if_neg (by decide), if_pos (by decide)]
  rw [G_with, isT hb (by rw [hk]; decide), gLt_x, if_neg (by decide), gLt_x, hk, show G_kindOf S 20 = 3 by rw [G_kindOf]; decide, if_pos rfl, if_pos (by decide), if_pos (by decide), if_pos (by decide), if_pos (by decide), if_pos (by decide)]
  exact s_mono (s_w20 h hf hb hk) (b8 hB)
theorem s_op21 (h : Sim ad B S X) (hB : 1 ≤ B ∧ B ≤ 1000000000) (hf : fre S t) (hb : 0 ≤ b ∧ b < 24) (hk : gA S 28 b = 3) (hq : opM S t = 21) : Sim ad (B + 8) (fin t (gA S 15 t + 1) (G_with S t 21 b)) (pfm X (ad 2 b) (ad 0 t) 22) := by
  have hc := (xcl h.2.2 hb (by rw [hk]; decide)).1
  rw [hk, show kC9 3 = 2 by decide] at hc
  rw [pfm, hc, if_neg (by decide), if_neg (by decide), if_pos (by decide)]
  rw [G_with, isT hb (by rw [hk]; decide), gLt_x, if_neg (by decide), gLt_x, hk, show G_kindOf S 21 = 3 by rw [G_kindOf]; decide, if_pos rfl, if_pos (by decide), if_pos (by decide), if_pos (by decide), if_pos (by decide), if_pos (by decide)]
  exact s_mono (s_w21 h hf hb hk) (b8 hB)
theorem s_op22 (h : Sim ad B S X) (hB : 1 ≤ B ∧ B ≤ 1000000000) (hf : fre S t) (hb : 0 ≤ b ∧ b < 24) (hk : gA S 28 b = 4) (hq : opM S t = 22) : Sim ad (B + 8) (fin t (gA S 15 t + 1) (G_with S t 22 b)) (pfm X (ad 2 b) (ad 0 t) 23) := by
  have hc := (xcl h.2.2 hb (by rw [hk]; decide)).1
  rw [hk, show kC9 4 = 2 by decide] at hc
  rw [pfm, hc, if_neg (by decide), if_neg (by decide), if_pos (by decide)]
  rw [G_with, isT hb (by rw [hk]; decide), gLt_x, if_neg (by decide), gLt_x, hk, show G_kindOf S 22 = 4 by rw [G_kindOf]; decide, if_pos rfl, if_pos (by decide), if_pos (by decide), if_pos (by decide), if_pos (by decide), if_pos (by decide)]
  exact s_mono (s_w22 h hf hb hk) (b8 hB)
theorem s_op23 (h : Sim ad B S X) (hB : 1 ≤ B ∧ B ≤ 1000000000) (hf : fre S t) (hb : 0 ≤ b ∧ b < 24) (hk : gA S 28 b = 5) (hq : opM S t = 23) : Sim ad (B + 8) (fin t (gA S 15 t + 1) (G_with S t 23 b)) (pfm X (ad 2 b) (ad 0 t) 24) := by
  have hc := (xcl h.2.2 hb (by rw [hk]; decide)).1
  rw [hk, show kC9 5 = 4 by decide] at hc
  rw [pfm, hc, if_neg (by decide), if_neg (by decide), if_neg (by decide), if_neg (by decide), if_pos (by decide)]
  rw [G_with, isT hb (by rw [hk]; decide), gLt_x, if_neg (by decide), gLt_x, hk, show G_kindOf S 23 = 5 by rw [G_kindOf]; decide, if_pos rfl, if_pos (by decide), if_pos (by decide), if_pos (by decide), if_pos (by decide), if_neg (by decide), if_neg (by decide), pas_eta]
  exact s_mono (s_q23 h hf hb hk hq) (b8 hB)
theorem s_op24 (h : Sim ad B S X) (hB : 1 ≤ B ∧ B ≤ 1000000000) (hf : fre S t) (hb : 0 ≤ b ∧ b < 24) (hk : gA S 28 b = 5) (hq : opM S t = 24) : Sim ad (B + 8) (fin t (gA S 15 t + 1) (G_with S t 24 b)) (pfm X (ad 2 b) (ad 0 t) 25) := by
  have hc := (xcl h.2.2 hb (by rw [hk]; decide)).1
  rw [hk, show kC9 5 = 4 by decide] at hc
  rw [pfm, hc, if_neg (by decide), if_neg (by decide), if_neg (by decide), if_neg (by decide), if_pos (by decide)]
  rw [G_with, isT hb (by rw [hk]; decide), gLt_x, if_neg (by decide), gLt_x, hk, show G_kindOf S 24 = 5 by rw [G_kindOf]; decide, if_pos rfl, if_pos (by decide), if_pos (by decide), if_pos (by decide), if_pos (by decide), if_neg (by decide), if_neg (by decide), pas_eta]
  exact s_mono (s_q24 h hf hb hk hq) (b8 hB)
theorem s_op25 (h : Sim ad B S X) (hB : 1 ≤ B ∧ B ≤ 1000000000) (hf : fre S t) (hb : 0 ≤ b ∧ b < 24) (hk : gA S 28 b = 5) (hq : opM S t = 25) : Sim ad (B + 8) (fin t (gA S 15 t + 1) (G_with S t 25 b)) (pfm X (ad 2 b) (ad 0 t) 26) := by
  have hc := (xcl h.2.2 hb (by rw [hk]; decide)).1
  rw [hk, show kC9 5 = 4 by decide] at hc
  rw [pfm, hc, if_neg (by decide), if_neg (by decide), if_neg (by decide), if_neg (by decide), if_pos (by decide)]
  rw [G_with, isT hb (by rw [hk]; decide), gLt_x, if_neg (by decide), gLt_x, hk, show G_kindOf S 25 = 5 by rw [G_kindOf]; decide, if_pos rfl, if_pos (by decide), if_pos (by decide), if_pos (by decide), if_pos (by decide), if_neg (by decide), if_neg (by decide), pas_eta]
  exact s_mono (s_q25 h hf hb hk) (b8 hB)
theorem s_op26 (h : Sim ad B S X) (hB : 1 ≤ B ∧ B ≤ 1000000000) (hf : fre S t) (hb : 0 ≤ b ∧ b < 24) (hk : gA S 28 b = 5) (hq : opM S t = 26) : Sim ad (B + 8) (fin t (gA S 15 t + 1) (G_with S t 26 b)) (pfm X (ad 2 b) (ad 0 t) 27) := by
  have hc := (xcl h.2.2 hb (by rw [hk]; decide)).1
  rw [hk, show kC9 5 = 4 by decide] at hc
  rw [pfm, hc, if_neg (by decide), if_neg (by decide), if_neg (by decide), if_neg (by decide), if_pos (by decide)]
  rw [G_with, isT hb (by rw [hk]; decide), gLt_x, if_neg (by decide), gLt_x, hk, show G_kindOf S 26 = 5 by rw [G_kindOf]; decide, if_pos rfl, if_pos (by decide), if_pos (by decide), if_pos (by decide), if_pos (by decide), if_neg (by decide), if_neg (by decide), pas_eta]
  exact s_mono (s_q26 h hf hb hk) (b8 hB)
theorem s_op27 (h : Sim ad B S X) (hB : 1 ≤ B ∧ B ≤ 1000000000) (hf : fre S t) (hb : 0 ≤ b ∧ b < 24) (hk : gA S 28 b = 7) (hq : opM S t = 27) : Sim ad (B + 8) (fin t (gA S 15 t + 1) (G_with S t 27 b)) (pfm X (ad 2 b) (ad 0 t) 28) := by
  have hc := (xcl h.2.2 hb (by rw [hk]; decide)).1
  rw [hk, show kC9 7 = 1 by decide] at hc
  rw [pfm, hc, if_neg (by decide), if_pos (by decide)]
  rw [G_with, isT hb (by rw [hk]; decide), gLt_x, if_neg (by decide), gLt_x, hk, show G_kindOf S 27 = 7 by rw [G_kindOf]; decide, if_pos rfl, if_pos (by decide), if_pos (by decide), if_pos (by decide), if_pos (by decide), if_neg (by decide), if_pos (by decide)]
  exact s_mono (s_w27 h hf hb hk) (b8 hB)
theorem s_op28 (h : Sim ad B S X) (hB : 1 ≤ B ∧ B ≤ 1000000000) (hf : fre S t) (hb : 0 ≤ b ∧ b < 24) (hk : gA S 28 b = 7) (hq : opM S t = 28) : Sim ad (B + 8) (fin t (gA S 15 t + 1) (G_with S t 28 b)) (pfm X (ad 2 b) (ad 0 t) 29) := by
  have hc := (xcl h.2.2 hb (by rw [hk]; decide)).1
  rw [hk, show kC9 7 = 1 by decide] at hc
  rw [pfm, hc, if_neg (by decide), if_pos (by decide)]
  rw [G_with, isT hb (by rw [hk]; decide), gLt_x, if_neg (by decide), gLt_x, hk, show G_kindOf S 28 = 7 by rw [G_kindOf]; decide, if_pos rfl, if_pos (by decide), if_pos (by decide), if_pos (by decide), if_pos (by decide), if_neg (by decide), if_pos (by decide)]
  exact s_mono (s_w28 h hf hb hk) (b8 hB)
theorem s_op29 (h : Sim ad B S X) (hB : 1 ≤ B ∧ B ≤ 1000000000) (hf : fre S t) (hb : 0 ≤ b ∧ b < 24) (hk : gA S 28 b = 8) (hq : opM S t = 29) : Sim ad (B + 8) (fin t (gA S 15 t + 1) (G_with S t 29 b)) (pfm X (ad 2 b) (ad 0 t) 30) := by
  have hc := (xcl h.2.2 hb (by rw [hk]; decide)).1
  rw [hk, show kC9 8 = 0 by decide] at hc
  rw [pfm, hc, if_pos (by decide)]
  rw [G_with, isT hb (by rw [hk]; decide), gLt_x, if_neg (by decide), gLt_x, hk, show G_kindOf S 29 = 8 by rw [G_kindOf]; decide, if_pos rfl, if_pos (by decide), if_pos (by decide), if_pos (by decide), if_neg (by decide), pas_eta]
  exact s_g29 h hB hf hb hk hq
theorem s_op30 (h : Sim ad B S X) (hB : 1 ≤ B ∧ B ≤ 1000000000) (hf : fre S t) (hb : 0 ≤ b ∧ b < 24) (hk : gA S 28 b = 8) (hq : opM S t = 30) : Sim ad (B + 8) (fin t (gA S 15 t + 1) (G_with S t 30 b)) (pfm X (ad 2 b) (ad 0 t) 31) := by
  have hc := (xcl h.2.2 hb (by rw [hk]; decide)).1
  rw [hk, show kC9 8 = 0 by decide] at hc
  rw [pfm, hc, if_pos (by decide)]
  rw [G_with, isT hb (by rw [hk]; decide), gLt_x, if_neg (by decide), gLt_x, hk, show G_kindOf S 30 = 8 by rw [G_kindOf]; decide, if_pos rfl, if_pos (by decide), if_pos (by decide), if_pos (by decide), if_neg (by decide), pas_eta]
  exact s_g30 h hB hf hb hk
theorem s_op31 (h : Sim ad B S X) (hB : 1 ≤ B ∧ B ≤ 1000000000) (hf : fre S t) (hb : 0 ≤ b ∧ b < 24) (hk : gA S 28 b = 8) (hq : opM S t = 31) : Sim ad (B + 8) (fin t (gA S 15 t + 1) (G_with S t 31 b)) (pfm X (ad 2 b) (ad 0 t) 32) := by
  have hc := (xcl h.2.2 hb (by rw [hk]; decide)).1
  rw [hk, show kC9 8 = 0 by decide] at hc
  rw [pfm, hc, if_pos (by decide)]
  rw [G_with, isT hb (by rw [hk]; decide), gLt_x, if_neg (by decide), gLt_x, hk, show G_kindOf S 31 = 8 by rw [G_kindOf]; decide, if_pos rfl, if_pos (by decide), if_pos (by decide), if_pos (by decide), if_neg (by decide), pas_eta]
  exact s_g31 h hB hf hb hk hq
theorem s_op32 (h : Sim ad B S X) (hB : 1 ≤ B ∧ B ≤ 1000000000) (hf : fre S t) (hb : 0 ≤ b ∧ b < 24) (hk : gA S 28 b = 8) (hq : opM S t = 32) : Sim ad (B + 8) (fin t (gA S 15 t + 1) (G_with S t 32 b)) (pfm X (ad 2 b) (ad 0 t) 33) := by
  have hc := (xcl h.2.2 hb (by rw [hk]; decide)).1
  rw [hk, show kC9 8 = 0 by decide] at hc
  rw [pfm, hc, if_pos (by decide)]
  rw [G_with, isT hb (by rw [hk]; decide), gLt_x, if_neg (by decide), gLt_x, hk, show G_kindOf S 32 = 8 by rw [G_kindOf]; decide, if_pos rfl, if_pos (by decide), if_pos (by decide), if_pos (by decide), if_neg (by decide), pas_eta]
  exact s_g32 h hB hf hb hk
end OPS

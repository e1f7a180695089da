/-! the law's start: what the Statement gives of the constants (laid by wip/gen_start.py) -/
def nF : List Cond := flatC (Jvm.Cond.and given_1 narrow_1)
theorem pm {big : List Cond} {n : Nat} {f : Nat → Cond} (ps : List Nat) (h : (List.range n).map f = ps.filterMap (fun k => big[k]?)) : ∀ i, i < n → f i ∈ big := fun i hi => by
  have h1 : f i ∈ (List.range n).map f := List.mem_map.mpr ⟨i, List.mem_range.mpr hi, rfl⟩
  rw [h] at h1
  obtain ⟨k, -, hk⟩ := List.mem_filterMap.mp h1
  exact List.mem_of_getElem? hk
def wN : List String := ["LOAD", "ADD", "JUMP", "ZERO", "LESS", "SLEEP", "END", "TIME", "LOCK", "TRY", "UNLOCK", "WAIT", "SIGNAL", "ALL", "GET", "SET", "INC", "CAS", "ACQUIRE", "RELEASE", "DRAIN", "DOWN", "AWAIT", "MEET", "PUT", "TAKE", "OFFER", "POLL", "GIVE", "JOIN", "IN", "OUT", "OWN", "BACK"]
def sK : List Nat := [139, 147, 150, 155, 158, 161, 164, 169, 172, 177, 180, 183, 186, 189, 192, 195, 198, 203, 208, 213, 216, 219, 222, 225, 228, 231, 234, 237, 240, 243, 246, 249, 252, 255, 141, 141, 152, 152, 152, 141, 166, 166, 174, 174, 174, 174, 174, 174, 174, 174, 200, 205, 210, 210, 174, 174, 174, 174, 174, 174, 174, 174, 174, 174, 174, 174, 174, 174]
def sPr : List (Nat × Nat × Int32) := [(0, 0, 108), (0, 1, 111), (0, 2, 97), (0, 3, 100), (1, 0, 97), (1, 1, 100), (1, 2, 100), (2, 0, 106), (2, 1, 117), (2, 2, 109), (2, 3, 112), (3, 0, 122), (3, 1, 101), (3, 2, 114), (3, 3, 111), (4, 0, 108), (4, 1, 101), (4, 2, 115), (4, 3, 115), (5, 0, 115), (5, 1, 108), (5, 2, 101), (5, 3, 101), (5, 4, 112), (6, 0, 101), (6, 1, 110), (6, 2, 100), (7, 0, 116), (7, 1, 105), (7, 2, 109), (7, 3, 101), (8, 0, 108), (8, 1, 111), (8, 2, 99), (8, 3, 107), (9, 0, 116), (9, 1, 114), (9, 2, 121), (10, 0, 117), (10, 1, 110), (10, 2, 108), (10, 3, 111), (10, 4, 99), (10, 5, 107), (11, 0, 119), (11, 1, 97), (11, 2, 105), (11, 3, 116), (12, 0, 115), (12, 1, 105), (12, 2, 103), (12, 3, 110), (12, 4, 97), (12, 5, 108), (13, 0, 97), (13, 1, 108), (13, 2, 108), (14, 0, 103), (14, 1, 101), (14, 2, 116), (15, 0, 115), (15, 1, 101), (15, 2, 116), (16, 0, 105), (16, 1, 110), (16, 2, 99), (17, 0, 99), (17, 1, 97), (17, 2, 115), (18, 0, 97), (18, 1, 99), (18, 2, 113), (18, 3, 117), (18, 4, 105), (18, 5, 114), (18, 6, 101), (19, 0, 114), (19, 1, 101), (19, 2, 108), (19, 3, 101), (19, 4, 97), (19, 5, 115), (19, 6, 101), (20, 0, 100), (20, 1, 114), (20, 2, 97), (20, 3, 105), (20, 4, 110), (21, 0, 100), (21, 1, 111), (21, 2, 119), (21, 3, 110), (22, 0, 97), (22, 1, 119), (22, 2, 97), (22, 3, 105), (22, 4, 116), (23, 0, 109), (23, 1, 101), (23, 2, 101), (23, 3, 116), (24, 0, 112), (24, 1, 117), (24, 2, 116), (25, 0, 116), (25, 1, 97), (25, 2, 107), (25, 3, 101), (26, 0, 111), (26, 1, 102), (26, 2, 102), (26, 3, 101), (26, 4, 114), (27, 0, 112), (27, 1, 111), (27, 2, 108), (27, 3, 108), (28, 0, 103), (28, 1, 105), (28, 2, 118), (28, 3, 101), (29, 0, 106), (29, 1, 111), (29, 2, 105), (29, 3, 110), (30, 0, 105), (30, 1, 110), (31, 0, 111), (31, 1, 117), (31, 2, 116), (32, 0, 111), (32, 1, 119), (32, 2, 110), (33, 0, 98), (33, 1, 97), (33, 2, 99), (33, 3, 107), (34, 0, 110), (35, 0, 110), (36, 0, 107), (37, 0, 107), (38, 0, 107), (39, 0, 110), (42, 0, 111), (43, 0, 111), (44, 0, 111), (45, 0, 111), (46, 0, 111), (47, 0, 111), (48, 0, 111), (49, 0, 111), (50, 0, 111), (50, 1, 110), (51, 0, 111), (51, 1, 110), (51, 2, 110), (52, 0, 111), (52, 1, 112), (53, 0, 111), (53, 1, 112), (54, 0, 111), (55, 0, 111), (56, 0, 111), (57, 0, 111), (58, 0, 111), (59, 0, 111), (60, 0, 111), (61, 0, 111), (62, 0, 111), (63, 0, 111), (64, 0, 111), (65, 0, 111), (66, 0, 111), (67, 0, 111)]
def wS (i : Nat) : Term := .static "TurnKeeper$Word" (wN.getD i "") "LTurnKeeper$Word;"
def tS (j : Nat) : Term := .string "TurnKeeper$Word" (sK.getD j 0)
def tV (j : Nat) : Term := .field (tS j) "java/lang/String" "value" "[B"
def tW : Term := .static "TurnKeeper" "WORDS" "[LTurnKeeper$Word;"
def tM9 : Term := .static "TurnKeeper$1" "$SwitchMap$TurnKeeper$Word" "[I"
set_option maxRecDepth 100000 in
theorem f_ex : ∀ i, i < 34 → Cond.exactly (wS i) "TurnKeeper$Word" ∈ nF := pm (f := fun i => Cond.exactly (wS i) "TurnKeeper$Word") [122, 127, 132, 137, 142, 147, 50, 152, 97, 102, 107, 157, 112, 117, 162, 167, 172, 177, 182, 187, 192, 197, 202, 207, 212, 217, 222, 227, 232, 237, 242, 247, 92, 252] (by decide +kernel)
set_option maxRecDepth 100000 in
theorem f_or : ∀ i, i < 34 → Cond.eq (.field (wS i) "java/lang/Enum" "ordinal" "I") (.int (nI i)) ∈ nF := pm (f := fun i => Cond.eq (.field (wS i) "java/lang/Enum" "ordinal" "I") (.int (nI i))) [123, 128, 133, 138, 143, 148, 51, 153, 98, 103, 108, 158, 113, 118, 163, 168, 173, 178, 183, 188, 193, 198, 203, 208, 213, 218, 223, 228, 233, 238, 243, 248, 93, 253] (by decide +kernel)
set_option maxRecDepth 100000 in
theorem f_ki : ∀ i, i < 34 → Cond.eq (.field (wS i) "TurnKeeper$Word" "kind" "I") (.int (wK.getD i 0)) ∈ nF := pm (f := fun i => Cond.eq (.field (wS i) "TurnKeeper$Word" "kind" "I") (.int (wK.getD i 0))) [126, 131, 136, 141, 146, 151, 54, 156, 101, 106, 111, 161, 116, 121, 166, 171, 176, 181, 186, 191, 196, 201, 206, 211, 216, 221, 226, 231, 236, 241, 246, 251, 96, 256] (by decide +kernel)
set_option maxRecDepth 100000 in
theorem f_tx : ∀ i, i < 34 → Cond.eq (.field (wS i) "TurnKeeper$Word" "text" "Ljava/lang/String;") (tS i) ∈ nF := pm (f := fun i => Cond.eq (.field (wS i) "TurnKeeper$Word" "text" "Ljava/lang/String;") (tS i)) [124, 129, 134, 139, 144, 149, 52, 154, 99, 104, 109, 159, 114, 119, 164, 169, 174, 179, 184, 189, 194, 199, 204, 209, 214, 219, 224, 229, 234, 239, 244, 249, 94, 254] (by decide +kernel)
set_option maxRecDepth 100000 in
theorem f_nu : ∀ i, i < 34 → Cond.eq (.field (wS i) "TurnKeeper$Word" "numbers" "Ljava/lang/String;") (tS (34 + i)) ∈ nF := pm (f := fun i => Cond.eq (.field (wS i) "TurnKeeper$Word" "numbers" "Ljava/lang/String;") (tS (34 + i))) [125, 130, 135, 140, 145, 150, 53, 155, 100, 105, 110, 160, 115, 120, 165, 170, 175, 180, 185, 190, 195, 200, 205, 210, 215, 220, 225, 230, 235, 240, 245, 250, 95, 255] (by decide +kernel)
set_option maxRecDepth 100000 in
theorem f_wd : ∀ i, i < 34 → Cond.eq (.elem tW (.int (Int32.ofNat i))) (wS i) ∈ nF := pm (f := fun i => Cond.eq (.elem tW (.int (Int32.ofNat i))) (wS i)) [11, 12, 13, 14, 15, 16, 17, 18, 19, 20, 21, 22, 23, 24, 25, 26, 27, 28, 29, 30, 31, 32, 33, 34, 35, 36, 37, 38, 39, 40, 41, 42, 43, 44] (by decide +kernel)
set_option maxRecDepth 100000 in
theorem f_sw : ∀ i, i < 34 → Cond.eq (.elem tM9 (.int (Int32.ofNat i))) (.int (swM.getD i 0)) ∈ nF := pm (f := fun i => Cond.eq (.elem tM9 (.int (Int32.ofNat i))) (.int (swM.getD i 0))) [58, 59, 60, 61, 62, 63, 64, 65, 66, 67, 68, 69, 70, 71, 72, 73, 74, 75, 76, 77, 78, 79, 80, 81, 82, 83, 84, 85, 86, 87, 88, 89, 90, 91] (by decide +kernel)
set_option maxRecDepth 100000 in
theorem s_ex : ∀ i, i < 68 → Cond.exactly (tS i) "java/lang/String" ∈ nF := pm (f := fun i => Cond.exactly (tS i) "java/lang/String") [677, 690, 697, 710, 718, 726, 612, 735, 635, 643, 650, 743, 660, 670, 751, 758, 765, 778, 792, 809, 820, 829, 837, 846, 854, 861, 869, 878, 886, 894, 902, 908, 623, 915, 685, 685, 705, 705, 705, 685, 619, 619, 630, 630, 630, 630, 630, 630, 630, 630, 772, 785, 803, 803, 630, 630, 630, 630, 630, 630, 630, 630, 630, 630, 630, 630, 630, 630] (by decide +kernel)
set_option maxRecDepth 100000 in
theorem s_co : ∀ i, i < 68 → Cond.eq (.field (tS i) "java/lang/String" "coder" "B") (.int 0) ∈ nF := pm (f := fun i => Cond.eq (.field (tS i) "java/lang/String" "coder" "B") (.int 0)) [678, 691, 698, 711, 719, 727, 613, 736, 636, 644, 651, 744, 661, 671, 752, 759, 766, 779, 793, 810, 821, 830, 838, 847, 855, 862, 870, 879, 887, 895, 903, 909, 624, 916, 686, 686, 706, 706, 706, 686, 620, 620, 631, 631, 631, 631, 631, 631, 631, 631, 773, 786, 804, 804, 631, 631, 631, 631, 631, 631, 631, 631, 631, 631, 631, 631, 631, 631] (by decide +kernel)
set_option maxRecDepth 100000 in
theorem s_ar : ∀ i, i < 68 → Cond.arrayOf (tV i) .byte ∈ nF := pm (f := fun i => Cond.arrayOf (tV i) .byte) [679, 692, 699, 712, 720, 728, 614, 737, 637, 645, 652, 745, 662, 672, 753, 760, 767, 780, 794, 811, 822, 831, 839, 848, 856, 863, 871, 880, 888, 896, 904, 910, 625, 917, 687, 687, 707, 707, 707, 687, 621, 621, 632, 632, 632, 632, 632, 632, 632, 632, 774, 787, 805, 805, 632, 632, 632, 632, 632, 632, 632, 632, 632, 632, 632, 632, 632, 632] (by decide +kernel)
set_option maxRecDepth 100000 in
theorem s_lnl : ∀ i, i < 68 → Cond.eq (.length (tV i)) (.int (Int32.ofNat (sLn.getD i 0))) ∈ nF := pm (f := fun i => Cond.eq (.length (tV i)) (.int (Int32.ofNat (sLn.getD i 0)))) [680, 693, 700, 713, 721, 729, 615, 738, 638, 646, 653, 746, 663, 673, 754, 761, 768, 781, 795, 812, 823, 832, 840, 849, 857, 864, 872, 881, 889, 897, 905, 911, 626, 918, 688, 688, 708, 708, 708, 688, 622, 622, 633, 633, 633, 633, 633, 633, 633, 633, 775, 788, 806, 806, 633, 633, 633, 633, 633, 633, 633, 633, 633, 633, 633, 633, 633, 633] (by decide +kernel)
set_option maxRecDepth 100000 in
theorem s_el0 : ∀ i, i < 174 → Cond.eq (.elem (tV (sPr.getD i (0, 0, 0)).1) (.int (Int32.ofNat (sPr.getD i (0, 0, 0)).2.1))) (.int (sPr.getD i (0, 0, 0)).2.2) ∈ nF := pm (f := fun i => Cond.eq (.elem (tV (sPr.getD i (0, 0, 0)).1) (.int (Int32.ofNat (sPr.getD i (0, 0, 0)).2.1))) (.int (sPr.getD i (0, 0, 0)).2.2)) [681, 682, 683, 684, 694, 695, 696, 701, 702, 703, 704, 714, 715, 716, 717, 722, 723, 724, 725, 730, 731, 732, 733, 734, 616, 617, 618, 739, 740, 741, 742, 639, 640, 641, 642, 647, 648, 649, 654, 655, 656, 657, 658, 659, 747, 748, 749, 750, 664, 665, 666, 667, 668, 669, 674, 675, 676, 755, 756, 757, 762, 763, 764, 769, 770, 771, 782, 783, 784, 796, 797, 798, 799, 800, 801, 802, 813, 814, 815, 816, 817, 818, 819, 824, 825, 826, 827, 828, 833, 834, 835, 836, 841, 842, 843, 844, 845, 850, 851, 852, 853, 858, 859, 860, 865, 866, 867, 868, 873, 874, 875, 876, 877, 882, 883, 884, 885, 890, 891, 892, 893, 898, 899, 900, 901, 906, 907, 912, 913, 914, 627, 628, 629, 919, 920, 921, 922, 689, 689, 709, 709, 709, 689, 634, 634, 634, 634, 634, 634, 634, 634, 776, 777, 789, 790, 791, 807, 808, 807, 808, 634, 634, 634, 634, 634, 634, 634, 634, 634, 634, 634, 634, 634, 634] (by decide +kernel)
def sOf : List Nat := [0, 4, 7, 11, 15, 19, 24, 27, 31, 35, 38, 44, 48, 54, 57, 60, 63, 66, 69, 76, 83, 88, 92, 97, 101, 104, 108, 113, 117, 121, 125, 127, 130, 133, 137, 138, 139, 140, 141, 142, 143, 143, 143, 144, 145, 146, 147, 148, 149, 150, 151, 153, 156, 158, 160, 161, 162, 163, 164, 165, 166, 167, 168, 169, 170, 171, 172, 173]
theorem s_at : ∀ j, j < 68 → ∀ k, k < sLn.getD j 0 → sOf.getD j 0 + k < 174 ∧ sPr.getD (sOf.getD j 0 + k) (0, 0, 0) = (j, k, (sBy.getD j []).getD k 0) := by decide +kernel
theorem s_el : ∀ j, j < 68 → ∀ k, k < sLn.getD j 0 → Cond.eq (.elem (tV j) (.int (Int32.ofNat k))) (.int ((sBy.getD j []).getD k 0)) ∈ nF := fun j hj k hk => by
  obtain ⟨h1, h2⟩ := s_at j hj k hk
  have h3 := s_el0 _ h1
  rw [h2] at h3
  exact h3
theorem f_wa : Cond.arrayOf tW (.object "TurnKeeper$Word") ∈ nF := List.mem_of_getElem? (i := 8) (by decide +kernel)
theorem f_wl : Cond.eq (.length tW) (.int (Int32.ofNat 34)) ∈ nF := List.mem_of_getElem? (i := 9) (by decide +kernel)
theorem f_sa : Cond.arrayOf tM9 .int ∈ nF := List.mem_of_getElem? (i := 56) (by decide +kernel)
theorem f_sl : Cond.eq (.length tM9) (.int (Int32.ofNat 34)) ∈ nF := List.mem_of_getElem? (i := 57) (by decide +kernel)
theorem f_cs : Cond.eq (.static "java/lang/String" "COMPACT_STRINGS" "Z") (.int 1) ∈ nF := List.mem_of_getElem? (i := 45) (by decide +kernel)
theorem f_si : Cond.isRef (.static "jdk/internal/util/Preconditions" "SIOOBE_FORMATTER" "Ljava/util/function/BiFunction;") ∈ nF := List.mem_of_getElem? (i := 46) (by decide +kernel)
theorem f_us : Cond.isRef (.static Bundle.tN "UNASSIGNED_STACK" Bundle.steD) ∈ nF := List.mem_of_getElem? (i := 4) (by decide +kernel)
theorem f_ss : Cond.isRef (.static Bundle.tN "SUPPRESSED_SENTINEL" Bundle.listD) ∈ nF := List.mem_of_getElem? (i := 5) (by decide +kernel)
set_option maxRecDepth 100000 in
theorem f_no : ∀ i, i < 5 → Cond.not (.castable (nNo.getD i "") "TurnKeeper$Lock") ∈ nF := pm (f := fun i => Cond.not (.castable (nNo.getD i "") "TurnKeeper$Lock")) [268, 267, 269, 266, 265] (by decide +kernel)
set_option maxRecDepth 100000 in
theorem f_nx : ∀ i, i < 6 → Cond.not (.castable (nNx.getD i ("", "")).1 (nNx.getD i ("", "")).2) ∈ nF := pm (f := fun i => Cond.not (.castable (nNx.getD i ("", "")).1 (nNx.getD i ("", "")).2)) [294, 327, 320, 326, 336, 304] (by decide +kernel)
set_option maxRecDepth 100000 in
theorem f_ms : ∀ i, i < 11 → Cond.exactly (.string "TurnKeeper" (nMs.getD i (0, "")).1) "java/lang/String" ∈ nF := pm (f := fun i => Cond.exactly (.string "TurnKeeper" (nMs.getD i (0, "")).1) "java/lang/String") [353, 377, 398, 427, 435, 453, 483, 508, 529, 557, 581] (by decide +kernel)
set_option maxRecDepth 100000 in
theorem t_ms : ∀ i, i < 11 → Cond.stringRef "TurnKeeper" (nMs.getD i (0, "")).1 (nMs.getD i (0, "")).2 ∈ lw_tbl := pm (f := fun i => Cond.stringRef "TurnKeeper" (nMs.getD i (0, "")).1 (nMs.getD i (0, "")).2) [279, 326, 344, 358, 533, 552, 663, 689, 926, 961, 985] (by decide +kernel)
set_option maxRecDepth 100000 in
theorem t_wl : ∀ i, i < 34 → Cond.laysStatic "TurnKeeper$Word" (wN.getD i "") "LTurnKeeper$Word;" ∈ lw_tbl := pm (f := fun i => Cond.laysStatic "TurnKeeper$Word" (wN.getD i "") "LTurnKeeper$Word;") [1401, 1402, 1403, 1404, 1405, 1406, 724, 1407, 845, 856, 860, 1408, 867, 869, 1409, 1410, 1411, 1412, 1413, 1414, 1415, 1416, 1417, 1418, 1419, 1420, 1421, 1422, 1423, 1424, 1425, 1426, 803, 1427] (by decide +kernel)
theorem t_iw : Cond.initialized "TurnKeeper$Word" ∈ lw_tbl := List.mem_of_getElem? (i := 93) (by decide +kernel)
theorem t_it : Cond.initialized "TurnKeeper" ∈ lw_tbl := List.mem_of_getElem? (i := 68) (by decide +kernel)
theorem t_i1 : Cond.initialized "TurnKeeper$1" ∈ lw_tbl := List.mem_of_getElem? (i := 94) (by decide +kernel)
theorem t_is : Cond.initialized "java/lang/String" ∈ lw_tbl := List.mem_of_getElem? (i := 87) (by decide +kernel)
theorem t_ip : Cond.initialized "jdk/internal/util/Preconditions" ∈ lw_tbl := List.mem_of_getElem? (i := 89) (by decide +kernel)
theorem t_ih : Cond.initialized Bundle.tN ∈ lw_tbl := List.mem_of_getElem? (i := 72) (by decide +kernel)
theorem t_lw : Cond.laysStatic "TurnKeeper" "WORDS" "[LTurnKeeper$Word;" ∈ lw_tbl := List.mem_of_getElem? (i := 586) (by decide +kernel)
theorem t_l1 : Cond.laysStatic "TurnKeeper$1" "$SwitchMap$TurnKeeper$Word" "[I" ∈ lw_tbl := List.mem_of_getElem? (i := 734) (by decide +kernel)
theorem t_lcs : Cond.laysStatic "java/lang/String" "COMPACT_STRINGS" "Z" ∈ lw_tbl := List.mem_of_getElem? (i := 600) (by decide +kernel)
theorem t_lp : Cond.laysStatic "jdk/internal/util/Preconditions" "SIOOBE_FORMATTER" "Ljava/util/function/BiFunction;" ∈ lw_tbl := List.mem_of_getElem? (i := 616) (by decide +kernel)
theorem t_lu : Cond.laysStatic Bundle.tN "UNASSIGNED_STACK" Bundle.steD ∈ lw_tbl := List.mem_of_getElem? (i := 263) (by decide +kernel)
theorem t_ls : Cond.laysStatic Bundle.tN "SUPPRESSED_SENTINEL" Bundle.listD ∈ lw_tbl := List.mem_of_getElem? (i := 265) (by decide +kernel)
theorem t_a1 : Cond.arrayOver (.object "TurnKeeper$Strand") ∈ lw_tbl := List.mem_of_getElem? (i := 137) (by decide +kernel)
theorem t_a2 : Cond.arrayOver (.object "TurnKeeper$Sync") ∈ lw_tbl := List.mem_of_getElem? (i := 135) (by decide +kernel)
set_option maxRecDepth 100000 in
theorem t_nw : ∀ w ∈ nwL, w ∈ lw_tbl := fun w hw => by
  have h : nwL = ([585, 722, 1388, 1389, 1390, 1391, 1392, 1393, 1394, 765, 987, 105, 378, 397, 240, 242, 244, 238, 319, 351, 526, 656] : List Nat).filterMap (fun k => lw_tbl[k]?) := by decide +kernel
  rw [h] at hw
  obtain ⟨k, -, hk⟩ := List.mem_filterMap.mp hw
  exact List.mem_of_getElem? hk
theorem getD_mem {α : Type} {l : List α} {d x : α} {n : Nat} (hn : l.length = n) (h : x ∈ l) : ∃ i, i < n ∧ l.getD i d = x := by
  obtain ⟨i, hi, e⟩ := List.getElem_of_mem h
  exact ⟨i, by omega, by rw [List.getD_eq_getElem?_getD, List.getElem?_eq_getElem hi]; exact e⟩
set_option maxHeartbeats 1000000 in
theorem N0_start {args : Array Value} {s : State} (hs : ∀ w ∈ nF, w.before args s = true) (ht : ∀ w ∈ lw_tbl, w.before args s = true) : ∃ κ : kC, N0 κ (l0 s.heap.size) s ∧ ∀ x ∈ nNx, va_Nc x.1 x.2 s := by
  have hA : ∀ a : Nat, a < s.heap.size → ¬ l0 s.heap.size a := fun a h => Nat.not_le.mpr h
  -- the Strings
  have hT : ∀ j : Nat, ∃ q : Nat × Nat, j < 68 → (tS j).eval args s none [] s = some (.ref q.1) ∧ va_O "java/lang/String" q.1 (l0 s.heap.size) s s.heap ∧ va_OF "java/lang/String" "coder" "B" (.int 0) q.1 (l0 s.heap.size) s s.heap ∧ va_OF "java/lang/String" "value" "[B" (.ref q.2) q.1 (l0 s.heap.size) s s.heap ∧ va_T .byte q.2 (sLn.getD j 0) (fun i => .int ((sBy.getD j []).getD i 0)) (l0 s.heap.size) s s.heap := by
    intro j
    by_cases hj : j < 68
    · obtain ⟨a, -, -, -, q1, -⟩ := Cond.exactly_spec (args := args) (first := s) (o := none) (s := s) (idx := []) (t := tS j) (cls := "java/lang/String") (hs _ (s_ex j hj))
      obtain ⟨v, hv, hV⟩ := va_Tof (tm := tV j) (f := fun k => .int ((sBy.getD j []).getD k 0)) (A := l0 s.heap.size) (by have := sLn_le.1 j; omega) (hs _ (s_ar j hj)) (va_eqt (hs _ (s_lnl j hj))) (fun k hk => va_eqt (hs _ (s_el j hj k hk))) hA
      exact ⟨(a, v), fun _ => ⟨q1, va_Oof (hs _ (s_ex j hj)) q1 hA, vk_OFof q1 (va_eqt (hs _ (s_co j hj))) hA, vk_OFof q1 hv hA, hV⟩⟩
    · exact ⟨(0, 0), fun h => absurd h hj⟩
  obtain ⟨ad, had⟩ := Classical.axiomOfChoice hT
  have hW : ∀ i : Nat, ∃ q : Nat, i < 34 → (wS i).eval args s none [] s = some (.ref q) := by
    intro i
    by_cases hi : i < 34
    · obtain ⟨a, -, -, -, q1, -⟩ := Cond.exactly_spec (args := args) (first := s) (o := none) (s := s) (idx := []) (t := wS i) (cls := "TurnKeeper$Word") (hs _ (f_ex i hi))
      exact ⟨a, fun _ => q1⟩
    · exact ⟨0, fun h => absurd h hi⟩
  obtain ⟨aw, haw⟩ := Classical.axiomOfChoice hW
  refine ⟨(aw, fun j => (ad j).1, fun j => (ad j).2), ⟨fun i hi => ?_, fun j hj => ?_, fun i j hi hj e => ?_, ?_, ?_, ?_, ?_, ?_, ?_, ?_, ?_, ⟨vx_Zqof (ht _ t_lu) (ht _ t_ih) (hs _ f_us) hA, vx_Zqof (ht _ t_ls) (ht _ t_ih) (hs _ f_ss) hA⟩, ⟨va_AO.of (ht _ t_a1), va_AO.of (ht _ t_a2)⟩, fun q hq => hq⟩, ?_⟩
  · have e := haw i hi
    exact ⟨va_Oof (hs _ (f_ex i hi)) e hA, vk_OFof e (va_eqt (hs _ (f_or i hi))) hA, vk_OFof e (va_eqt (hs _ (f_ki i hi))) hA, vk_OFof e (va_eqv (hs _ (f_tx i hi)) (had i (by omega)).1) hA, vk_OFof e (va_eqv (hs _ (f_nu i hi)) (had (34 + i) (by omega)).1) hA⟩
  · exact (had j hj).2
  · have a1 := va_eqt (hs _ (f_or i hi))
    have a2 := va_eqt (hs _ (f_or j hj))
    rw [va_fe (haw i hi)] at a1
    rw [va_fe (haw j hj)] at a2
    have e : aw i = aw j := e
    rw [e] at a1
    have a3 : nI i = nI j := Value.int.inj (Option.some.inj (a1.symm.trans a2))
    have a4 := congrArg Int32.toInt a3
    rw [nI_toInt (by omega), nI_toInt (by omega)] at a4
    omega
  · obtain ⟨t, h1, h2⟩ := va_Tof (tm := tW) (ty := .object "TurnKeeper$Word") (N := 34) (f := fun j => .ref (aw j)) (A := l0 s.heap.size) (by decide) (hs _ f_wa) (va_eqt (hs _ f_wl)) (fun j hj => va_eqv (hs _ (f_wd j hj)) (haw j hj)) hA
    exact ⟨t, va_Zref (ht _ t_lw) (ht _ t_it) h1 hA, h2⟩
  · obtain ⟨t, h1, h2⟩ := va_Tof (tm := tM9) (ty := .int) (N := 34) (f := fun j => .int (swM.getD j 0)) (A := l0 s.heap.size) (by decide) (hs _ f_sa) (va_eqt (hs _ f_sl)) (fun j hj => va_eqt (hs _ (f_sw j hj))) hA
    exact ⟨t, va_Zref (ht _ t_l1) (ht _ t_i1) h1 hA, h2⟩
  · intro x hx
    have h : ∀ x ∈ wNx, x.2 < 34 ∧ wN.getD x.2 "" = x.1 := by decide +kernel
    obtain ⟨hi, e⟩ := h x hx
    have h1 := ht _ (t_wl x.2 hi)
    have h2 := haw x.2 hi
    unfold wS at h2
    rw [e] at h1 h2
    exact va_Zref h1 (ht _ t_iw) h2 hA
  · exact va_Zof (ht _ t_lcs) (ht _ t_is) (va_eqi (hs _ f_cs)) hA
  · exact va_Zqof (ht _ t_lp) (ht _ t_ip) (hs _ f_si) hA
  · exact fun w hw => va_Nw.of (nwL_ot w hw) (ht _ (t_nw w hw))
  · intro C hC
    obtain ⟨i, hi, e⟩ := getD_mem (d := "") (n := 5) rfl hC
    have h := hs _ (f_no i hi)
    rw [e] at h
    exact va_Nc.of h
  · intro x hx
    obtain ⟨i, hi, e⟩ := getD_mem (d := (0, "")) (n := 11) rfl hx
    obtain ⟨a, -, -, -, q1, -⟩ := Cond.exactly_spec (args := args) (first := s) (o := none) (s := s) (idx := []) (t := .string "TurnKeeper" (nMs.getD i (0, "")).1) (cls := "java/lang/String") (hs _ (f_ms i hi))
    have h1 := ht _ (t_ms i hi)
    rw [e] at h1 q1
    exact ⟨a, vk_R.of h1 q1⟩
  · intro x hx
    obtain ⟨i, hi, e⟩ := getD_mem (d := ("", "")) (n := 6) rfl hx
    have h := hs _ (f_nx i hi)
    rw [e] at h
    exact va_Nc.of h

set_option maxRecDepth 100000 in
theorem lT_wsX80 : ∀ w ∈ wsX80, w ∈ lw_tbl := fun w h => (goodIn_r wsX80 [173, 175, 177, 179, 181, 183, 185, 187, 189, 191, 193, 195, 197] (by decide +kernel) (by decide +kernel) w h).1
set_option maxRecDepth 100000 in
theorem lT_wsX100 : ∀ w ∈ wsX100, w ∈ lw_tbl := fun w h => (goodIn_r wsX100 [119, 121, 123, 125, 127, 129] (by decide +kernel) (by decide +kernel) w h).1
set_option maxRecDepth 100000 in
theorem lT_wsX120 : ∀ w ∈ wsX120, w ∈ lw_tbl := fun w h => (goodIn_r wsX120 [206, 208, 210, 212, 214, 216] (by decide +kernel) (by decide +kernel) w h).1
set_option maxRecDepth 100000 in
theorem lT_xA42 : ∀ w ∈ xA42, w ∈ lw_tbl := fun w h => (goodIn_r xA42 [72, 258, 267, 273, 276, 278, 259, 260, 101, 102, 261, 266, 274, 294, 248, 295, 250, 296, 252, 262, 264, 254, 290, 291, 293, 254, 281, 282, 283, 284, 284, 285, 286, 287, 287, 288, 289, 290, 280, 237, 245, 246, 247, 249, 251, 253, 257, 256, 255] (by decide +kernel) (by decide +kernel) w h).1

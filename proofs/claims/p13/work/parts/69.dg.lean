set_option maxRecDepth 100000 in
theorem lT_wsX40 : ∀ w ∈ wsX40, w ∈ lw_tbl := fun w h => (goodIn_r wsX40 [432, 434, 436, 424, 426, 428, 430] (by decide +kernel) (by decide +kernel) w h).1
set_option maxRecDepth 100000 in
theorem lT_wsX50 : ∀ w ∈ wsX50, w ∈ lw_tbl := fun w h => (goodIn_r wsX50 [467, 468, 469, 461, 463, 465] (by decide +kernel) (by decide +kernel) w h).1
set_option maxRecDepth 100000 in
theorem lT_wsX60 : ∀ w ∈ wsX60, w ∈ lw_tbl := fun w h => (goodIn_r wsX60 [391, 393] (by decide +kernel) (by decide +kernel) w h).1
set_option maxRecDepth 100000 in
theorem lT_wsX70 : ∀ w ∈ wsX70, w ∈ lw_tbl := fun w h => (goodIn_r wsX70 [448, 449, 450, 446] (by decide +kernel) (by decide +kernel) w h).1

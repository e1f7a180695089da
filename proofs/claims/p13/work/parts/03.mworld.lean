/-! the reference: its words, its world, a row for each field and kind of use (laid by wip/gen_mworld.py) -/
def tM0 : List Cond := [.methodLink RX13 1 objectInit, .instanceMethod objectInit, .code objectInit ⟨#[0xb1]⟩ 1 none, .arrayClass .int, .fieldLink RX13 7 "TurnKeeperModel" "tape" "[I", .fieldLink RX13 13 "TurnKeeperModel" "place" "I", .arrayClass .long, .constantLong RX13 17 (1819238756), .constantLong RX13 19 (6382692), .constantLong RX13 21 (1786080624), .constantLong RX13 23 (2053468783), .constantLong RX13 25 (1818588019), .constantLong RX13 27 (495739823472), .constantLong RX13 29 (6647396), .constantLong RX13 31 (1819239275), .constantLong RX13 33 (7631481), .constantLong RX13 35 (129117126091627), .constantLong RX13 37 (2002872692), .constantLong RX13 39 (126896544047468), .constantLong RX13 41 (6384748), .constantLong RX13 43 (6776180), .constantLong RX13 45 (7562612), .constantLong RX13 47 (6909539), .constantLong RX13 49 (6513011), .constantLong RX13 51 (27412411693232741), .constantLong RX13 53 (32199663576773477), .constantLong RX13 55 (431415716206), .constantLong RX13 57 (1685026670), .constantLong RX13 59 (418614700404), .constantLong RX13 61 (1835361652), .constantLong RX13 63 (7370100), .constantLong RX13 65 (1952541541), .constantLong RX13 67 (478459356530), .constantLong RX13 69 (1886350444), .constantLong RX13 71 (1734964837), .constantLong RX13 73 (1785686382), .constantLong RX13 75 (26990), .constantLong RX13 77 (7304564), .constantLong RX13 79 (7305070), .constantLong RX13 81 (1650549611)]
def tM1 : List Cond := [.constantLong RX13 83 (1953066341), .fieldLink RX13 85 "TurnKeeperModel" "words" "[J", .fieldLink RX13 89 "TurnKeeperModel" "program" "[I", .fieldLink RX13 92 "TurnKeeperModel" "lines" "[I", .fieldLink RX13 95 "TurnKeeperModel" "many" "[I", .fieldLink RX13 98 "TurnKeeperModel" "state" "[I", .fieldLink RX13 101 "TurnKeeperModel" "a" "[I", .fieldLink RX13 104 "TurnKeeperModel" "at" "[I", .fieldLink RX13 107 "TurnKeeperModel" "waitsFor" "[I", .fieldLink RX13 110 "TurnKeeperModel" "why" "[I", .fieldLink RX13 113 "TurnKeeperModel" "kept" "[I", .fieldLink RX13 116 "TurnKeeperModel" "then" "[I", .arrayClass .boolean, .fieldLink RX13 119 "TurnKeeperModel" "stopped" "[Z", .fieldLink RX13 123 "TurnKeeperModel" "inSecond" "[Z", .fieldLink RX13 126 "TurnKeeperModel" "afterWait" "[Z", .fieldLink RX13 129 "TurnKeeperModel" "until" "[J", .fieldLink RX13 132 "TurnKeeperModel" "latest" "I", .fieldLink RX13 135 "TurnKeeperModel" "kind" "[I", .fieldLink RX13 138 "TurnKeeperModel" "first" "[I", .fieldLink RX13 141 "TurnKeeperModel" "second" "[I", .fieldLink RX13 144 "TurnKeeperModel" "owner" "[I", .fieldLink RX13 147 "TurnKeeperModel" "row" "[I", .fieldLink RX13 150 "TurnKeeperModel" "rowLong" "[I", .fieldLink RX13 153 "TurnKeeperModel" "row2" "[I", .fieldLink RX13 156 "TurnKeeperModel" "row2Long" "[I", .fieldLink RX13 159 "TurnKeeperModel" "queue" "[I", .fieldLink RX13 162 "TurnKeeperModel" "queueLong" "[I", .code yX13_init cX13_init 1 none, .code yX13_thrown cX13_thrown 1 (some .int), .fieldLink RX13 165 "TurnKeeperModel" "thrown" "I", .code yX13_refuse cX13_refuse 2 (some .int), .code yX13_in cX13_in 3 (some .boolean), .code yX13_four cX13_four 3 none, .fieldLink RX13 168 "TurnKeeperModel" "taped" "I", .code yX13_feed cX13_feed 6 (some .int), .methodLink RX13 171 yX13_refuse, .instanceMethod yX13_refuse, .selects RX13 yX13_refuse yX13_refuse, .initialized RX13]
def tM2 : List Cond := [.methodLink RX13 175 yX13_four, .instanceMethod yX13_four, .selects RX13 yX13_four yX13_four, .code yX13_end cX13_end 2 (some .int), .methodLink RX13 179 yX13_in, .static yX13_in, .code yX13_byteAt cX13_byteAt 2 (some .int), .fieldLink RX13 183 "TurnKeeperModel" "tapeLong" "I", .code yX13_wrong cX13_wrong 1 (some .int), .fieldLink RX13 186 "TurnKeeperModel" "fault" "I", .fieldLink RX13 189 "TurnKeeperModel" "from" "I", .code yX13_next cX13_next 1 none, .fieldLink RX13 192 "TurnKeeperModel" "to" "I", .methodLink RX13 195 yX13_byteAt, .instanceMethod yX13_byteAt, .selects RX13 yX13_byteAt yX13_byteAt, .code yX13_word cX13_word 4 (some .int), .code yX13_number cX13_number 6 (some .int), .methodLink RX13 198 yX13_wrong, .instanceMethod yX13_wrong, .selects RX13 yX13_wrong yX13_wrong, .methodLink RX13 202 yX13_next, .instanceMethod yX13_next, .selects RX13 yX13_next yX13_next, .fieldLink RX13 208 "TurnKeeperModel" "programLong" "I", .constant RX13 211 (1000000000), .methodLink RX13 205 yX13_word, .instanceMethod yX13_word, .selects RX13 yX13_word yX13_word, .methodLink RX13 212 yX13_number, .instanceMethod yX13_number, .selects RX13 yX13_number yX13_number, .code yX13_line cX13_line 7 none, .methodLink RX13 216 yX13_line, .instanceMethod yX13_line, .selects RX13 yX13_line yX13_line, .code yX13_read cX13_read 1 none, .code yX13_isThere cX13_isThere 2 (some .boolean), .code yX13_make cX13_make 5 (some .int), .code yX13_objects cX13_objects 3 (some .int)]
def tM3 : List Cond := [.code yX13_drop cX13_drop 2 (some .int), .methodLink RX13 219 yX13_isThere, .instanceMethod yX13_isThere, .selects RX13 yX13_isThere yX13_isThere, .methodLink RX13 223 yX13_objects, .instanceMethod yX13_objects, .selects RX13 yX13_objects yX13_objects, .methodLink RX13 226 yX13_read, .instanceMethod yX13_read, .selects RX13 yX13_read yX13_read, .code yX13_thread cX13_thread 3 (some .int), .code yX13_part cX13_part 3 (some .int), .code yX13_waitFor cX13_waitFor 3 none, .code yX13_leaves cX13_leaves 5 none, .code yX13_goesOn cX13_goesOn 2 none, .code yX13_firstGoesOn cX13_firstGoesOn 3 (some .int), .methodLink RX13 229 yX13_leaves, .instanceMethod yX13_leaves, .selects RX13 yX13_leaves yX13_leaves, .methodLink RX13 233 yX13_goesOn, .instanceMethod yX13_goesOn, .selects RX13 yX13_goesOn yX13_goesOn, .code yX13_fails cX13_fails 3 (some .boolean), .code yX13_has cX13_has 3 none, .methodLink RX13 236 yX13_has, .instanceMethod yX13_has, .selects RX13 yX13_has yX13_has, .code yX13_freed cX13_freed 3 none, .methodLink RX13 239 yX13_waitFor, .instanceMethod yX13_waitFor, .selects RX13 yX13_waitFor yX13_waitFor, .methodLink RX13 242 yX13_freed, .instanceMethod yX13_freed, .selects RX13 yX13_freed yX13_freed, .code yX13_signalled cX13_signalled 5 none, .code yX13_rowOf cX13_rowOf 4 (some .int), .code yX13_kindOf cX13_kindOf 1 (some .int), .code yX13_passes cX13_passes 3 (some .boolean), .methodLink RX13 264 yX13_fails, .instanceMethod yX13_fails]
def tM4 : List Cond := [.selects RX13 yX13_fails yX13_fails, .methodLink RX13 289 yX13_signalled, .instanceMethod yX13_signalled, .selects RX13 yX13_signalled yX13_signalled, .code yX13_atLock cX13_atLock 6 (some .boolean), .code yX13_atCell cX13_atCell 5 (some .boolean), .methodLink RX13 252 yX13_part, .instanceMethod yX13_part, .selects RX13 yX13_part yX13_part, .methodLink RX13 286 yX13_passes, .instanceMethod yX13_passes, .selects RX13 yX13_passes yX13_passes, .methodLink RX13 283 yX13_firstGoesOn, .instanceMethod yX13_firstGoesOn, .selects RX13 yX13_firstGoesOn yX13_firstGoesOn, .code yX13_atSemaphore cX13_atSemaphore 5 (some .boolean), .code yX13_opened cX13_opened 2 none, .methodLink RX13 295 yX13_opened, .instanceMethod yX13_opened, .selects RX13 yX13_opened yX13_opened, .code yX13_atGate cX13_atGate 4 (some .boolean), .code yX13_append cX13_append 3 none, .methodLink RX13 292 yX13_append, .instanceMethod yX13_append, .selects RX13 yX13_append yX13_append, .code yX13_atQueue cX13_atQueue 6 (some .boolean), .methodLink RX13 261 yX13_kindOf, .static yX13_kindOf, .methodLink RX13 268 yX13_atLock, .instanceMethod yX13_atLock, .selects RX13 yX13_atLock yX13_atLock, .methodLink RX13 271 yX13_atCell, .instanceMethod yX13_atCell, .selects RX13 yX13_atCell yX13_atCell, .methodLink RX13 274 yX13_atSemaphore, .instanceMethod yX13_atSemaphore, .selects RX13 yX13_atSemaphore yX13_atSemaphore, .methodLink RX13 277 yX13_atGate, .instanceMethod yX13_atGate, .selects RX13 yX13_atGate yX13_atGate]
def tM5 : List Cond := [.methodLink RX13 280 yX13_atQueue, .instanceMethod yX13_atQueue, .selects RX13 yX13_atQueue yX13_atQueue, .code yX13_with cX13_with 6 (some .boolean), .fieldLink RX13 245 "TurnKeeperModel" "steps" "J", .fieldLink RX13 255 "TurnKeeperModel" "clock" "J", .methodLink RX13 249 yX13_rowOf, .instanceMethod yX13_rowOf, .selects RX13 yX13_rowOf yX13_rowOf, .methodLink RX13 258 yX13_with, .instanceMethod yX13_with, .selects RX13 yX13_with yX13_with, .code yX13_one cX13_one 6 none, .methodLink RX13 298 yX13_one, .instanceMethod yX13_one, .selects RX13 yX13_one yX13_one, .code yX13_step cX13_step 2 (some .int), .code yX13_ready cX13_ready 3 (some .int), .fieldLink RX13 301 "TurnKeeperModel" "seed" "I", .constant RX13 307 (1103515245), .methodLink RX13 304 yX13_ready, .instanceMethod yX13_ready, .selects RX13 yX13_ready yX13_ready, .code yX13_run cX13_run 7 (some .int), .code yX13_tick cX13_tick 4 (some .int), .code yX13_interrupt cX13_interrupt 2 (some .int), .code yX13_look cX13_look 3 (some .int), .code yX13_nextOf cX13_nextOf 2 (some .int), .code yX13_dead cX13_dead 4 (some .int), .methodLink RX13 308 yX13_nextOf, .instanceMethod yX13_nextOf, .selects RX13 yX13_nextOf yX13_nextOf, .code yX13_sync cX13_sync 4 (some .long), .constantLong RX13 311 (1099511627776), .code yX13_count cX13_count 2 (some .long)]
def tM : List Cond := tM0 ++ (tM1 ++ (tM2 ++ (tM3 ++ (tM4 ++ (tM5 ++ wsX130)))))
set_option maxRecDepth 100000 in
theorem tM_good : tM.all goodWord = true := by decide +kernel
theorem tM_self : GoodIn tM tM := goodIn_sub (fun _ h => h) tM_good
theorem tM_lay : ∀ w ∈ u_ws RX13 TX13 38, w ∈ tM := fun w h => List.mem_append_right _ (List.mem_append_right _ (List.mem_append_right _ (List.mem_append_right _ (List.mem_append_right _ (List.mem_append_right _ (h))))))
theorem tMf0 : Cond.fieldLink RX13 165 "TurnKeeperModel" "thrown" "I" ∈ tM := List.mem_of_getElem? (i := 70) (by decide +kernel)
theorem tMf1 : Cond.fieldLink RX13 7 "TurnKeeperModel" "tape" "[I" ∈ tM := List.mem_of_getElem? (i := 4) (by decide +kernel)
theorem tMf2 : Cond.fieldLink RX13 168 "TurnKeeperModel" "taped" "I" ∈ tM := List.mem_of_getElem? (i := 74) (by decide +kernel)
theorem tMf3 : Cond.fieldLink RX13 13 "TurnKeeperModel" "place" "I" ∈ tM := List.mem_of_getElem? (i := 5) (by decide +kernel)
theorem tMf4 : Cond.fieldLink RX13 85 "TurnKeeperModel" "words" "[J" ∈ tM := List.mem_of_getElem? (i := 41) (by decide +kernel)
theorem tMf5 : Cond.fieldLink RX13 89 "TurnKeeperModel" "program" "[I" ∈ tM := List.mem_of_getElem? (i := 42) (by decide +kernel)
theorem tMf6 : Cond.fieldLink RX13 208 "TurnKeeperModel" "programLong" "I" ∈ tM := List.mem_of_getElem? (i := 104) (by decide +kernel)
theorem tMf7 : Cond.fieldLink RX13 183 "TurnKeeperModel" "tapeLong" "I" ∈ tM := List.mem_of_getElem? (i := 87) (by decide +kernel)
theorem tMf8 : Cond.fieldLink RX13 189 "TurnKeeperModel" "from" "I" ∈ tM := List.mem_of_getElem? (i := 90) (by decide +kernel)
theorem tMf9 : Cond.fieldLink RX13 192 "TurnKeeperModel" "to" "I" ∈ tM := List.mem_of_getElem? (i := 92) (by decide +kernel)
theorem tMf10 : Cond.fieldLink RX13 186 "TurnKeeperModel" "fault" "I" ∈ tM := List.mem_of_getElem? (i := 89) (by decide +kernel)
theorem tMf11 : Cond.fieldLink RX13 92 "TurnKeeperModel" "lines" "[I" ∈ tM := List.mem_of_getElem? (i := 43) (by decide +kernel)
theorem tMf12 : Cond.fieldLink RX13 95 "TurnKeeperModel" "many" "[I" ∈ tM := List.mem_of_getElem? (i := 44) (by decide +kernel)
theorem tMf13 : Cond.fieldLink RX13 98 "TurnKeeperModel" "state" "[I" ∈ tM := List.mem_of_getElem? (i := 45) (by decide +kernel)
theorem tMf14 : Cond.fieldLink RX13 101 "TurnKeeperModel" "a" "[I" ∈ tM := List.mem_of_getElem? (i := 46) (by decide +kernel)
theorem tMf15 : Cond.fieldLink RX13 104 "TurnKeeperModel" "at" "[I" ∈ tM := List.mem_of_getElem? (i := 47) (by decide +kernel)
theorem tMf16 : Cond.fieldLink RX13 107 "TurnKeeperModel" "waitsFor" "[I" ∈ tM := List.mem_of_getElem? (i := 48) (by decide +kernel)
theorem tMf17 : Cond.fieldLink RX13 110 "TurnKeeperModel" "why" "[I" ∈ tM := List.mem_of_getElem? (i := 49) (by decide +kernel)
theorem tMf18 : Cond.fieldLink RX13 113 "TurnKeeperModel" "kept" "[I" ∈ tM := List.mem_of_getElem? (i := 50) (by decide +kernel)
theorem tMf19 : Cond.fieldLink RX13 116 "TurnKeeperModel" "then" "[I" ∈ tM := List.mem_of_getElem? (i := 51) (by decide +kernel)
theorem tMf20 : Cond.fieldLink RX13 119 "TurnKeeperModel" "stopped" "[Z" ∈ tM := List.mem_of_getElem? (i := 53) (by decide +kernel)
theorem tMf21 : Cond.fieldLink RX13 123 "TurnKeeperModel" "inSecond" "[Z" ∈ tM := List.mem_of_getElem? (i := 54) (by decide +kernel)
theorem tMf22 : Cond.fieldLink RX13 126 "TurnKeeperModel" "afterWait" "[Z" ∈ tM := List.mem_of_getElem? (i := 55) (by decide +kernel)
theorem tMf23 : Cond.fieldLink RX13 129 "TurnKeeperModel" "until" "[J" ∈ tM := List.mem_of_getElem? (i := 56) (by decide +kernel)
theorem tMf24 : Cond.fieldLink RX13 255 "TurnKeeperModel" "clock" "J" ∈ tM := List.mem_of_getElem? (i := 205) (by decide +kernel)
theorem tMf25 : Cond.fieldLink RX13 245 "TurnKeeperModel" "steps" "J" ∈ tM := List.mem_of_getElem? (i := 204) (by decide +kernel)
theorem tMf26 : Cond.fieldLink RX13 132 "TurnKeeperModel" "latest" "I" ∈ tM := List.mem_of_getElem? (i := 57) (by decide +kernel)
theorem tMf27 : Cond.fieldLink RX13 301 "TurnKeeperModel" "seed" "I" ∈ tM := List.mem_of_getElem? (i := 218) (by decide +kernel)
theorem tMf28 : Cond.fieldLink RX13 135 "TurnKeeperModel" "kind" "[I" ∈ tM := List.mem_of_getElem? (i := 58) (by decide +kernel)
theorem tMf29 : Cond.fieldLink RX13 138 "TurnKeeperModel" "first" "[I" ∈ tM := List.mem_of_getElem? (i := 59) (by decide +kernel)
theorem tMf30 : Cond.fieldLink RX13 141 "TurnKeeperModel" "second" "[I" ∈ tM := List.mem_of_getElem? (i := 60) (by decide +kernel)
theorem tMf31 : Cond.fieldLink RX13 144 "TurnKeeperModel" "owner" "[I" ∈ tM := List.mem_of_getElem? (i := 61) (by decide +kernel)
theorem tMf32 : Cond.fieldLink RX13 147 "TurnKeeperModel" "row" "[I" ∈ tM := List.mem_of_getElem? (i := 62) (by decide +kernel)
theorem tMf33 : Cond.fieldLink RX13 150 "TurnKeeperModel" "rowLong" "[I" ∈ tM := List.mem_of_getElem? (i := 63) (by decide +kernel)
theorem tMf34 : Cond.fieldLink RX13 153 "TurnKeeperModel" "row2" "[I" ∈ tM := List.mem_of_getElem? (i := 64) (by decide +kernel)
theorem tMf35 : Cond.fieldLink RX13 156 "TurnKeeperModel" "row2Long" "[I" ∈ tM := List.mem_of_getElem? (i := 65) (by decide +kernel)
theorem tMf36 : Cond.fieldLink RX13 159 "TurnKeeperModel" "queue" "[I" ∈ tM := List.mem_of_getElem? (i := 66) (by decide +kernel)
theorem tMf37 : Cond.fieldLink RX13 162 "TurnKeeperModel" "queueLong" "[I" ∈ tM := List.mem_of_getElem? (i := 67) (by decide +kernel)
theorem gM_v {idx : Nat} {y : MethodName} {cy : Cond} (h1 : Cond.methodLink RX13 idx y ∈ tM) (h2 : Cond.instanceMethod y ∈ tM) (h3 : Cond.selects RX13 y y ∈ tM) (h4 : Cond.initialized RX13 ∈ tM) (h5 : cy ∈ tM) : GoodIn tM (wsV RX13 idx RX13 y (cy :: tM)) := by
  intro w hw
  rcases List.mem_append.mp hw with h | h
  · simp only [List.mem_cons, List.not_mem_nil, or_false] at h
    rcases h with rfl | rfl | rfl | rfl
    · exact tM_self _ h1
    · exact tM_self _ h2
    · exact tM_self _ h3
    · exact tM_self _ h4
  · rcases List.mem_cons.mp h with rfl | h
    · exact tM_self _ h5
    · exact tM_self _ h
theorem gM_s {idx : Nat} {y : MethodName} {cy : Cond} (h1 : Cond.methodLink RX13 idx y ∈ tM) (h2 : Cond.static y ∈ tM) (h4 : Cond.initialized RX13 ∈ tM) (h5 : cy ∈ tM) : GoodIn tM (wsS RX13 idx y (cy :: tM)) := by
  intro w hw
  rcases List.mem_append.mp hw with h | h
  · simp only [List.mem_cons, List.not_mem_nil, or_false] at h
    rcases h with rfl | rfl | rfl
    · exact tM_self _ h1
    · exact tM_self _ h2
    · exact tM_self _ h4
  · rcases List.mem_cons.mp h with rfl | h
    · exact tM_self _ h5
    · exact tM_self _ h
theorem tM_ini : Cond.initialized RX13 ∈ tM := List.mem_of_getElem? (i := 79) (by decide +kernel)
theorem gM_refuse : GoodIn tM (wsV RX13 171 RX13 yX13_refuse (.code yX13_refuse cX13_refuse 2 (some .int) :: tM)) := gM_v (List.mem_of_getElem? (i := 76) (by decide +kernel)) (List.mem_of_getElem? (i := 77) (by decide +kernel)) (List.mem_of_getElem? (i := 78) (by decide +kernel)) tM_ini (List.mem_of_getElem? (i := 71) (by decide +kernel))
theorem gM_four : GoodIn tM (wsV RX13 175 RX13 yX13_four (.code yX13_four cX13_four 3 none :: tM)) := gM_v (List.mem_of_getElem? (i := 80) (by decide +kernel)) (List.mem_of_getElem? (i := 81) (by decide +kernel)) (List.mem_of_getElem? (i := 82) (by decide +kernel)) tM_ini (List.mem_of_getElem? (i := 73) (by decide +kernel))
theorem gM_in : GoodIn tM (wsS RX13 179 yX13_in (.code yX13_in cX13_in 3 (some .boolean) :: tM)) := gM_s (List.mem_of_getElem? (i := 84) (by decide +kernel)) (List.mem_of_getElem? (i := 85) (by decide +kernel)) tM_ini (List.mem_of_getElem? (i := 72) (by decide +kernel))
theorem gM_byteAt : GoodIn tM (wsV RX13 195 RX13 yX13_byteAt (.code yX13_byteAt cX13_byteAt 2 (some .int) :: tM)) := gM_v (List.mem_of_getElem? (i := 93) (by decide +kernel)) (List.mem_of_getElem? (i := 94) (by decide +kernel)) (List.mem_of_getElem? (i := 95) (by decide +kernel)) tM_ini (List.mem_of_getElem? (i := 86) (by decide +kernel))
theorem gM_wrong : GoodIn tM (wsV RX13 198 RX13 yX13_wrong (.code yX13_wrong cX13_wrong 1 (some .int) :: tM)) := gM_v (List.mem_of_getElem? (i := 98) (by decide +kernel)) (List.mem_of_getElem? (i := 99) (by decide +kernel)) (List.mem_of_getElem? (i := 100) (by decide +kernel)) tM_ini (List.mem_of_getElem? (i := 88) (by decide +kernel))
theorem gM_next : GoodIn tM (wsV RX13 202 RX13 yX13_next (.code yX13_next cX13_next 1 none :: tM)) := gM_v (List.mem_of_getElem? (i := 101) (by decide +kernel)) (List.mem_of_getElem? (i := 102) (by decide +kernel)) (List.mem_of_getElem? (i := 103) (by decide +kernel)) tM_ini (List.mem_of_getElem? (i := 91) (by decide +kernel))
theorem gM_word : GoodIn tM (wsV RX13 205 RX13 yX13_word (.code yX13_word cX13_word 4 (some .int) :: tM)) := gM_v (List.mem_of_getElem? (i := 106) (by decide +kernel)) (List.mem_of_getElem? (i := 107) (by decide +kernel)) (List.mem_of_getElem? (i := 108) (by decide +kernel)) tM_ini (List.mem_of_getElem? (i := 96) (by decide +kernel))
theorem gM_number : GoodIn tM (wsV RX13 212 RX13 yX13_number (.code yX13_number cX13_number 6 (some .int) :: tM)) := gM_v (List.mem_of_getElem? (i := 109) (by decide +kernel)) (List.mem_of_getElem? (i := 110) (by decide +kernel)) (List.mem_of_getElem? (i := 111) (by decide +kernel)) tM_ini (List.mem_of_getElem? (i := 97) (by decide +kernel))
theorem gM_line : GoodIn tM (wsV RX13 216 RX13 yX13_line (.code yX13_line cX13_line 7 none :: tM)) := gM_v (List.mem_of_getElem? (i := 113) (by decide +kernel)) (List.mem_of_getElem? (i := 114) (by decide +kernel)) (List.mem_of_getElem? (i := 115) (by decide +kernel)) tM_ini (List.mem_of_getElem? (i := 112) (by decide +kernel))
theorem gM_isThere : GoodIn tM (wsV RX13 219 RX13 yX13_isThere (.code yX13_isThere cX13_isThere 2 (some .boolean) :: tM)) := gM_v (List.mem_of_getElem? (i := 121) (by decide +kernel)) (List.mem_of_getElem? (i := 122) (by decide +kernel)) (List.mem_of_getElem? (i := 123) (by decide +kernel)) tM_ini (List.mem_of_getElem? (i := 117) (by decide +kernel))
theorem gM_objects : GoodIn tM (wsV RX13 223 RX13 yX13_objects (.code yX13_objects cX13_objects 3 (some .int) :: tM)) := gM_v (List.mem_of_getElem? (i := 124) (by decide +kernel)) (List.mem_of_getElem? (i := 125) (by decide +kernel)) (List.mem_of_getElem? (i := 126) (by decide +kernel)) tM_ini (List.mem_of_getElem? (i := 119) (by decide +kernel))
theorem gM_read : GoodIn tM (wsV RX13 226 RX13 yX13_read (.code yX13_read cX13_read 1 none :: tM)) := gM_v (List.mem_of_getElem? (i := 127) (by decide +kernel)) (List.mem_of_getElem? (i := 128) (by decide +kernel)) (List.mem_of_getElem? (i := 129) (by decide +kernel)) tM_ini (List.mem_of_getElem? (i := 116) (by decide +kernel))
theorem gM_leaves : GoodIn tM (wsV RX13 229 RX13 yX13_leaves (.code yX13_leaves cX13_leaves 5 none :: tM)) := gM_v (List.mem_of_getElem? (i := 136) (by decide +kernel)) (List.mem_of_getElem? (i := 137) (by decide +kernel)) (List.mem_of_getElem? (i := 138) (by decide +kernel)) tM_ini (List.mem_of_getElem? (i := 133) (by decide +kernel))
theorem gM_goesOn : GoodIn tM (wsV RX13 233 RX13 yX13_goesOn (.code yX13_goesOn cX13_goesOn 2 none :: tM)) := gM_v (List.mem_of_getElem? (i := 139) (by decide +kernel)) (List.mem_of_getElem? (i := 140) (by decide +kernel)) (List.mem_of_getElem? (i := 141) (by decide +kernel)) tM_ini (List.mem_of_getElem? (i := 134) (by decide +kernel))
theorem gM_has : GoodIn tM (wsV RX13 236 RX13 yX13_has (.code yX13_has cX13_has 3 none :: tM)) := gM_v (List.mem_of_getElem? (i := 144) (by decide +kernel)) (List.mem_of_getElem? (i := 145) (by decide +kernel)) (List.mem_of_getElem? (i := 146) (by decide +kernel)) tM_ini (List.mem_of_getElem? (i := 143) (by decide +kernel))
theorem gM_waitFor : GoodIn tM (wsV RX13 239 RX13 yX13_waitFor (.code yX13_waitFor cX13_waitFor 3 none :: tM)) := gM_v (List.mem_of_getElem? (i := 148) (by decide +kernel)) (List.mem_of_getElem? (i := 149) (by decide +kernel)) (List.mem_of_getElem? (i := 150) (by decide +kernel)) tM_ini (List.mem_of_getElem? (i := 132) (by decide +kernel))
theorem gM_freed : GoodIn tM (wsV RX13 242 RX13 yX13_freed (.code yX13_freed cX13_freed 3 none :: tM)) := gM_v (List.mem_of_getElem? (i := 151) (by decide +kernel)) (List.mem_of_getElem? (i := 152) (by decide +kernel)) (List.mem_of_getElem? (i := 153) (by decide +kernel)) tM_ini (List.mem_of_getElem? (i := 147) (by decide +kernel))
theorem gM_fails : GoodIn tM (wsV RX13 264 RX13 yX13_fails (.code yX13_fails cX13_fails 3 (some .boolean) :: tM)) := gM_v (List.mem_of_getElem? (i := 158) (by decide +kernel)) (List.mem_of_getElem? (i := 159) (by decide +kernel)) (List.mem_of_getElem? (i := 160) (by decide +kernel)) tM_ini (List.mem_of_getElem? (i := 142) (by decide +kernel))
theorem gM_signalled : GoodIn tM (wsV RX13 289 RX13 yX13_signalled (.code yX13_signalled cX13_signalled 5 none :: tM)) := gM_v (List.mem_of_getElem? (i := 161) (by decide +kernel)) (List.mem_of_getElem? (i := 162) (by decide +kernel)) (List.mem_of_getElem? (i := 163) (by decide +kernel)) tM_ini (List.mem_of_getElem? (i := 154) (by decide +kernel))
theorem gM_part : GoodIn tM (wsV RX13 252 RX13 yX13_part (.code yX13_part cX13_part 3 (some .int) :: tM)) := gM_v (List.mem_of_getElem? (i := 166) (by decide +kernel)) (List.mem_of_getElem? (i := 167) (by decide +kernel)) (List.mem_of_getElem? (i := 168) (by decide +kernel)) tM_ini (List.mem_of_getElem? (i := 131) (by decide +kernel))
theorem gM_passes : GoodIn tM (wsV RX13 286 RX13 yX13_passes (.code yX13_passes cX13_passes 3 (some .boolean) :: tM)) := gM_v (List.mem_of_getElem? (i := 169) (by decide +kernel)) (List.mem_of_getElem? (i := 170) (by decide +kernel)) (List.mem_of_getElem? (i := 171) (by decide +kernel)) tM_ini (List.mem_of_getElem? (i := 157) (by decide +kernel))
theorem gM_firstGoesOn : GoodIn tM (wsV RX13 283 RX13 yX13_firstGoesOn (.code yX13_firstGoesOn cX13_firstGoesOn 3 (some .int) :: tM)) := gM_v (List.mem_of_getElem? (i := 172) (by decide +kernel)) (List.mem_of_getElem? (i := 173) (by decide +kernel)) (List.mem_of_getElem? (i := 174) (by decide +kernel)) tM_ini (List.mem_of_getElem? (i := 135) (by decide +kernel))
theorem gM_opened : GoodIn tM (wsV RX13 295 RX13 yX13_opened (.code yX13_opened cX13_opened 2 none :: tM)) := gM_v (List.mem_of_getElem? (i := 177) (by decide +kernel)) (List.mem_of_getElem? (i := 178) (by decide +kernel)) (List.mem_of_getElem? (i := 179) (by decide +kernel)) tM_ini (List.mem_of_getElem? (i := 176) (by decide +kernel))
theorem gM_append : GoodIn tM (wsV RX13 292 RX13 yX13_append (.code yX13_append cX13_append 3 none :: tM)) := gM_v (List.mem_of_getElem? (i := 182) (by decide +kernel)) (List.mem_of_getElem? (i := 183) (by decide +kernel)) (List.mem_of_getElem? (i := 184) (by decide +kernel)) tM_ini (List.mem_of_getElem? (i := 181) (by decide +kernel))
theorem gM_kindOf : GoodIn tM (wsS RX13 261 yX13_kindOf (.code yX13_kindOf cX13_kindOf 1 (some .int) :: tM)) := gM_s (List.mem_of_getElem? (i := 186) (by decide +kernel)) (List.mem_of_getElem? (i := 187) (by decide +kernel)) tM_ini (List.mem_of_getElem? (i := 156) (by decide +kernel))
theorem gM_atLock : GoodIn tM (wsV RX13 268 RX13 yX13_atLock (.code yX13_atLock cX13_atLock 6 (some .boolean) :: tM)) := gM_v (List.mem_of_getElem? (i := 188) (by decide +kernel)) (List.mem_of_getElem? (i := 189) (by decide +kernel)) (List.mem_of_getElem? (i := 190) (by decide +kernel)) tM_ini (List.mem_of_getElem? (i := 164) (by decide +kernel))
theorem gM_atCell : GoodIn tM (wsV RX13 271 RX13 yX13_atCell (.code yX13_atCell cX13_atCell 5 (some .boolean) :: tM)) := gM_v (List.mem_of_getElem? (i := 191) (by decide +kernel)) (List.mem_of_getElem? (i := 192) (by decide +kernel)) (List.mem_of_getElem? (i := 193) (by decide +kernel)) tM_ini (List.mem_of_getElem? (i := 165) (by decide +kernel))
theorem gM_atSemaphore : GoodIn tM (wsV RX13 274 RX13 yX13_atSemaphore (.code yX13_atSemaphore cX13_atSemaphore 5 (some .boolean) :: tM)) := gM_v (List.mem_of_getElem? (i := 194) (by decide +kernel)) (List.mem_of_getElem? (i := 195) (by decide +kernel)) (List.mem_of_getElem? (i := 196) (by decide +kernel)) tM_ini (List.mem_of_getElem? (i := 175) (by decide +kernel))
theorem gM_atGate : GoodIn tM (wsV RX13 277 RX13 yX13_atGate (.code yX13_atGate cX13_atGate 4 (some .boolean) :: tM)) := gM_v (List.mem_of_getElem? (i := 197) (by decide +kernel)) (List.mem_of_getElem? (i := 198) (by decide +kernel)) (List.mem_of_getElem? (i := 199) (by decide +kernel)) tM_ini (List.mem_of_getElem? (i := 180) (by decide +kernel))
theorem gM_atQueue : GoodIn tM (wsV RX13 280 RX13 yX13_atQueue (.code yX13_atQueue cX13_atQueue 6 (some .boolean) :: tM)) := gM_v (List.mem_of_getElem? (i := 200) (by decide +kernel)) (List.mem_of_getElem? (i := 201) (by decide +kernel)) (List.mem_of_getElem? (i := 202) (by decide +kernel)) tM_ini (List.mem_of_getElem? (i := 185) (by decide +kernel))
theorem gM_rowOf : GoodIn tM (wsV RX13 249 RX13 yX13_rowOf (.code yX13_rowOf cX13_rowOf 4 (some .int) :: tM)) := gM_v (List.mem_of_getElem? (i := 206) (by decide +kernel)) (List.mem_of_getElem? (i := 207) (by decide +kernel)) (List.mem_of_getElem? (i := 208) (by decide +kernel)) tM_ini (List.mem_of_getElem? (i := 155) (by decide +kernel))
theorem gM_with : GoodIn tM (wsV RX13 258 RX13 yX13_with (.code yX13_with cX13_with 6 (some .boolean) :: tM)) := gM_v (List.mem_of_getElem? (i := 209) (by decide +kernel)) (List.mem_of_getElem? (i := 210) (by decide +kernel)) (List.mem_of_getElem? (i := 211) (by decide +kernel)) tM_ini (List.mem_of_getElem? (i := 203) (by decide +kernel))
theorem gM_one : GoodIn tM (wsV RX13 298 RX13 yX13_one (.code yX13_one cX13_one 6 none :: tM)) := gM_v (List.mem_of_getElem? (i := 213) (by decide +kernel)) (List.mem_of_getElem? (i := 214) (by decide +kernel)) (List.mem_of_getElem? (i := 215) (by decide +kernel)) tM_ini (List.mem_of_getElem? (i := 212) (by decide +kernel))
theorem gM_ready : GoodIn tM (wsV RX13 304 RX13 yX13_ready (.code yX13_ready cX13_ready 3 (some .int) :: tM)) := gM_v (List.mem_of_getElem? (i := 220) (by decide +kernel)) (List.mem_of_getElem? (i := 221) (by decide +kernel)) (List.mem_of_getElem? (i := 222) (by decide +kernel)) tM_ini (List.mem_of_getElem? (i := 217) (by decide +kernel))
theorem gM_nextOf : GoodIn tM (wsV RX13 308 RX13 yX13_nextOf (.code yX13_nextOf cX13_nextOf 2 (some .int) :: tM)) := gM_v (List.mem_of_getElem? (i := 229) (by decide +kernel)) (List.mem_of_getElem? (i := 230) (by decide +kernel)) (List.mem_of_getElem? (i := 231) (by decide +kernel)) tM_ini (List.mem_of_getElem? (i := 227) (by decide +kernel))
theorem tMc17 : Cond.constantLong RX13 17 (1819238756) ∈ tM := List.mem_of_getElem? (i := 7) (by decide +kernel)
theorem tMc19 : Cond.constantLong RX13 19 (6382692) ∈ tM := List.mem_of_getElem? (i := 8) (by decide +kernel)
theorem tMc21 : Cond.constantLong RX13 21 (1786080624) ∈ tM := List.mem_of_getElem? (i := 9) (by decide +kernel)
theorem tMc23 : Cond.constantLong RX13 23 (2053468783) ∈ tM := List.mem_of_getElem? (i := 10) (by decide +kernel)
theorem tMc25 : Cond.constantLong RX13 25 (1818588019) ∈ tM := List.mem_of_getElem? (i := 11) (by decide +kernel)
theorem tMc27 : Cond.constantLong RX13 27 (495739823472) ∈ tM := List.mem_of_getElem? (i := 12) (by decide +kernel)
theorem tMc29 : Cond.constantLong RX13 29 (6647396) ∈ tM := List.mem_of_getElem? (i := 13) (by decide +kernel)
theorem tMc31 : Cond.constantLong RX13 31 (1819239275) ∈ tM := List.mem_of_getElem? (i := 14) (by decide +kernel)
theorem tMc33 : Cond.constantLong RX13 33 (7631481) ∈ tM := List.mem_of_getElem? (i := 15) (by decide +kernel)
theorem tMc35 : Cond.constantLong RX13 35 (129117126091627) ∈ tM := List.mem_of_getElem? (i := 16) (by decide +kernel)
theorem tMc37 : Cond.constantLong RX13 37 (2002872692) ∈ tM := List.mem_of_getElem? (i := 17) (by decide +kernel)
theorem tMc39 : Cond.constantLong RX13 39 (126896544047468) ∈ tM := List.mem_of_getElem? (i := 18) (by decide +kernel)
theorem tMc41 : Cond.constantLong RX13 41 (6384748) ∈ tM := List.mem_of_getElem? (i := 19) (by decide +kernel)
theorem tMc43 : Cond.constantLong RX13 43 (6776180) ∈ tM := List.mem_of_getElem? (i := 20) (by decide +kernel)
theorem tMc45 : Cond.constantLong RX13 45 (7562612) ∈ tM := List.mem_of_getElem? (i := 21) (by decide +kernel)
theorem tMc47 : Cond.constantLong RX13 47 (6909539) ∈ tM := List.mem_of_getElem? (i := 22) (by decide +kernel)
theorem tMc49 : Cond.constantLong RX13 49 (6513011) ∈ tM := List.mem_of_getElem? (i := 23) (by decide +kernel)
theorem tMc51 : Cond.constantLong RX13 51 (27412411693232741) ∈ tM := List.mem_of_getElem? (i := 24) (by decide +kernel)
theorem tMc53 : Cond.constantLong RX13 53 (32199663576773477) ∈ tM := List.mem_of_getElem? (i := 25) (by decide +kernel)
theorem tMc55 : Cond.constantLong RX13 55 (431415716206) ∈ tM := List.mem_of_getElem? (i := 26) (by decide +kernel)
theorem tMc57 : Cond.constantLong RX13 57 (1685026670) ∈ tM := List.mem_of_getElem? (i := 27) (by decide +kernel)
theorem tMc59 : Cond.constantLong RX13 59 (418614700404) ∈ tM := List.mem_of_getElem? (i := 28) (by decide +kernel)
theorem tMc61 : Cond.constantLong RX13 61 (1835361652) ∈ tM := List.mem_of_getElem? (i := 29) (by decide +kernel)
theorem tMc63 : Cond.constantLong RX13 63 (7370100) ∈ tM := List.mem_of_getElem? (i := 30) (by decide +kernel)
theorem tMc65 : Cond.constantLong RX13 65 (1952541541) ∈ tM := List.mem_of_getElem? (i := 31) (by decide +kernel)
theorem tMc67 : Cond.constantLong RX13 67 (478459356530) ∈ tM := List.mem_of_getElem? (i := 32) (by decide +kernel)
theorem tMc69 : Cond.constantLong RX13 69 (1886350444) ∈ tM := List.mem_of_getElem? (i := 33) (by decide +kernel)
theorem tMc71 : Cond.constantLong RX13 71 (1734964837) ∈ tM := List.mem_of_getElem? (i := 34) (by decide +kernel)
theorem tMc73 : Cond.constantLong RX13 73 (1785686382) ∈ tM := List.mem_of_getElem? (i := 35) (by decide +kernel)
theorem tMc75 : Cond.constantLong RX13 75 (26990) ∈ tM := List.mem_of_getElem? (i := 36) (by decide +kernel)
theorem tMc77 : Cond.constantLong RX13 77 (7304564) ∈ tM := List.mem_of_getElem? (i := 37) (by decide +kernel)
theorem tMc79 : Cond.constantLong RX13 79 (7305070) ∈ tM := List.mem_of_getElem? (i := 38) (by decide +kernel)
theorem tMc81 : Cond.constantLong RX13 81 (1650549611) ∈ tM := List.mem_of_getElem? (i := 39) (by decide +kernel)
theorem tMc83 : Cond.constantLong RX13 83 (1953066341) ∈ tM := List.mem_of_getElem? (i := 40) (by decide +kernel)
theorem tMc211 : Cond.constant RX13 211 (1000000000) ∈ tM := List.mem_of_getElem? (i := 105) (by decide +kernel)
theorem tMc307 : Cond.constant RX13 307 (1103515245) ∈ tM := List.mem_of_getElem? (i := 219) (by decide +kernel)
theorem tMc311 : Cond.constantLong RX13 311 (1099511627776) ∈ tM := List.mem_of_getElem? (i := 233) (by decide +kernel)
theorem tMa_int : Cond.arrayClass .int ∈ tM := List.mem_of_getElem? (i := 3) (by decide +kernel)
theorem tMa_long : Cond.arrayClass .long ∈ tM := List.mem_of_getElem? (i := 6) (by decide +kernel)
theorem tMa_boolean : Cond.arrayClass .boolean ∈ tM := List.mem_of_getElem? (i := 52) (by decide +kernel)
/-- the state of the reference: its ints and longs by the field, its arrays of ints (and booleans) and of longs by field and place -/
abbrev mS : Type := (Nat → Int32) × (Nat → Int64) × (Nat → Int32 → Int32) × (Nat → Int32 → Int64)
def gI (S : mS) (k : Nat) : Int32 := S.1 k
def gJ (S : mS) (k : Nat) : Int64 := S.2.1 k
def gA (S : mS) (k : Nat) (i : Int32) : Int32 := S.2.2.1 k i
def gL (S : mS) (k : Nat) (i : Int32) : Int64 := S.2.2.2 k i
def sI (S : mS) (k : Nat) (x : Int32) : mS := (fun j => if j = k then x else S.1 j, S.2.1, S.2.2.1, S.2.2.2)
def sJ (S : mS) (k : Nat) (x : Int64) : mS := (S.1, fun j => if j = k then x else S.2.1 j, S.2.2.1, S.2.2.2)
def sA (S : mS) (k : Nat) (i x : Int32) : mS := (S.1, S.2.1, fun j => if j = k then (fun q => if q = i then x else S.2.2.1 k q) else S.2.2.1 j, S.2.2.2)
def sL (S : mS) (k : Nat) (i : Int32) (x : Int64) : mS := (S.1, S.2.1, S.2.2.1, fun j => if j = k then (fun q => if q = i then x else S.2.2.2 k q) else S.2.2.2 j)
theorem gI_sI (S : mS) (k : Nat) (x : Int32) (j : Nat) : gI (sI S k x) j = if j = k then x else gI S j := rfl
theorem gI_sJ (S : mS) (k : Nat) (x : Int64) (j : Nat) : gI (sJ S k x) j = gI S j := rfl
theorem gI_sA (S : mS) (k : Nat) (i x : Int32) (j : Nat) : gI (sA S k i x) j = gI S j := rfl
theorem gI_sL (S : mS) (k : Nat) (i : Int32) (x : Int64) (j : Nat) : gI (sL S k i x) j = gI S j := rfl
theorem gJ_sI (S : mS) (k : Nat) (x : Int32) (j : Nat) : gJ (sI S k x) j = gJ S j := rfl
theorem gJ_sJ (S : mS) (k : Nat) (x : Int64) (j : Nat) : gJ (sJ S k x) j = if j = k then x else gJ S j := rfl
theorem gJ_sA (S : mS) (k : Nat) (i x : Int32) (j : Nat) : gJ (sA S k i x) j = gJ S j := rfl
theorem gJ_sL (S : mS) (k : Nat) (i : Int32) (x : Int64) (j : Nat) : gJ (sL S k i x) j = gJ S j := rfl
theorem gA_sI (S : mS) (k : Nat) (x : Int32) (j : Nat) (q : Int32) : gA (sI S k x) j q = gA S j q := rfl
theorem gA_sJ (S : mS) (k : Nat) (x : Int64) (j : Nat) (q : Int32) : gA (sJ S k x) j q = gA S j q := rfl
theorem gA_sA (S : mS) (k : Nat) (i x : Int32) (j : Nat) (q : Int32) : gA (sA S k i x) j q = if j = k then (if q = i then x else gA S j q) else gA S j q := by
  by_cases h : j = k
  · subst h; simp [gA, sA]
  · simp [gA, sA, h]
theorem gA_sL (S : mS) (k : Nat) (i : Int32) (x : Int64) (j : Nat) (q : Int32) : gA (sL S k i x) j q = gA S j q := rfl
theorem gL_sI (S : mS) (k : Nat) (x : Int32) (j : Nat) (q : Int32) : gL (sI S k x) j q = gL S j q := rfl
theorem gL_sJ (S : mS) (k : Nat) (x : Int64) (j : Nat) (q : Int32) : gL (sJ S k x) j q = gL S j q := rfl
theorem gL_sA (S : mS) (k : Nat) (i x : Int32) (j : Nat) (q : Int32) : gL (sA S k i x) j q = gL S j q := rfl
theorem gL_sL (S : mS) (k : Nat) (i : Int32) (x : Int64) (j : Nat) (q : Int32) : gL (sL S k i x) j q = if j = k then (if q = i then x else gL S j q) else gL S j q := by
  by_cases h : j = k
  · subst h; simp [gL, sL]
  · simp [gL, sL, h]
theorem vin {x N : Int32} {n : Nat} (hN : N.toInt = n) (h0 : 0 ≤ x) (h1 : x < N) : vp_in x n := by
  rw [vp_in_iff, ← hN]
  exact ⟨Int32.le_iff_toInt_le.mp h0, Int32.lt_iff_toInt_lt.mp h1⟩
theorem nI_back {i : Int32} {n : Nat} (h : vp_in i n) : nI i.toNatClampNeg = i := by
  have h1 := (vp_in_iff.mp h).1
  apply Int32.toInt_inj.mp
  have h2 : i.toNatClampNeg < 2 ^ 31 := by
    have := Int32.toInt_lt i
    simp only [Int32.toNatClampNeg]
    omega
  rw [nI_toInt h2]
  simp only [Int32.toNatClampNeg]
  omega
theorem nI_inj31 {a b : Nat} (ha : a < 2 ^ 31) (hb : b < 2 ^ 31) (h : nI a = nI b) : a = b := (nI_eq ha hb).mp h
/-- two rows that agree in their places are one -/
theorem arr_eq {cA : ClassId} {n : Nat} {f g : Nat → Int32} (h : ∀ j, j < n → f j = g j) : vp_cell cA (n, .inl f) = vp_cell cA (n, .inl g) := by
  rw [vp_cell_i, vp_cell_i]
  have e : (fun j : Fin n => Value.int (f j.val)) = (fun j : Fin n => Value.int (g j.val)) := funext fun j => by rw [h j.val j.isLt]
  simp only [arrV, e]
theorem arr_eqL {cA : ClassId} {n : Nat} {f g : Nat → Int64} (h : ∀ j, j < n → f j = g j) : vp_cell cA (n, .inr (.inl f)) = vp_cell cA (n, .inr (.inl g)) := by
  rw [vp_cell_l, vp_cell_l]
  have e : (fun j : Fin n => Value.long (f j.val)) = (fun j : Fin n => Value.long (g j.val)) := funext fun j => by rw [h j.val j.isLt]
  simp only [arrV, e]
theorem mSwap {D : va_G} {cl : List vw_C} {ws : va_W} {H : Heap} {q0 a : Nat} {c1 c2 : ClassId × vp_A} (h : va_P D cl (ws.set q0 (a, .inl c1)) H) (he : vp_cell c1.1 c1.2 = vp_cell c2.1 c2.2) : va_P D cl (ws.set q0 (a, .inl c2)) H := by
  intro k q hk
  by_cases hkp : k = q0
  · subst hkp
    by_cases hl : k < ws.length
    · rw [List.getElem?_set_self hl] at hk
      cases hk
      have h1 := h k (a, .inl c1) (List.getElem?_set_self hl)
      show H[a]? = some (vp_cell c2.1 c2.2)
      rw [← he]; exact h1
    · rw [List.set_eq_of_length_le (by omega)] at hk h
      exact h k q hk
  · rw [List.getElem?_set_ne (Ne.symm hkp)] at hk
    exact h k q (by rw [List.getElem?_set_ne (Ne.symm hkp)]; exact hk)
theorem upd_nI {f : Int32 → Int32} {i x : Int32} {n : Nat} (hin : vp_in i n) (hn : n < 2 ^ 31) : ∀ j, j < n → upd (fun q => f (nI q)) i.toNatClampNeg x j = (fun q => if q = i then x else f q) (nI j) := by
  intro j hj
  have hb := nI_back hin
  have hi : i.toNatClampNeg < n := Nat.not_le.mp fun q => hin (Or.inr q)
  by_cases h : j = i.toNatClampNeg
  · subst h; simp [upd, hb]
  · have h2 : ¬ nI j = i := fun e => h (nI_inj31 (by omega) (by omega) (e.trans hb.symm))
    simp [upd, h, h2]
theorem updL_nI {f : Int32 → Int64} {i : Int32} {x : Int64} {n : Nat} (hin : vp_in i n) (hn : n < 2 ^ 31) : ∀ j, j < n → vp_updL (fun q => f (nI q)) i.toNatClampNeg x j = (fun q => if q = i then x else f q) (nI j) := by
  intro j hj
  have hb := nI_back hin
  have hi : i.toNatClampNeg < n := Nat.not_le.mp fun q => hin (Or.inr q)
  by_cases h : j = i.toNatClampNeg
  · subst h; simp [vp_updL, hb]
  · have h2 : ¬ nI j = i := fun e => h (nI_inj31 (by omega) (by omega) (e.trans hb.symm))
    simp [vp_updL, h, h2]
def mfs (ad : Nat → Nat) (S : mS) : List Value := [.int (S.1 0), .ref (ad 1), .int (S.1 2), .int (S.1 3), .ref (ad 4), .ref (ad 5), .int (S.1 6), .int (S.1 7), .int (S.1 8), .int (S.1 9), .int (S.1 10), .ref (ad 11), .ref (ad 12), .ref (ad 13), .ref (ad 14), .ref (ad 15), .ref (ad 16), .ref (ad 17), .ref (ad 18), .ref (ad 19), .ref (ad 20), .ref (ad 21), .ref (ad 22), .ref (ad 23), .long (S.2.1 24), .long (S.2.1 25), .int (S.1 26), .int (S.1 27), .ref (ad 28), .ref (ad 29), .ref (ad 30), .ref (ad 31), .ref (ad 32), .ref (ad 33), .ref (ad 34), .ref (ad 35), .ref (ad 36), .ref (ad 37)]
def mws (cs : ClassId × ClassId × ClassId) (o : Nat) (ad : Nat → Nat) (S : mS) : va_W := [(o, .inr (10, mfs ad S)), (ad 1, .inl (cs.1, 1600, .inl (fun j => S.2.2.1 1 (nI j)))), (ad 4, .inl (cs.2.1, 34, .inr (.inl (fun j => S.2.2.2 4 (nI j))))), (ad 5, .inl (cs.1, 240, .inl (fun j => S.2.2.1 5 (nI j)))), (ad 11, .inl (cs.1, 1920, .inl (fun j => S.2.2.1 11 (nI j)))), (ad 12, .inl (cs.1, 8, .inl (fun j => S.2.2.1 12 (nI j)))), (ad 13, .inl (cs.1, 8, .inl (fun j => S.2.2.1 13 (nI j)))), (ad 14, .inl (cs.1, 8, .inl (fun j => S.2.2.1 14 (nI j)))), (ad 15, .inl (cs.1, 8, .inl (fun j => S.2.2.1 15 (nI j)))), (ad 16, .inl (cs.1, 8, .inl (fun j => S.2.2.1 16 (nI j)))), (ad 17, .inl (cs.1, 8, .inl (fun j => S.2.2.1 17 (nI j)))), (ad 18, .inl (cs.1, 8, .inl (fun j => S.2.2.1 18 (nI j)))), (ad 19, .inl (cs.1, 8, .inl (fun j => S.2.2.1 19 (nI j)))), (ad 20, .inl (cs.2.2, 8, .inl (fun j => S.2.2.1 20 (nI j)))), (ad 21, .inl (cs.2.2, 8, .inl (fun j => S.2.2.1 21 (nI j)))), (ad 22, .inl (cs.2.2, 8, .inl (fun j => S.2.2.1 22 (nI j)))), (ad 23, .inl (cs.2.1, 8, .inr (.inl (fun j => S.2.2.2 23 (nI j))))), (ad 28, .inl (cs.1, 24, .inl (fun j => S.2.2.1 28 (nI j)))), (ad 29, .inl (cs.1, 24, .inl (fun j => S.2.2.1 29 (nI j)))), (ad 30, .inl (cs.1, 24, .inl (fun j => S.2.2.1 30 (nI j)))), (ad 31, .inl (cs.1, 24, .inl (fun j => S.2.2.1 31 (nI j)))), (ad 32, .inl (cs.1, 192, .inl (fun j => S.2.2.1 32 (nI j)))), (ad 33, .inl (cs.1, 24, .inl (fun j => S.2.2.1 33 (nI j)))), (ad 34, .inl (cs.1, 192, .inl (fun j => S.2.2.1 34 (nI j)))), (ad 35, .inl (cs.1, 24, .inl (fun j => S.2.2.1 35 (nI j)))), (ad 36, .inl (cs.1, 2400, .inl (fun j => S.2.2.1 36 (nI j)))), (ad 37, .inl (cs.1, 24, .inl (fun j => S.2.2.1 37 (nI j))))]
abbrev mT (cs : ClassId × ClassId × ClassId) : List (ClassId × FieldType) := [(cs.1, .int), (cs.2.1, .long), (cs.2.2, .boolean)]
def mV (D : va_G) (cs : ClassId × ClassId × ClassId) (o : Nat) (ad : Nat → Nat) (A : Nat → Prop) (S : mS) (H : Heap) : Prop := va_P D vwCl (mws cs o ad S) H ∧ va_D A (mws cs o ad S)
def mB (D : va_G) (cs : ClassId × ClassId × ClassId) (o : Nat) (ad : Nat → Nat) (A : Nat → Prop) (S : mS) (U : State) : Prop := mV D cs o ad A S U.heap ∧ va_K D vwCl (mT cs) U
def mC (p : Program) (s : State) (m : MethodId) (args : Array Value) (c : Code) (cc : ByteArray) (D : va_G) (cs : ClassId × ClassId × ClassId) : Prop := p.tables.exec = Jvm.exec ∧ c.code = cc ∧ s.vm.findClass RX13 = some m.cls ∧ (∀ w ∈ tM, w.before args s = true) ∧ va_K D vwCl (mT cs) s
section MW
variable {p : Program} {l : Launch} {e : Env} {R : Room} {s : State} {m : MethodId} {args : Array Value} {below : List Frame} {meth : Method} {c : Code} {H : Heap} {locs : List Loc} {cells slots : Nat} {Q : State → Prop}
variable {cc : ByteArray} {pc : Nat} {ls : Array Slot} {rest : List Value} {D : va_G} {cs : ClassId × ClassId × ClassId} {o : Nat} {ad : Nat → Nat} {A : Nat → Prop} {S : mS} {H0 : Heap}
theorem mG0 (C : mC p s m args c cc D cs) (V : mV D cs o ad A S H) (hdg : decode cc pc = .ok (.getfield 165, 3)) (kk : W p l e R s m args below meth c H locs cells slots Q (F0 m (pc + 3) ls (.int (gI S 0) :: rest))) : W p l e R s m args below meth c H locs cells slots Q (F0 m pc ls (.ref o :: rest)) := by
  obtain ⟨hx, hb, hown, hts, hK⟩ := C
  exact va_get (own := RX13) (C := RX13) (T := TX13) (N := 38) (ci := 10) hx hb hts tM_lay hown hK V.1 0 rfl rfl 0 (by decide) (hts _ tMf0) (fun _ h => h) rfl hdg kk
theorem mP0 {x : Int32} (C : mC p s m args c cc D cs) (V : mV D cs o ad A S H) (hS : va_S A H0 H locs) (hdg : decode cc pc = .ok (.putfield 165, 3)) (kk : ∀ (S1 : mS) (H1 : Heap) (locs1 : List Loc), S1 = sI S 0 x → mV D cs o ad A S1 H1 → va_S A H0 H1 locs1 → W p l e R s m args below meth c H1 locs1 cells slots Q (F0 m (pc + 3) ls rest)) : W p l e R s m args below meth c H locs cells slots Q (F0 m pc ls (.int x :: .ref o :: rest)) := by
  obtain ⟨hx, hb, hown, hts, hK⟩ := C
  exact va_put (own := RX13) (C := RX13) (T := TX13) (N := 38) (ci := 10) (ty := .int) hx hb hts tM_lay tyX13 tyX13_ok nmX13 hown hK V.1 V.2 hS 0 rfl rfl 0 (by decide) (hts _ tMf0) (fun _ h => h) rfl (by decide +kernel) rfl rfl (Nat.le_of_ble_eq_true rfl) hdg (fun H1 locs1 hP hD hS1 => kk _ H1 locs1 rfl ⟨hP, hD⟩ hS1)
theorem mG1 (C : mC p s m args c cc D cs) (V : mV D cs o ad A S H) (hdg : decode cc pc = .ok (.getfield 7, 3)) (kk : W p l e R s m args below meth c H locs cells slots Q (F0 m (pc + 3) ls (.ref (ad 1) :: rest))) : W p l e R s m args below meth c H locs cells slots Q (F0 m pc ls (.ref o :: rest)) := by
  obtain ⟨hx, hb, hown, hts, hK⟩ := C
  exact va_get (own := RX13) (C := RX13) (T := TX13) (N := 38) (ci := 10) hx hb hts tM_lay hown hK V.1 0 rfl rfl 1 (by decide) (hts _ tMf1) (fun _ h => h) rfl hdg kk
theorem mLd1 {i : Int32} (C : mC p s m args c cc D cs) (V : mV D cs o ad A S H) (hin : vp_in i 1600) (hdg : decode cc pc = .ok (.iaload, 1)) (kk : W p l e R s m args below meth c H locs cells slots Q (F0 m (pc + 1) ls (.int (gA S 1 i) :: rest))) : W p l e R s m args below meth c H locs cells slots Q (F0 m pc ls (.int i :: .ref (ad 1) :: rest)) := by
  obtain ⟨hx, hb, hown, hts, hK⟩ := C
  refine va_iald hx hb hK V.1 1 0 rfl rfl hin hdg ?_
  have hb9 := nI_back hin
  rw [hb9]; exact kk
theorem mSt1 {i : Int32} {x : Int32} (C : mC p s m args c cc D cs) (V : mV D cs o ad A S H) (hS : va_S A H0 H locs) (hin : vp_in i 1600) (hdg : decode cc pc = .ok (.iastore, 1)) (kk : ∀ (S1 : mS) (H1 : Heap) (locs1 : List Loc), S1 = sA S 1 i (x) → mV D cs o ad A S1 H1 → va_S A H0 H1 locs1 → W p l e R s m args below meth c H1 locs1 cells slots Q (F0 m (pc + 1) ls rest)) : W p l e R s m args below meth c H locs cells slots Q (F0 m pc ls (.int x :: .int i :: .ref (ad 1) :: rest)) := by
  obtain ⟨hx, hb, hown, hts, hK⟩ := C
  exact va_iast hx hb hK V.1 V.2 hS 1 0 rfl rfl hin hdg (fun H1 locs1 hP hD hS1 => kk _ H1 locs1 rfl ⟨mSwap (c2 := (cs.1, 1600, .inl (fun j => (sA S 1 i (x)).2.2.1 1 (nI j)))) hP (arr_eq (upd_nI hin (by decide))), V.2.set (p := 1) rfl⟩ hS1)
theorem mG2 (C : mC p s m args c cc D cs) (V : mV D cs o ad A S H) (hdg : decode cc pc = .ok (.getfield 168, 3)) (kk : W p l e R s m args below meth c H locs cells slots Q (F0 m (pc + 3) ls (.int (gI S 2) :: rest))) : W p l e R s m args below meth c H locs cells slots Q (F0 m pc ls (.ref o :: rest)) := by
  obtain ⟨hx, hb, hown, hts, hK⟩ := C
  exact va_get (own := RX13) (C := RX13) (T := TX13) (N := 38) (ci := 10) hx hb hts tM_lay hown hK V.1 0 rfl rfl 2 (by decide) (hts _ tMf2) (fun _ h => h) rfl hdg kk
theorem mP2 {x : Int32} (C : mC p s m args c cc D cs) (V : mV D cs o ad A S H) (hS : va_S A H0 H locs) (hdg : decode cc pc = .ok (.putfield 168, 3)) (kk : ∀ (S1 : mS) (H1 : Heap) (locs1 : List Loc), S1 = sI S 2 x → mV D cs o ad A S1 H1 → va_S A H0 H1 locs1 → W p l e R s m args below meth c H1 locs1 cells slots Q (F0 m (pc + 3) ls rest)) : W p l e R s m args below meth c H locs cells slots Q (F0 m pc ls (.int x :: .ref o :: rest)) := by
  obtain ⟨hx, hb, hown, hts, hK⟩ := C
  exact va_put (own := RX13) (C := RX13) (T := TX13) (N := 38) (ci := 10) (ty := .int) hx hb hts tM_lay tyX13 tyX13_ok nmX13 hown hK V.1 V.2 hS 0 rfl rfl 2 (by decide) (hts _ tMf2) (fun _ h => h) rfl (by decide +kernel) rfl rfl (Nat.le_of_ble_eq_true rfl) hdg (fun H1 locs1 hP hD hS1 => kk _ H1 locs1 rfl ⟨hP, hD⟩ hS1)
theorem mG3 (C : mC p s m args c cc D cs) (V : mV D cs o ad A S H) (hdg : decode cc pc = .ok (.getfield 13, 3)) (kk : W p l e R s m args below meth c H locs cells slots Q (F0 m (pc + 3) ls (.int (gI S 3) :: rest))) : W p l e R s m args below meth c H locs cells slots Q (F0 m pc ls (.ref o :: rest)) := by
  obtain ⟨hx, hb, hown, hts, hK⟩ := C
  exact va_get (own := RX13) (C := RX13) (T := TX13) (N := 38) (ci := 10) hx hb hts tM_lay hown hK V.1 0 rfl rfl 3 (by decide) (hts _ tMf3) (fun _ h => h) rfl hdg kk
theorem mP3 {x : Int32} (C : mC p s m args c cc D cs) (V : mV D cs o ad A S H) (hS : va_S A H0 H locs) (hdg : decode cc pc = .ok (.putfield 13, 3)) (kk : ∀ (S1 : mS) (H1 : Heap) (locs1 : List Loc), S1 = sI S 3 x → mV D cs o ad A S1 H1 → va_S A H0 H1 locs1 → W p l e R s m args below meth c H1 locs1 cells slots Q (F0 m (pc + 3) ls rest)) : W p l e R s m args below meth c H locs cells slots Q (F0 m pc ls (.int x :: .ref o :: rest)) := by
  obtain ⟨hx, hb, hown, hts, hK⟩ := C
  exact va_put (own := RX13) (C := RX13) (T := TX13) (N := 38) (ci := 10) (ty := .int) hx hb hts tM_lay tyX13 tyX13_ok nmX13 hown hK V.1 V.2 hS 0 rfl rfl 3 (by decide) (hts _ tMf3) (fun _ h => h) rfl (by decide +kernel) rfl rfl (Nat.le_of_ble_eq_true rfl) hdg (fun H1 locs1 hP hD hS1 => kk _ H1 locs1 rfl ⟨hP, hD⟩ hS1)
theorem mG4 (C : mC p s m args c cc D cs) (V : mV D cs o ad A S H) (hdg : decode cc pc = .ok (.getfield 85, 3)) (kk : W p l e R s m args below meth c H locs cells slots Q (F0 m (pc + 3) ls (.ref (ad 4) :: rest))) : W p l e R s m args below meth c H locs cells slots Q (F0 m pc ls (.ref o :: rest)) := by
  obtain ⟨hx, hb, hown, hts, hK⟩ := C
  exact va_get (own := RX13) (C := RX13) (T := TX13) (N := 38) (ci := 10) hx hb hts tM_lay hown hK V.1 0 rfl rfl 4 (by decide) (hts _ tMf4) (fun _ h => h) rfl hdg kk
theorem mLd4 {i : Int32} (C : mC p s m args c cc D cs) (V : mV D cs o ad A S H) (hin : vp_in i 34) (hdg : decode cc pc = .ok (.laload, 1)) (kk : W p l e R s m args below meth c H locs cells slots Q (F0 m (pc + 1) ls (.long (gL S 4 i) :: rest))) : W p l e R s m args below meth c H locs cells slots Q (F0 m pc ls (.int i :: .ref (ad 4) :: rest)) := by
  obtain ⟨hx, hb, hown, hts, hK⟩ := C
  refine va_lald hx hb hK V.1 2 1 rfl rfl hin hdg ?_
  have hb9 := nI_back hin
  rw [hb9]; exact kk
theorem mSt4 {i : Int32} {x : Int64} (C : mC p s m args c cc D cs) (V : mV D cs o ad A S H) (hS : va_S A H0 H locs) (hin : vp_in i 34) (hdg : decode cc pc = .ok (.lastore, 1)) (kk : ∀ (S1 : mS) (H1 : Heap) (locs1 : List Loc), S1 = sL S 4 i (x) → mV D cs o ad A S1 H1 → va_S A H0 H1 locs1 → W p l e R s m args below meth c H1 locs1 cells slots Q (F0 m (pc + 1) ls rest)) : W p l e R s m args below meth c H locs cells slots Q (F0 m pc ls (.long x :: .int i :: .ref (ad 4) :: rest)) := by
  obtain ⟨hx, hb, hown, hts, hK⟩ := C
  exact va_last hx hb hK V.1 V.2 hS 2 1 rfl rfl hin hdg (fun H1 locs1 hP hD hS1 => kk _ H1 locs1 rfl ⟨mSwap (c2 := (cs.2.1, 34, .inr (.inl (fun j => (sL S 4 i x).2.2.2 4 (nI j))))) hP (arr_eqL (updL_nI hin (by decide))), V.2.set (p := 2) rfl⟩ hS1)
theorem mG5 (C : mC p s m args c cc D cs) (V : mV D cs o ad A S H) (hdg : decode cc pc = .ok (.getfield 89, 3)) (kk : W p l e R s m args below meth c H locs cells slots Q (F0 m (pc + 3) ls (.ref (ad 5) :: rest))) : W p l e R s m args below meth c H locs cells slots Q (F0 m pc ls (.ref o :: rest)) := by
  obtain ⟨hx, hb, hown, hts, hK⟩ := C
  exact va_get (own := RX13) (C := RX13) (T := TX13) (N := 38) (ci := 10) hx hb hts tM_lay hown hK V.1 0 rfl rfl 5 (by decide) (hts _ tMf5) (fun _ h => h) rfl hdg kk
theorem mLd5 {i : Int32} (C : mC p s m args c cc D cs) (V : mV D cs o ad A S H) (hin : vp_in i 240) (hdg : decode cc pc = .ok (.iaload, 1)) (kk : W p l e R s m args below meth c H locs cells slots Q (F0 m (pc + 1) ls (.int (gA S 5 i) :: rest))) : W p l e R s m args below meth c H locs cells slots Q (F0 m pc ls (.int i :: .ref (ad 5) :: rest)) := by
  obtain ⟨hx, hb, hown, hts, hK⟩ := C
  refine va_iald hx hb hK V.1 3 0 rfl rfl hin hdg ?_
  have hb9 := nI_back hin
  rw [hb9]; exact kk
theorem mSt5 {i : Int32} {x : Int32} (C : mC p s m args c cc D cs) (V : mV D cs o ad A S H) (hS : va_S A H0 H locs) (hin : vp_in i 240) (hdg : decode cc pc = .ok (.iastore, 1)) (kk : ∀ (S1 : mS) (H1 : Heap) (locs1 : List Loc), S1 = sA S 5 i (x) → mV D cs o ad A S1 H1 → va_S A H0 H1 locs1 → W p l e R s m args below meth c H1 locs1 cells slots Q (F0 m (pc + 1) ls rest)) : W p l e R s m args below meth c H locs cells slots Q (F0 m pc ls (.int x :: .int i :: .ref (ad 5) :: rest)) := by
  obtain ⟨hx, hb, hown, hts, hK⟩ := C
  exact va_iast hx hb hK V.1 V.2 hS 3 0 rfl rfl hin hdg (fun H1 locs1 hP hD hS1 => kk _ H1 locs1 rfl ⟨mSwap (c2 := (cs.1, 240, .inl (fun j => (sA S 5 i (x)).2.2.1 5 (nI j)))) hP (arr_eq (upd_nI hin (by decide))), V.2.set (p := 3) rfl⟩ hS1)
theorem mG6 (C : mC p s m args c cc D cs) (V : mV D cs o ad A S H) (hdg : decode cc pc = .ok (.getfield 208, 3)) (kk : W p l e R s m args below meth c H locs cells slots Q (F0 m (pc + 3) ls (.int (gI S 6) :: rest))) : W p l e R s m args below meth c H locs cells slots Q (F0 m pc ls (.ref o :: rest)) := by
  obtain ⟨hx, hb, hown, hts, hK⟩ := C
  exact va_get (own := RX13) (C := RX13) (T := TX13) (N := 38) (ci := 10) hx hb hts tM_lay hown hK V.1 0 rfl rfl 6 (by decide) (hts _ tMf6) (fun _ h => h) rfl hdg kk
theorem mP6 {x : Int32} (C : mC p s m args c cc D cs) (V : mV D cs o ad A S H) (hS : va_S A H0 H locs) (hdg : decode cc pc = .ok (.putfield 208, 3)) (kk : ∀ (S1 : mS) (H1 : Heap) (locs1 : List Loc), S1 = sI S 6 x → mV D cs o ad A S1 H1 → va_S A H0 H1 locs1 → W p l e R s m args below meth c H1 locs1 cells slots Q (F0 m (pc + 3) ls rest)) : W p l e R s m args below meth c H locs cells slots Q (F0 m pc ls (.int x :: .ref o :: rest)) := by
  obtain ⟨hx, hb, hown, hts, hK⟩ := C
  exact va_put (own := RX13) (C := RX13) (T := TX13) (N := 38) (ci := 10) (ty := .int) hx hb hts tM_lay tyX13 tyX13_ok nmX13 hown hK V.1 V.2 hS 0 rfl rfl 6 (by decide) (hts _ tMf6) (fun _ h => h) rfl (by decide +kernel) rfl rfl (Nat.le_of_ble_eq_true rfl) hdg (fun H1 locs1 hP hD hS1 => kk _ H1 locs1 rfl ⟨hP, hD⟩ hS1)
theorem mG7 (C : mC p s m args c cc D cs) (V : mV D cs o ad A S H) (hdg : decode cc pc = .ok (.getfield 183, 3)) (kk : W p l e R s m args below meth c H locs cells slots Q (F0 m (pc + 3) ls (.int (gI S 7) :: rest))) : W p l e R s m args below meth c H locs cells slots Q (F0 m pc ls (.ref o :: rest)) := by
  obtain ⟨hx, hb, hown, hts, hK⟩ := C
  exact va_get (own := RX13) (C := RX13) (T := TX13) (N := 38) (ci := 10) hx hb hts tM_lay hown hK V.1 0 rfl rfl 7 (by decide) (hts _ tMf7) (fun _ h => h) rfl hdg kk
theorem mP7 {x : Int32} (C : mC p s m args c cc D cs) (V : mV D cs o ad A S H) (hS : va_S A H0 H locs) (hdg : decode cc pc = .ok (.putfield 183, 3)) (kk : ∀ (S1 : mS) (H1 : Heap) (locs1 : List Loc), S1 = sI S 7 x → mV D cs o ad A S1 H1 → va_S A H0 H1 locs1 → W p l e R s m args below meth c H1 locs1 cells slots Q (F0 m (pc + 3) ls rest)) : W p l e R s m args below meth c H locs cells slots Q (F0 m pc ls (.int x :: .ref o :: rest)) := by
  obtain ⟨hx, hb, hown, hts, hK⟩ := C
  exact va_put (own := RX13) (C := RX13) (T := TX13) (N := 38) (ci := 10) (ty := .int) hx hb hts tM_lay tyX13 tyX13_ok nmX13 hown hK V.1 V.2 hS 0 rfl rfl 7 (by decide) (hts _ tMf7) (fun _ h => h) rfl (by decide +kernel) rfl rfl (Nat.le_of_ble_eq_true rfl) hdg (fun H1 locs1 hP hD hS1 => kk _ H1 locs1 rfl ⟨hP, hD⟩ hS1)
theorem mG8 (C : mC p s m args c cc D cs) (V : mV D cs o ad A S H) (hdg : decode cc pc = .ok (.getfield 189, 3)) (kk : W p l e R s m args below meth c H locs cells slots Q (F0 m (pc + 3) ls (.int (gI S 8) :: rest))) : W p l e R s m args below meth c H locs cells slots Q (F0 m pc ls (.ref o :: rest)) := by
  obtain ⟨hx, hb, hown, hts, hK⟩ := C
  exact va_get (own := RX13) (C := RX13) (T := TX13) (N := 38) (ci := 10) hx hb hts tM_lay hown hK V.1 0 rfl rfl 8 (by decide) (hts _ tMf8) (fun _ h => h) rfl hdg kk
theorem mP8 {x : Int32} (C : mC p s m args c cc D cs) (V : mV D cs o ad A S H) (hS : va_S A H0 H locs) (hdg : decode cc pc = .ok (.putfield 189, 3)) (kk : ∀ (S1 : mS) (H1 : Heap) (locs1 : List Loc), S1 = sI S 8 x → mV D cs o ad A S1 H1 → va_S A H0 H1 locs1 → W p l e R s m args below meth c H1 locs1 cells slots Q (F0 m (pc + 3) ls rest)) : W p l e R s m args below meth c H locs cells slots Q (F0 m pc ls (.int x :: .ref o :: rest)) := by
  obtain ⟨hx, hb, hown, hts, hK⟩ := C
  exact va_put (own := RX13) (C := RX13) (T := TX13) (N := 38) (ci := 10) (ty := .int) hx hb hts tM_lay tyX13 tyX13_ok nmX13 hown hK V.1 V.2 hS 0 rfl rfl 8 (by decide) (hts _ tMf8) (fun _ h => h) rfl (by decide +kernel) rfl rfl (Nat.le_of_ble_eq_true rfl) hdg (fun H1 locs1 hP hD hS1 => kk _ H1 locs1 rfl ⟨hP, hD⟩ hS1)
theorem mG9 (C : mC p s m args c cc D cs) (V : mV D cs o ad A S H) (hdg : decode cc pc = .ok (.getfield 192, 3)) (kk : W p l e R s m args below meth c H locs cells slots Q (F0 m (pc + 3) ls (.int (gI S 9) :: rest))) : W p l e R s m args below meth c H locs cells slots Q (F0 m pc ls (.ref o :: rest)) := by
  obtain ⟨hx, hb, hown, hts, hK⟩ := C
  exact va_get (own := RX13) (C := RX13) (T := TX13) (N := 38) (ci := 10) hx hb hts tM_lay hown hK V.1 0 rfl rfl 9 (by decide) (hts _ tMf9) (fun _ h => h) rfl hdg kk
theorem mP9 {x : Int32} (C : mC p s m args c cc D cs) (V : mV D cs o ad A S H) (hS : va_S A H0 H locs) (hdg : decode cc pc = .ok (.putfield 192, 3)) (kk : ∀ (S1 : mS) (H1 : Heap) (locs1 : List Loc), S1 = sI S 9 x → mV D cs o ad A S1 H1 → va_S A H0 H1 locs1 → W p l e R s m args below meth c H1 locs1 cells slots Q (F0 m (pc + 3) ls rest)) : W p l e R s m args below meth c H locs cells slots Q (F0 m pc ls (.int x :: .ref o :: rest)) := by
  obtain ⟨hx, hb, hown, hts, hK⟩ := C
  exact va_put (own := RX13) (C := RX13) (T := TX13) (N := 38) (ci := 10) (ty := .int) hx hb hts tM_lay tyX13 tyX13_ok nmX13 hown hK V.1 V.2 hS 0 rfl rfl 9 (by decide) (hts _ tMf9) (fun _ h => h) rfl (by decide +kernel) rfl rfl (Nat.le_of_ble_eq_true rfl) hdg (fun H1 locs1 hP hD hS1 => kk _ H1 locs1 rfl ⟨hP, hD⟩ hS1)
theorem mG10 (C : mC p s m args c cc D cs) (V : mV D cs o ad A S H) (hdg : decode cc pc = .ok (.getfield 186, 3)) (kk : W p l e R s m args below meth c H locs cells slots Q (F0 m (pc + 3) ls (.int (gI S 10) :: rest))) : W p l e R s m args below meth c H locs cells slots Q (F0 m pc ls (.ref o :: rest)) := by
  obtain ⟨hx, hb, hown, hts, hK⟩ := C
  exact va_get (own := RX13) (C := RX13) (T := TX13) (N := 38) (ci := 10) hx hb hts tM_lay hown hK V.1 0 rfl rfl 10 (by decide) (hts _ tMf10) (fun _ h => h) rfl hdg kk
theorem mP10 {x : Int32} (C : mC p s m args c cc D cs) (V : mV D cs o ad A S H) (hS : va_S A H0 H locs) (hdg : decode cc pc = .ok (.putfield 186, 3)) (kk : ∀ (S1 : mS) (H1 : Heap) (locs1 : List Loc), S1 = sI S 10 x → mV D cs o ad A S1 H1 → va_S A H0 H1 locs1 → W p l e R s m args below meth c H1 locs1 cells slots Q (F0 m (pc + 3) ls rest)) : W p l e R s m args below meth c H locs cells slots Q (F0 m pc ls (.int x :: .ref o :: rest)) := by
  obtain ⟨hx, hb, hown, hts, hK⟩ := C
  exact va_put (own := RX13) (C := RX13) (T := TX13) (N := 38) (ci := 10) (ty := .int) hx hb hts tM_lay tyX13 tyX13_ok nmX13 hown hK V.1 V.2 hS 0 rfl rfl 10 (by decide) (hts _ tMf10) (fun _ h => h) rfl (by decide +kernel) rfl rfl (Nat.le_of_ble_eq_true rfl) hdg (fun H1 locs1 hP hD hS1 => kk _ H1 locs1 rfl ⟨hP, hD⟩ hS1)
theorem mG11 (C : mC p s m args c cc D cs) (V : mV D cs o ad A S H) (hdg : decode cc pc = .ok (.getfield 92, 3)) (kk : W p l e R s m args below meth c H locs cells slots Q (F0 m (pc + 3) ls (.ref (ad 11) :: rest))) : W p l e R s m args below meth c H locs cells slots Q (F0 m pc ls (.ref o :: rest)) := by
  obtain ⟨hx, hb, hown, hts, hK⟩ := C
  exact va_get (own := RX13) (C := RX13) (T := TX13) (N := 38) (ci := 10) hx hb hts tM_lay hown hK V.1 0 rfl rfl 11 (by decide) (hts _ tMf11) (fun _ h => h) rfl hdg kk
theorem mLd11 {i : Int32} (C : mC p s m args c cc D cs) (V : mV D cs o ad A S H) (hin : vp_in i 1920) (hdg : decode cc pc = .ok (.iaload, 1)) (kk : W p l e R s m args below meth c H locs cells slots Q (F0 m (pc + 1) ls (.int (gA S 11 i) :: rest))) : W p l e R s m args below meth c H locs cells slots Q (F0 m pc ls (.int i :: .ref (ad 11) :: rest)) := by
  obtain ⟨hx, hb, hown, hts, hK⟩ := C
  refine va_iald hx hb hK V.1 4 0 rfl rfl hin hdg ?_
  have hb9 := nI_back hin
  rw [hb9]; exact kk
theorem mSt11 {i : Int32} {x : Int32} (C : mC p s m args c cc D cs) (V : mV D cs o ad A S H) (hS : va_S A H0 H locs) (hin : vp_in i 1920) (hdg : decode cc pc = .ok (.iastore, 1)) (kk : ∀ (S1 : mS) (H1 : Heap) (locs1 : List Loc), S1 = sA S 11 i (x) → mV D cs o ad A S1 H1 → va_S A H0 H1 locs1 → W p l e R s m args below meth c H1 locs1 cells slots Q (F0 m (pc + 1) ls rest)) : W p l e R s m args below meth c H locs cells slots Q (F0 m pc ls (.int x :: .int i :: .ref (ad 11) :: rest)) := by
  obtain ⟨hx, hb, hown, hts, hK⟩ := C
  exact va_iast hx hb hK V.1 V.2 hS 4 0 rfl rfl hin hdg (fun H1 locs1 hP hD hS1 => kk _ H1 locs1 rfl ⟨mSwap (c2 := (cs.1, 1920, .inl (fun j => (sA S 11 i (x)).2.2.1 11 (nI j)))) hP (arr_eq (upd_nI hin (by decide))), V.2.set (p := 4) rfl⟩ hS1)
theorem mG12 (C : mC p s m args c cc D cs) (V : mV D cs o ad A S H) (hdg : decode cc pc = .ok (.getfield 95, 3)) (kk : W p l e R s m args below meth c H locs cells slots Q (F0 m (pc + 3) ls (.ref (ad 12) :: rest))) : W p l e R s m args below meth c H locs cells slots Q (F0 m pc ls (.ref o :: rest)) := by
  obtain ⟨hx, hb, hown, hts, hK⟩ := C
  exact va_get (own := RX13) (C := RX13) (T := TX13) (N := 38) (ci := 10) hx hb hts tM_lay hown hK V.1 0 rfl rfl 12 (by decide) (hts _ tMf12) (fun _ h => h) rfl hdg kk
theorem mLd12 {i : Int32} (C : mC p s m args c cc D cs) (V : mV D cs o ad A S H) (hin : vp_in i 8) (hdg : decode cc pc = .ok (.iaload, 1)) (kk : W p l e R s m args below meth c H locs cells slots Q (F0 m (pc + 1) ls (.int (gA S 12 i) :: rest))) : W p l e R s m args below meth c H locs cells slots Q (F0 m pc ls (.int i :: .ref (ad 12) :: rest)) := by
  obtain ⟨hx, hb, hown, hts, hK⟩ := C
  refine va_iald hx hb hK V.1 5 0 rfl rfl hin hdg ?_
  have hb9 := nI_back hin
  rw [hb9]; exact kk
theorem mSt12 {i : Int32} {x : Int32} (C : mC p s m args c cc D cs) (V : mV D cs o ad A S H) (hS : va_S A H0 H locs) (hin : vp_in i 8) (hdg : decode cc pc = .ok (.iastore, 1)) (kk : ∀ (S1 : mS) (H1 : Heap) (locs1 : List Loc), S1 = sA S 12 i (x) → mV D cs o ad A S1 H1 → va_S A H0 H1 locs1 → W p l e R s m args below meth c H1 locs1 cells slots Q (F0 m (pc + 1) ls rest)) : W p l e R s m args below meth c H locs cells slots Q (F0 m pc ls (.int x :: .int i :: .ref (ad 12) :: rest)) := by
  obtain ⟨hx, hb, hown, hts, hK⟩ := C
  exact va_iast hx hb hK V.1 V.2 hS 5 0 rfl rfl hin hdg (fun H1 locs1 hP hD hS1 => kk _ H1 locs1 rfl ⟨mSwap (c2 := (cs.1, 8, .inl (fun j => (sA S 12 i (x)).2.2.1 12 (nI j)))) hP (arr_eq (upd_nI hin (by decide))), V.2.set (p := 5) rfl⟩ hS1)
theorem mG13 (C : mC p s m args c cc D cs) (V : mV D cs o ad A S H) (hdg : decode cc pc = .ok (.getfield 98, 3)) (kk : W p l e R s m args below meth c H locs cells slots Q (F0 m (pc + 3) ls (.ref (ad 13) :: rest))) : W p l e R s m args below meth c H locs cells slots Q (F0 m pc ls (.ref o :: rest)) := by
  obtain ⟨hx, hb, hown, hts, hK⟩ := C
  exact va_get (own := RX13) (C := RX13) (T := TX13) (N := 38) (ci := 10) hx hb hts tM_lay hown hK V.1 0 rfl rfl 13 (by decide) (hts _ tMf13) (fun _ h => h) rfl hdg kk
theorem mLd13 {i : Int32} (C : mC p s m args c cc D cs) (V : mV D cs o ad A S H) (hin : vp_in i 8) (hdg : decode cc pc = .ok (.iaload, 1)) (kk : W p l e R s m args below meth c H locs cells slots Q (F0 m (pc + 1) ls (.int (gA S 13 i) :: rest))) : W p l e R s m args below meth c H locs cells slots Q (F0 m pc ls (.int i :: .ref (ad 13) :: rest)) := by
  obtain ⟨hx, hb, hown, hts, hK⟩ := C
  refine va_iald hx hb hK V.1 6 0 rfl rfl hin hdg ?_
  have hb9 := nI_back hin
  rw [hb9]; exact kk
theorem mSt13 {i : Int32} {x : Int32} (C : mC p s m args c cc D cs) (V : mV D cs o ad A S H) (hS : va_S A H0 H locs) (hin : vp_in i 8) (hdg : decode cc pc = .ok (.iastore, 1)) (kk : ∀ (S1 : mS) (H1 : Heap) (locs1 : List Loc), S1 = sA S 13 i (x) → mV D cs o ad A S1 H1 → va_S A H0 H1 locs1 → W p l e R s m args below meth c H1 locs1 cells slots Q (F0 m (pc + 1) ls rest)) : W p l e R s m args below meth c H locs cells slots Q (F0 m pc ls (.int x :: .int i :: .ref (ad 13) :: rest)) := by
  obtain ⟨hx, hb, hown, hts, hK⟩ := C
  exact va_iast hx hb hK V.1 V.2 hS 6 0 rfl rfl hin hdg (fun H1 locs1 hP hD hS1 => kk _ H1 locs1 rfl ⟨mSwap (c2 := (cs.1, 8, .inl (fun j => (sA S 13 i (x)).2.2.1 13 (nI j)))) hP (arr_eq (upd_nI hin (by decide))), V.2.set (p := 6) rfl⟩ hS1)
theorem mG14 (C : mC p s m args c cc D cs) (V : mV D cs o ad A S H) (hdg : decode cc pc = .ok (.getfield 101, 3)) (kk : W p l e R s m args below meth c H locs cells slots Q (F0 m (pc + 3) ls (.ref (ad 14) :: rest))) : W p l e R s m args below meth c H locs cells slots Q (F0 m pc ls (.ref o :: rest)) := by
  obtain ⟨hx, hb, hown, hts, hK⟩ := C
  exact va_get (own := RX13) (C := RX13) (T := TX13) (N := 38) (ci := 10) hx hb hts tM_lay hown hK V.1 0 rfl rfl 14 (by decide) (hts _ tMf14) (fun _ h => h) rfl hdg kk
theorem mLd14 {i : Int32} (C : mC p s m args c cc D cs) (V : mV D cs o ad A S H) (hin : vp_in i 8) (hdg : decode cc pc = .ok (.iaload, 1)) (kk : W p l e R s m args below meth c H locs cells slots Q (F0 m (pc + 1) ls (.int (gA S 14 i) :: rest))) : W p l e R s m args below meth c H locs cells slots Q (F0 m pc ls (.int i :: .ref (ad 14) :: rest)) := by
  obtain ⟨hx, hb, hown, hts, hK⟩ := C
  refine va_iald hx hb hK V.1 7 0 rfl rfl hin hdg ?_
  have hb9 := nI_back hin
  rw [hb9]; exact kk
theorem mSt14 {i : Int32} {x : Int32} (C : mC p s m args c cc D cs) (V : mV D cs o ad A S H) (hS : va_S A H0 H locs) (hin : vp_in i 8) (hdg : decode cc pc = .ok (.iastore, 1)) (kk : ∀ (S1 : mS) (H1 : Heap) (locs1 : List Loc), S1 = sA S 14 i (x) → mV D cs o ad A S1 H1 → va_S A H0 H1 locs1 → W p l e R s m args below meth c H1 locs1 cells slots Q (F0 m (pc + 1) ls rest)) : W p l e R s m args below meth c H locs cells slots Q (F0 m pc ls (.int x :: .int i :: .ref (ad 14) :: rest)) := by
  obtain ⟨hx, hb, hown, hts, hK⟩ := C
  exact va_iast hx hb hK V.1 V.2 hS 7 0 rfl rfl hin hdg (fun H1 locs1 hP hD hS1 => kk _ H1 locs1 rfl ⟨mSwap (c2 := (cs.1, 8, .inl (fun j => (sA S 14 i (x)).2.2.1 14 (nI j)))) hP (arr_eq (upd_nI hin (by decide))), V.2.set (p := 7) rfl⟩ hS1)
theorem mG15 (C : mC p s m args c cc D cs) (V : mV D cs o ad A S H) (hdg : decode cc pc = .ok (.getfield 104, 3)) (kk : W p l e R s m args below meth c H locs cells slots Q (F0 m (pc + 3) ls (.ref (ad 15) :: rest))) : W p l e R s m args below meth c H locs cells slots Q (F0 m pc ls (.ref o :: rest)) := by
  obtain ⟨hx, hb, hown, hts, hK⟩ := C
  exact va_get (own := RX13) (C := RX13) (T := TX13) (N := 38) (ci := 10) hx hb hts tM_lay hown hK V.1 0 rfl rfl 15 (by decide) (hts _ tMf15) (fun _ h => h) rfl hdg kk
theorem mLd15 {i : Int32} (C : mC p s m args c cc D cs) (V : mV D cs o ad A S H) (hin : vp_in i 8) (hdg : decode cc pc = .ok (.iaload, 1)) (kk : W p l e R s m args below meth c H locs cells slots Q (F0 m (pc + 1) ls (.int (gA S 15 i) :: rest))) : W p l e R s m args below meth c H locs cells slots Q (F0 m pc ls (.int i :: .ref (ad 15) :: rest)) := by
  obtain ⟨hx, hb, hown, hts, hK⟩ := C
  refine va_iald hx hb hK V.1 8 0 rfl rfl hin hdg ?_
  have hb9 := nI_back hin
  rw [hb9]; exact kk
theorem mSt15 {i : Int32} {x : Int32} (C : mC p s m args c cc D cs) (V : mV D cs o ad A S H) (hS : va_S A H0 H locs) (hin : vp_in i 8) (hdg : decode cc pc = .ok (.iastore, 1)) (kk : ∀ (S1 : mS) (H1 : Heap) (locs1 : List Loc), S1 = sA S 15 i (x) → mV D cs o ad A S1 H1 → va_S A H0 H1 locs1 → W p l e R s m args below meth c H1 locs1 cells slots Q (F0 m (pc + 1) ls rest)) : W p l e R s m args below meth c H locs cells slots Q (F0 m pc ls (.int x :: .int i :: .ref (ad 15) :: rest)) := by
  obtain ⟨hx, hb, hown, hts, hK⟩ := C
  exact va_iast hx hb hK V.1 V.2 hS 8 0 rfl rfl hin hdg (fun H1 locs1 hP hD hS1 => kk _ H1 locs1 rfl ⟨mSwap (c2 := (cs.1, 8, .inl (fun j => (sA S 15 i (x)).2.2.1 15 (nI j)))) hP (arr_eq (upd_nI hin (by decide))), V.2.set (p := 8) rfl⟩ hS1)
theorem mG16 (C : mC p s m args c cc D cs) (V : mV D cs o ad A S H) (hdg : decode cc pc = .ok (.getfield 107, 3)) (kk : W p l e R s m args below meth c H locs cells slots Q (F0 m (pc + 3) ls (.ref (ad 16) :: rest))) : W p l e R s m args below meth c H locs cells slots Q (F0 m pc ls (.ref o :: rest)) := by
  obtain ⟨hx, hb, hown, hts, hK⟩ := C
  exact va_get (own := RX13) (C := RX13) (T := TX13) (N := 38) (ci := 10) hx hb hts tM_lay hown hK V.1 0 rfl rfl 16 (by decide) (hts _ tMf16) (fun _ h => h) rfl hdg kk
theorem mLd16 {i : Int32} (C : mC p s m args c cc D cs) (V : mV D cs o ad A S H) (hin : vp_in i 8) (hdg : decode cc pc = .ok (.iaload, 1)) (kk : W p l e R s m args below meth c H locs cells slots Q (F0 m (pc + 1) ls (.int (gA S 16 i) :: rest))) : W p l e R s m args below meth c H locs cells slots Q (F0 m pc ls (.int i :: .ref (ad 16) :: rest)) := by
  obtain ⟨hx, hb, hown, hts, hK⟩ := C
  refine va_iald hx hb hK V.1 9 0 rfl rfl hin hdg ?_
  have hb9 := nI_back hin
  rw [hb9]; exact kk
theorem mSt16 {i : Int32} {x : Int32} (C : mC p s m args c cc D cs) (V : mV D cs o ad A S H) (hS : va_S A H0 H locs) (hin : vp_in i 8) (hdg : decode cc pc = .ok (.iastore, 1)) (kk : ∀ (S1 : mS) (H1 : Heap) (locs1 : List Loc), S1 = sA S 16 i (x) → mV D cs o ad A S1 H1 → va_S A H0 H1 locs1 → W p l e R s m args below meth c H1 locs1 cells slots Q (F0 m (pc + 1) ls rest)) : W p l e R s m args below meth c H locs cells slots Q (F0 m pc ls (.int x :: .int i :: .ref (ad 16) :: rest)) := by
  obtain ⟨hx, hb, hown, hts, hK⟩ := C
  exact va_iast hx hb hK V.1 V.2 hS 9 0 rfl rfl hin hdg (fun H1 locs1 hP hD hS1 => kk _ H1 locs1 rfl ⟨mSwap (c2 := (cs.1, 8, .inl (fun j => (sA S 16 i (x)).2.2.1 16 (nI j)))) hP (arr_eq (upd_nI hin (by decide))), V.2.set (p := 9) rfl⟩ hS1)
theorem mG17 (C : mC p s m args c cc D cs) (V : mV D cs o ad A S H) (hdg : decode cc pc = .ok (.getfield 110, 3)) (kk : W p l e R s m args below meth c H locs cells slots Q (F0 m (pc + 3) ls (.ref (ad 17) :: rest))) : W p l e R s m args below meth c H locs cells slots Q (F0 m pc ls (.ref o :: rest)) := by
  obtain ⟨hx, hb, hown, hts, hK⟩ := C
  exact va_get (own := RX13) (C := RX13) (T := TX13) (N := 38) (ci := 10) hx hb hts tM_lay hown hK V.1 0 rfl rfl 17 (by decide) (hts _ tMf17) (fun _ h => h) rfl hdg kk
theorem mLd17 {i : Int32} (C : mC p s m args c cc D cs) (V : mV D cs o ad A S H) (hin : vp_in i 8) (hdg : decode cc pc = .ok (.iaload, 1)) (kk : W p l e R s m args below meth c H locs cells slots Q (F0 m (pc + 1) ls (.int (gA S 17 i) :: rest))) : W p l e R s m args below meth c H locs cells slots Q (F0 m pc ls (.int i :: .ref (ad 17) :: rest)) := by
  obtain ⟨hx, hb, hown, hts, hK⟩ := C
  refine va_iald hx hb hK V.1 10 0 rfl rfl hin hdg ?_
  have hb9 := nI_back hin
  rw [hb9]; exact kk
theorem mSt17 {i : Int32} {x : Int32} (C : mC p s m args c cc D cs) (V : mV D cs o ad A S H) (hS : va_S A H0 H locs) (hin : vp_in i 8) (hdg : decode cc pc = .ok (.iastore, 1)) (kk : ∀ (S1 : mS) (H1 : Heap) (locs1 : List Loc), S1 = sA S 17 i (x) → mV D cs o ad A S1 H1 → va_S A H0 H1 locs1 → W p l e R s m args below meth c H1 locs1 cells slots Q (F0 m (pc + 1) ls rest)) : W p l e R s m args below meth c H locs cells slots Q (F0 m pc ls (.int x :: .int i :: .ref (ad 17) :: rest)) := by
  obtain ⟨hx, hb, hown, hts, hK⟩ := C
  exact va_iast hx hb hK V.1 V.2 hS 10 0 rfl rfl hin hdg (fun H1 locs1 hP hD hS1 => kk _ H1 locs1 rfl ⟨mSwap (c2 := (cs.1, 8, .inl (fun j => (sA S 17 i (x)).2.2.1 17 (nI j)))) hP (arr_eq (upd_nI hin (by decide))), V.2.set (p := 10) rfl⟩ hS1)
theorem mG18 (C : mC p s m args c cc D cs) (V : mV D cs o ad A S H) (hdg : decode cc pc = .ok (.getfield 113, 3)) (kk : W p l e R s m args below meth c H locs cells slots Q (F0 m (pc + 3) ls (.ref (ad 18) :: rest))) : W p l e R s m args below meth c H locs cells slots Q (F0 m pc ls (.ref o :: rest)) := by
  obtain ⟨hx, hb, hown, hts, hK⟩ := C
  exact va_get (own := RX13) (C := RX13) (T := TX13) (N := 38) (ci := 10) hx hb hts tM_lay hown hK V.1 0 rfl rfl 18 (by decide) (hts _ tMf18) (fun _ h => h) rfl hdg kk
theorem mLd18 {i : Int32} (C : mC p s m args c cc D cs) (V : mV D cs o ad A S H) (hin : vp_in i 8) (hdg : decode cc pc = .ok (.iaload, 1)) (kk : W p l e R s m args below meth c H locs cells slots Q (F0 m (pc + 1) ls (.int (gA S 18 i) :: rest))) : W p l e R s m args below meth c H locs cells slots Q (F0 m pc ls (.int i :: .ref (ad 18) :: rest)) := by
  obtain ⟨hx, hb, hown, hts, hK⟩ := C
  refine va_iald hx hb hK V.1 11 0 rfl rfl hin hdg ?_
  have hb9 := nI_back hin
  rw [hb9]; exact kk
theorem mSt18 {i : Int32} {x : Int32} (C : mC p s m args c cc D cs) (V : mV D cs o ad A S H) (hS : va_S A H0 H locs) (hin : vp_in i 8) (hdg : decode cc pc = .ok (.iastore, 1)) (kk : ∀ (S1 : mS) (H1 : Heap) (locs1 : List Loc), S1 = sA S 18 i (x) → mV D cs o ad A S1 H1 → va_S A H0 H1 locs1 → W p l e R s m args below meth c H1 locs1 cells slots Q (F0 m (pc + 1) ls rest)) : W p l e R s m args below meth c H locs cells slots Q (F0 m pc ls (.int x :: .int i :: .ref (ad 18) :: rest)) := by
  obtain ⟨hx, hb, hown, hts, hK⟩ := C
  exact va_iast hx hb hK V.1 V.2 hS 11 0 rfl rfl hin hdg (fun H1 locs1 hP hD hS1 => kk _ H1 locs1 rfl ⟨mSwap (c2 := (cs.1, 8, .inl (fun j => (sA S 18 i (x)).2.2.1 18 (nI j)))) hP (arr_eq (upd_nI hin (by decide))), V.2.set (p := 11) rfl⟩ hS1)
theorem mG19 (C : mC p s m args c cc D cs) (V : mV D cs o ad A S H) (hdg : decode cc pc = .ok (.getfield 116, 3)) (kk : W p l e R s m args below meth c H locs cells slots Q (F0 m (pc + 3) ls (.ref (ad 19) :: rest))) : W p l e R s m args below meth c H locs cells slots Q (F0 m pc ls (.ref o :: rest)) := by
  obtain ⟨hx, hb, hown, hts, hK⟩ := C
  exact va_get (own := RX13) (C := RX13) (T := TX13) (N := 38) (ci := 10) hx hb hts tM_lay hown hK V.1 0 rfl rfl 19 (by decide) (hts _ tMf19) (fun _ h => h) rfl hdg kk
theorem mLd19 {i : Int32} (C : mC p s m args c cc D cs) (V : mV D cs o ad A S H) (hin : vp_in i 8) (hdg : decode cc pc = .ok (.iaload, 1)) (kk : W p l e R s m args below meth c H locs cells slots Q (F0 m (pc + 1) ls (.int (gA S 19 i) :: rest))) : W p l e R s m args below meth c H locs cells slots Q (F0 m pc ls (.int i :: .ref (ad 19) :: rest)) := by
  obtain ⟨hx, hb, hown, hts, hK⟩ := C
  refine va_iald hx hb hK V.1 12 0 rfl rfl hin hdg ?_
  have hb9 := nI_back hin
  rw [hb9]; exact kk
theorem mSt19 {i : Int32} {x : Int32} (C : mC p s m args c cc D cs) (V : mV D cs o ad A S H) (hS : va_S A H0 H locs) (hin : vp_in i 8) (hdg : decode cc pc = .ok (.iastore, 1)) (kk : ∀ (S1 : mS) (H1 : Heap) (locs1 : List Loc), S1 = sA S 19 i (x) → mV D cs o ad A S1 H1 → va_S A H0 H1 locs1 → W p l e R s m args below meth c H1 locs1 cells slots Q (F0 m (pc + 1) ls rest)) : W p l e R s m args below meth c H locs cells slots Q (F0 m pc ls (.int x :: .int i :: .ref (ad 19) :: rest)) := by
  obtain ⟨hx, hb, hown, hts, hK⟩ := C
  exact va_iast hx hb hK V.1 V.2 hS 12 0 rfl rfl hin hdg (fun H1 locs1 hP hD hS1 => kk _ H1 locs1 rfl ⟨mSwap (c2 := (cs.1, 8, .inl (fun j => (sA S 19 i (x)).2.2.1 19 (nI j)))) hP (arr_eq (upd_nI hin (by decide))), V.2.set (p := 12) rfl⟩ hS1)
theorem mG20 (C : mC p s m args c cc D cs) (V : mV D cs o ad A S H) (hdg : decode cc pc = .ok (.getfield 119, 3)) (kk : W p l e R s m args below meth c H locs cells slots Q (F0 m (pc + 3) ls (.ref (ad 20) :: rest))) : W p l e R s m args below meth c H locs cells slots Q (F0 m pc ls (.ref o :: rest)) := by
  obtain ⟨hx, hb, hown, hts, hK⟩ := C
  exact va_get (own := RX13) (C := RX13) (T := TX13) (N := 38) (ci := 10) hx hb hts tM_lay hown hK V.1 0 rfl rfl 20 (by decide) (hts _ tMf20) (fun _ h => h) rfl hdg kk
theorem mLd20 {i : Int32} (C : mC p s m args c cc D cs) (V : mV D cs o ad A S H) (hin : vp_in i 8) (hdg : decode cc pc = .ok (.baload, 1)) (kk : W p l e R s m args below meth c H locs cells slots Q (F0 m (pc + 1) ls (.int (gA S 20 i) :: rest))) : W p l e R s m args below meth c H locs cells slots Q (F0 m pc ls (.int i :: .ref (ad 20) :: rest)) := by
  obtain ⟨hx, hb, hown, hts, hK⟩ := C
  refine va_zald hx hb hK V.1 13 2 rfl rfl hin hdg ?_
  have hb9 := nI_back hin
  rw [hb9]; exact kk
theorem mSt20 {i : Int32} {x : Int32} (C : mC p s m args c cc D cs) (V : mV D cs o ad A S H) (hS : va_S A H0 H locs) (hin : vp_in i 8) (hdg : decode cc pc = .ok (.bastore, 1)) (kk : ∀ (S1 : mS) (H1 : Heap) (locs1 : List Loc), S1 = sA S 20 i (vp_nar .boolean x) → mV D cs o ad A S1 H1 → va_S A H0 H1 locs1 → W p l e R s m args below meth c H1 locs1 cells slots Q (F0 m (pc + 1) ls rest)) : W p l e R s m args below meth c H locs cells slots Q (F0 m pc ls (.int x :: .int i :: .ref (ad 20) :: rest)) := by
  obtain ⟨hx, hb, hown, hts, hK⟩ := C
  exact va_zast hx hb hK V.1 V.2 hS 13 2 rfl rfl hin hdg (fun H1 locs1 hP hD hS1 => kk _ H1 locs1 rfl ⟨mSwap (c2 := (cs.2.2, 8, .inl (fun j => (sA S 20 i (vp_nar .boolean x)).2.2.1 20 (nI j)))) hP (arr_eq (upd_nI hin (by decide))), V.2.set (p := 13) rfl⟩ hS1)
theorem mG21 (C : mC p s m args c cc D cs) (V : mV D cs o ad A S H) (hdg : decode cc pc = .ok (.getfield 123, 3)) (kk : W p l e R s m args below meth c H locs cells slots Q (F0 m (pc + 3) ls (.ref (ad 21) :: rest))) : W p l e R s m args below meth c H locs cells slots Q (F0 m pc ls (.ref o :: rest)) := by
  obtain ⟨hx, hb, hown, hts, hK⟩ := C
  exact va_get (own := RX13) (C := RX13) (T := TX13) (N := 38) (ci := 10) hx hb hts tM_lay hown hK V.1 0 rfl rfl 21 (by decide) (hts _ tMf21) (fun _ h => h) rfl hdg kk
theorem mLd21 {i : Int32} (C : mC p s m args c cc D cs) (V : mV D cs o ad A S H) (hin : vp_in i 8) (hdg : decode cc pc = .ok (.baload, 1)) (kk : W p l e R s m args below meth c H locs cells slots Q (F0 m (pc + 1) ls (.int (gA S 21 i) :: rest))) : W p l e R s m args below meth c H locs cells slots Q (F0 m pc ls (.int i :: .ref (ad 21) :: rest)) := by
  obtain ⟨hx, hb, hown, hts, hK⟩ := C
  refine va_zald hx hb hK V.1 14 2 rfl rfl hin hdg ?_
  have hb9 := nI_back hin
  rw [hb9]; exact kk
theorem mSt21 {i : Int32} {x : Int32} (C : mC p s m args c cc D cs) (V : mV D cs o ad A S H) (hS : va_S A H0 H locs) (hin : vp_in i 8) (hdg : decode cc pc = .ok (.bastore, 1)) (kk : ∀ (S1 : mS) (H1 : Heap) (locs1 : List Loc), S1 = sA S 21 i (vp_nar .boolean x) → mV D cs o ad A S1 H1 → va_S A H0 H1 locs1 → W p l e R s m args below meth c H1 locs1 cells slots Q (F0 m (pc + 1) ls rest)) : W p l e R s m args below meth c H locs cells slots Q (F0 m pc ls (.int x :: .int i :: .ref (ad 21) :: rest)) := by
  obtain ⟨hx, hb, hown, hts, hK⟩ := C
  exact va_zast hx hb hK V.1 V.2 hS 14 2 rfl rfl hin hdg (fun H1 locs1 hP hD hS1 => kk _ H1 locs1 rfl ⟨mSwap (c2 := (cs.2.2, 8, .inl (fun j => (sA S 21 i (vp_nar .boolean x)).2.2.1 21 (nI j)))) hP (arr_eq (upd_nI hin (by decide))), V.2.set (p := 14) rfl⟩ hS1)
theorem mG22 (C : mC p s m args c cc D cs) (V : mV D cs o ad A S H) (hdg : decode cc pc = .ok (.getfield 126, 3)) (kk : W p l e R s m args below meth c H locs cells slots Q (F0 m (pc + 3) ls (.ref (ad 22) :: rest))) : W p l e R s m args below meth c H locs cells slots Q (F0 m pc ls (.ref o :: rest)) := by
  obtain ⟨hx, hb, hown, hts, hK⟩ := C
  exact va_get (own := RX13) (C := RX13) (T := TX13) (N := 38) (ci := 10) hx hb hts tM_lay hown hK V.1 0 rfl rfl 22 (by decide) (hts _ tMf22) (fun _ h => h) rfl hdg kk
theorem mLd22 {i : Int32} (C : mC p s m args c cc D cs) (V : mV D cs o ad A S H) (hin : vp_in i 8) (hdg : decode cc pc = .ok (.baload, 1)) (kk : W p l e R s m args below meth c H locs cells slots Q (F0 m (pc + 1) ls (.int (gA S 22 i) :: rest))) : W p l e R s m args below meth c H locs cells slots Q (F0 m pc ls (.int i :: .ref (ad 22) :: rest)) := by
  obtain ⟨hx, hb, hown, hts, hK⟩ := C
  refine va_zald hx hb hK V.1 15 2 rfl rfl hin hdg ?_
  have hb9 := nI_back hin
  rw [hb9]; exact kk
theorem mSt22 {i : Int32} {x : Int32} (C : mC p s m args c cc D cs) (V : mV D cs o ad A S H) (hS : va_S A H0 H locs) (hin : vp_in i 8) (hdg : decode cc pc = .ok (.bastore, 1)) (kk : ∀ (S1 : mS) (H1 : Heap) (locs1 : List Loc), S1 = sA S 22 i (vp_nar .boolean x) → mV D cs o ad A S1 H1 → va_S A H0 H1 locs1 → W p l e R s m args below meth c H1 locs1 cells slots Q (F0 m (pc + 1) ls rest)) : W p l e R s m args below meth c H locs cells slots Q (F0 m pc ls (.int x :: .int i :: .ref (ad 22) :: rest)) := by
  obtain ⟨hx, hb, hown, hts, hK⟩ := C
  exact va_zast hx hb hK V.1 V.2 hS 15 2 rfl rfl hin hdg (fun H1 locs1 hP hD hS1 => kk _ H1 locs1 rfl ⟨mSwap (c2 := (cs.2.2, 8, .inl (fun j => (sA S 22 i (vp_nar .boolean x)).2.2.1 22 (nI j)))) hP (arr_eq (upd_nI hin (by decide))), V.2.set (p := 15) rfl⟩ hS1)
theorem mG23 (C : mC p s m args c cc D cs) (V : mV D cs o ad A S H) (hdg : decode cc pc = .ok (.getfield 129, 3)) (kk : W p l e R s m args below meth c H locs cells slots Q (F0 m (pc + 3) ls (.ref (ad 23) :: rest))) : W p l e R s m args below meth c H locs cells slots Q (F0 m pc ls (.ref o :: rest)) := by
  obtain ⟨hx, hb, hown, hts, hK⟩ := C
  exact va_get (own := RX13) (C := RX13) (T := TX13) (N := 38) (ci := 10) hx hb hts tM_lay hown hK V.1 0 rfl rfl 23 (by decide) (hts _ tMf23) (fun _ h => h) rfl hdg kk
theorem mLd23 {i : Int32} (C : mC p s m args c cc D cs) (V : mV D cs o ad A S H) (hin : vp_in i 8) (hdg : decode cc pc = .ok (.laload, 1)) (kk : W p l e R s m args below meth c H locs cells slots Q (F0 m (pc + 1) ls (.long (gL S 23 i) :: rest))) : W p l e R s m args below meth c H locs cells slots Q (F0 m pc ls (.int i :: .ref (ad 23) :: rest)) := by
  obtain ⟨hx, hb, hown, hts, hK⟩ := C
  refine va_lald hx hb hK V.1 16 1 rfl rfl hin hdg ?_
  have hb9 := nI_back hin
  rw [hb9]; exact kk
theorem mSt23 {i : Int32} {x : Int64} (C : mC p s m args c cc D cs) (V : mV D cs o ad A S H) (hS : va_S A H0 H locs) (hin : vp_in i 8) (hdg : decode cc pc = .ok (.lastore, 1)) (kk : ∀ (S1 : mS) (H1 : Heap) (locs1 : List Loc), S1 = sL S 23 i (x) → mV D cs o ad A S1 H1 → va_S A H0 H1 locs1 → W p l e R s m args below meth c H1 locs1 cells slots Q (F0 m (pc + 1) ls rest)) : W p l e R s m args below meth c H locs cells slots Q (F0 m pc ls (.long x :: .int i :: .ref (ad 23) :: rest)) := by
  obtain ⟨hx, hb, hown, hts, hK⟩ := C
  exact va_last hx hb hK V.1 V.2 hS 16 1 rfl rfl hin hdg (fun H1 locs1 hP hD hS1 => kk _ H1 locs1 rfl ⟨mSwap (c2 := (cs.2.1, 8, .inr (.inl (fun j => (sL S 23 i x).2.2.2 23 (nI j))))) hP (arr_eqL (updL_nI hin (by decide))), V.2.set (p := 16) rfl⟩ hS1)
theorem mG24 (C : mC p s m args c cc D cs) (V : mV D cs o ad A S H) (hdg : decode cc pc = .ok (.getfield 255, 3)) (kk : W p l e R s m args below meth c H locs cells slots Q (F0 m (pc + 3) ls (.long (gJ S 24) :: rest))) : W p l e R s m args below meth c H locs cells slots Q (F0 m pc ls (.ref o :: rest)) := by
  obtain ⟨hx, hb, hown, hts, hK⟩ := C
  exact va_get (own := RX13) (C := RX13) (T := TX13) (N := 38) (ci := 10) hx hb hts tM_lay hown hK V.1 0 rfl rfl 24 (by decide) (hts _ tMf24) (fun _ h => h) rfl hdg kk
theorem mP24 {x : Int64} (C : mC p s m args c cc D cs) (V : mV D cs o ad A S H) (hS : va_S A H0 H locs) (hdg : decode cc pc = .ok (.putfield 255, 3)) (kk : ∀ (S1 : mS) (H1 : Heap) (locs1 : List Loc), S1 = sJ S 24 x → mV D cs o ad A S1 H1 → va_S A H0 H1 locs1 → W p l e R s m args below meth c H1 locs1 cells slots Q (F0 m (pc + 3) ls rest)) : W p l e R s m args below meth c H locs cells slots Q (F0 m pc ls (.long x :: .ref o :: rest)) := by
  obtain ⟨hx, hb, hown, hts, hK⟩ := C
  exact va_put (own := RX13) (C := RX13) (T := TX13) (N := 38) (ci := 10) (ty := .long) hx hb hts tM_lay tyX13 tyX13_ok nmX13 hown hK V.1 V.2 hS 0 rfl rfl 24 (by decide) (hts _ tMf24) (fun _ h => h) rfl (by decide +kernel) rfl rfl (Nat.le_of_ble_eq_true rfl) hdg (fun H1 locs1 hP hD hS1 => kk _ H1 locs1 rfl ⟨hP, hD⟩ hS1)
theorem mG25 (C : mC p s m args c cc D cs) (V : mV D cs o ad A S H) (hdg : decode cc pc = .ok (.getfield 245, 3)) (kk : W p l e R s m args below meth c H locs cells slots Q (F0 m (pc + 3) ls (.long (gJ S 25) :: rest))) : W p l e R s m args below meth c H locs cells slots Q (F0 m pc ls (.ref o :: rest)) := by
  obtain ⟨hx, hb, hown, hts, hK⟩ := C
  exact va_get (own := RX13) (C := RX13) (T := TX13) (N := 38) (ci := 10) hx hb hts tM_lay hown hK V.1 0 rfl rfl 25 (by decide) (hts _ tMf25) (fun _ h => h) rfl hdg kk
theorem mP25 {x : Int64} (C : mC p s m args c cc D cs) (V : mV D cs o ad A S H) (hS : va_S A H0 H locs) (hdg : decode cc pc = .ok (.putfield 245, 3)) (kk : ∀ (S1 : mS) (H1 : Heap) (locs1 : List Loc), S1 = sJ S 25 x → mV D cs o ad A S1 H1 → va_S A H0 H1 locs1 → W p l e R s m args below meth c H1 locs1 cells slots Q (F0 m (pc + 3) ls rest)) : W p l e R s m args below meth c H locs cells slots Q (F0 m pc ls (.long x :: .ref o :: rest)) := by
  obtain ⟨hx, hb, hown, hts, hK⟩ := C
  exact va_put (own := RX13) (C := RX13) (T := TX13) (N := 38) (ci := 10) (ty := .long) hx hb hts tM_lay tyX13 tyX13_ok nmX13 hown hK V.1 V.2 hS 0 rfl rfl 25 (by decide) (hts _ tMf25) (fun _ h => h) rfl (by decide +kernel) rfl rfl (Nat.le_of_ble_eq_true rfl) hdg (fun H1 locs1 hP hD hS1 => kk _ H1 locs1 rfl ⟨hP, hD⟩ hS1)
theorem mG26 (C : mC p s m args c cc D cs) (V : mV D cs o ad A S H) (hdg : decode cc pc = .ok (.getfield 132, 3)) (kk : W p l e R s m args below meth c H locs cells slots Q (F0 m (pc + 3) ls (.int (gI S 26) :: rest))) : W p l e R s m args below meth c H locs cells slots Q (F0 m pc ls (.ref o :: rest)) := by
  obtain ⟨hx, hb, hown, hts, hK⟩ := C
  exact va_get (own := RX13) (C := RX13) (T := TX13) (N := 38) (ci := 10) hx hb hts tM_lay hown hK V.1 0 rfl rfl 26 (by decide) (hts _ tMf26) (fun _ h => h) rfl hdg kk
theorem mP26 {x : Int32} (C : mC p s m args c cc D cs) (V : mV D cs o ad A S H) (hS : va_S A H0 H locs) (hdg : decode cc pc = .ok (.putfield 132, 3)) (kk : ∀ (S1 : mS) (H1 : Heap) (locs1 : List Loc), S1 = sI S 26 x → mV D cs o ad A S1 H1 → va_S A H0 H1 locs1 → W p l e R s m args below meth c H1 locs1 cells slots Q (F0 m (pc + 3) ls rest)) : W p l e R s m args below meth c H locs cells slots Q (F0 m pc ls (.int x :: .ref o :: rest)) := by
  obtain ⟨hx, hb, hown, hts, hK⟩ := C
  exact va_put (own := RX13) (C := RX13) (T := TX13) (N := 38) (ci := 10) (ty := .int) hx hb hts tM_lay tyX13 tyX13_ok nmX13 hown hK V.1 V.2 hS 0 rfl rfl 26 (by decide) (hts _ tMf26) (fun _ h => h) rfl (by decide +kernel) rfl rfl (Nat.le_of_ble_eq_true rfl) hdg (fun H1 locs1 hP hD hS1 => kk _ H1 locs1 rfl ⟨hP, hD⟩ hS1)
theorem mG27 (C : mC p s m args c cc D cs) (V : mV D cs o ad A S H) (hdg : decode cc pc = .ok (.getfield 301, 3)) (kk : W p l e R s m args below meth c H locs cells slots Q (F0 m (pc + 3) ls (.int (gI S 27) :: rest))) : W p l e R s m args below meth c H locs cells slots Q (F0 m pc ls (.ref o :: rest)) := by
  obtain ⟨hx, hb, hown, hts, hK⟩ := C
  exact va_get (own := RX13) (C := RX13) (T := TX13) (N := 38) (ci := 10) hx hb hts tM_lay hown hK V.1 0 rfl rfl 27 (by decide) (hts _ tMf27) (fun _ h => h) rfl hdg kk
theorem mP27 {x : Int32} (C : mC p s m args c cc D cs) (V : mV D cs o ad A S H) (hS : va_S A H0 H locs) (hdg : decode cc pc = .ok (.putfield 301, 3)) (kk : ∀ (S1 : mS) (H1 : Heap) (locs1 : List Loc), S1 = sI S 27 x → mV D cs o ad A S1 H1 → va_S A H0 H1 locs1 → W p l e R s m args below meth c H1 locs1 cells slots Q (F0 m (pc + 3) ls rest)) : W p l e R s m args below meth c H locs cells slots Q (F0 m pc ls (.int x :: .ref o :: rest)) := by
  obtain ⟨hx, hb, hown, hts, hK⟩ := C
  exact va_put (own := RX13) (C := RX13) (T := TX13) (N := 38) (ci := 10) (ty := .int) hx hb hts tM_lay tyX13 tyX13_ok nmX13 hown hK V.1 V.2 hS 0 rfl rfl 27 (by decide) (hts _ tMf27) (fun _ h => h) rfl (by decide +kernel) rfl rfl (Nat.le_of_ble_eq_true rfl) hdg (fun H1 locs1 hP hD hS1 => kk _ H1 locs1 rfl ⟨hP, hD⟩ hS1)
theorem mG28 (C : mC p s m args c cc D cs) (V : mV D cs o ad A S H) (hdg : decode cc pc = .ok (.getfield 135, 3)) (kk : W p l e R s m args below meth c H locs cells slots Q (F0 m (pc + 3) ls (.ref (ad 28) :: rest))) : W p l e R s m args below meth c H locs cells slots Q (F0 m pc ls (.ref o :: rest)) := by
  obtain ⟨hx, hb, hown, hts, hK⟩ := C
  exact va_get (own := RX13) (C := RX13) (T := TX13) (N := 38) (ci := 10) hx hb hts tM_lay hown hK V.1 0 rfl rfl 28 (by decide) (hts _ tMf28) (fun _ h => h) rfl hdg kk
theorem mLd28 {i : Int32} (C : mC p s m args c cc D cs) (V : mV D cs o ad A S H) (hin : vp_in i 24) (hdg : decode cc pc = .ok (.iaload, 1)) (kk : W p l e R s m args below meth c H locs cells slots Q (F0 m (pc + 1) ls (.int (gA S 28 i) :: rest))) : W p l e R s m args below meth c H locs cells slots Q (F0 m pc ls (.int i :: .ref (ad 28) :: rest)) := by
  obtain ⟨hx, hb, hown, hts, hK⟩ := C
  refine va_iald hx hb hK V.1 17 0 rfl rfl hin hdg ?_
  have hb9 := nI_back hin
  rw [hb9]; exact kk
theorem mSt28 {i : Int32} {x : Int32} (C : mC p s m args c cc D cs) (V : mV D cs o ad A S H) (hS : va_S A H0 H locs) (hin : vp_in i 24) (hdg : decode cc pc = .ok (.iastore, 1)) (kk : ∀ (S1 : mS) (H1 : Heap) (locs1 : List Loc), S1 = sA S 28 i (x) → mV D cs o ad A S1 H1 → va_S A H0 H1 locs1 → W p l e R s m args below meth c H1 locs1 cells slots Q (F0 m (pc + 1) ls rest)) : W p l e R s m args below meth c H locs cells slots Q (F0 m pc ls (.int x :: .int i :: .ref (ad 28) :: rest)) := by
  obtain ⟨hx, hb, hown, hts, hK⟩ := C
  exact va_iast hx hb hK V.1 V.2 hS 17 0 rfl rfl hin hdg (fun H1 locs1 hP hD hS1 => kk _ H1 locs1 rfl ⟨mSwap (c2 := (cs.1, 24, .inl (fun j => (sA S 28 i (x)).2.2.1 28 (nI j)))) hP (arr_eq (upd_nI hin (by decide))), V.2.set (p := 17) rfl⟩ hS1)
theorem mG29 (C : mC p s m args c cc D cs) (V : mV D cs o ad A S H) (hdg : decode cc pc = .ok (.getfield 138, 3)) (kk : W p l e R s m args below meth c H locs cells slots Q (F0 m (pc + 3) ls (.ref (ad 29) :: rest))) : W p l e R s m args below meth c H locs cells slots Q (F0 m pc ls (.ref o :: rest)) := by
  obtain ⟨hx, hb, hown, hts, hK⟩ := C
  exact va_get (own := RX13) (C := RX13) (T := TX13) (N := 38) (ci := 10) hx hb hts tM_lay hown hK V.1 0 rfl rfl 29 (by decide) (hts _ tMf29) (fun _ h => h) rfl hdg kk
theorem mLd29 {i : Int32} (C : mC p s m args c cc D cs) (V : mV D cs o ad A S H) (hin : vp_in i 24) (hdg : decode cc pc = .ok (.iaload, 1)) (kk : W p l e R s m args below meth c H locs cells slots Q (F0 m (pc + 1) ls (.int (gA S 29 i) :: rest))) : W p l e R s m args below meth c H locs cells slots Q (F0 m pc ls (.int i :: .ref (ad 29) :: rest)) := by
  obtain ⟨hx, hb, hown, hts, hK⟩ := C
  refine va_iald hx hb hK V.1 18 0 rfl rfl hin hdg ?_
  have hb9 := nI_back hin
  rw [hb9]; exact kk
theorem mSt29 {i : Int32} {x : Int32} (C : mC p s m args c cc D cs) (V : mV D cs o ad A S H) (hS : va_S A H0 H locs) (hin : vp_in i 24) (hdg : decode cc pc = .ok (.iastore, 1)) (kk : ∀ (S1 : mS) (H1 : Heap) (locs1 : List Loc), S1 = sA S 29 i (x) → mV D cs o ad A S1 H1 → va_S A H0 H1 locs1 → W p l e R s m args below meth c H1 locs1 cells slots Q (F0 m (pc + 1) ls rest)) : W p l e R s m args below meth c H locs cells slots Q (F0 m pc ls (.int x :: .int i :: .ref (ad 29) :: rest)) := by
  obtain ⟨hx, hb, hown, hts, hK⟩ := C
  exact va_iast hx hb hK V.1 V.2 hS 18 0 rfl rfl hin hdg (fun H1 locs1 hP hD hS1 => kk _ H1 locs1 rfl ⟨mSwap (c2 := (cs.1, 24, .inl (fun j => (sA S 29 i (x)).2.2.1 29 (nI j)))) hP (arr_eq (upd_nI hin (by decide))), V.2.set (p := 18) rfl⟩ hS1)
theorem mG30 (C : mC p s m args c cc D cs) (V : mV D cs o ad A S H) (hdg : decode cc pc = .ok (.getfield 141, 3)) (kk : W p l e R s m args below meth c H locs cells slots Q (F0 m (pc + 3) ls (.ref (ad 30) :: rest))) : W p l e R s m args below meth c H locs cells slots Q (F0 m pc ls (.ref o :: rest)) := by
  obtain ⟨hx, hb, hown, hts, hK⟩ := C
  exact va_get (own := RX13) (C := RX13) (T := TX13) (N := 38) (ci := 10) hx hb hts tM_lay hown hK V.1 0 rfl rfl 30 (by decide) (hts _ tMf30) (fun _ h => h) rfl hdg kk
theorem mLd30 {i : Int32} (C : mC p s m args c cc D cs) (V : mV D cs o ad A S H) (hin : vp_in i 24) (hdg : decode cc pc = .ok (.iaload, 1)) (kk : W p l e R s m args below meth c H locs cells slots Q (F0 m (pc + 1) ls (.int (gA S 30 i) :: rest))) : W p l e R s m args below meth c H locs cells slots Q (F0 m pc ls (.int i :: .ref (ad 30) :: rest)) := by
  obtain ⟨hx, hb, hown, hts, hK⟩ := C
  refine va_iald hx hb hK V.1 19 0 rfl rfl hin hdg ?_
  have hb9 := nI_back hin
  rw [hb9]; exact kk
theorem mSt30 {i : Int32} {x : Int32} (C : mC p s m args c cc D cs) (V : mV D cs o ad A S H) (hS : va_S A H0 H locs) (hin : vp_in i 24) (hdg : decode cc pc = .ok (.iastore, 1)) (kk : ∀ (S1 : mS) (H1 : Heap) (locs1 : List Loc), S1 = sA S 30 i (x) → mV D cs o ad A S1 H1 → va_S A H0 H1 locs1 → W p l e R s m args below meth c H1 locs1 cells slots Q (F0 m (pc + 1) ls rest)) : W p l e R s m args below meth c H locs cells slots Q (F0 m pc ls (.int x :: .int i :: .ref (ad 30) :: rest)) := by
  obtain ⟨hx, hb, hown, hts, hK⟩ := C
  exact va_iast hx hb hK V.1 V.2 hS 19 0 rfl rfl hin hdg (fun H1 locs1 hP hD hS1 => kk _ H1 locs1 rfl ⟨mSwap (c2 := (cs.1, 24, .inl (fun j => (sA S 30 i (x)).2.2.1 30 (nI j)))) hP (arr_eq (upd_nI hin (by decide))), V.2.set (p := 19) rfl⟩ hS1)
theorem mG31 (C : mC p s m args c cc D cs) (V : mV D cs o ad A S H) (hdg : decode cc pc = .ok (.getfield 144, 3)) (kk : W p l e R s m args below meth c H locs cells slots Q (F0 m (pc + 3) ls (.ref (ad 31) :: rest))) : W p l e R s m args below meth c H locs cells slots Q (F0 m pc ls (.ref o :: rest)) := by
  obtain ⟨hx, hb, hown, hts, hK⟩ := C
  exact va_get (own := RX13) (C := RX13) (T := TX13) (N := 38) (ci := 10) hx hb hts tM_lay hown hK V.1 0 rfl rfl 31 (by decide) (hts _ tMf31) (fun _ h => h) rfl hdg kk
theorem mLd31 {i : Int32} (C : mC p s m args c cc D cs) (V : mV D cs o ad A S H) (hin : vp_in i 24) (hdg : decode cc pc = .ok (.iaload, 1)) (kk : W p l e R s m args below meth c H locs cells slots Q (F0 m (pc + 1) ls (.int (gA S 31 i) :: rest))) : W p l e R s m args below meth c H locs cells slots Q (F0 m pc ls (.int i :: .ref (ad 31) :: rest)) := by
  obtain ⟨hx, hb, hown, hts, hK⟩ := C
  refine va_iald hx hb hK V.1 20 0 rfl rfl hin hdg ?_
  have hb9 := nI_back hin
  rw [hb9]; exact kk
theorem mSt31 {i : Int32} {x : Int32} (C : mC p s m args c cc D cs) (V : mV D cs o ad A S H) (hS : va_S A H0 H locs) (hin : vp_in i 24) (hdg : decode cc pc = .ok (.iastore, 1)) (kk : ∀ (S1 : mS) (H1 : Heap) (locs1 : List Loc), S1 = sA S 31 i (x) → mV D cs o ad A S1 H1 → va_S A H0 H1 locs1 → W p l e R s m args below meth c H1 locs1 cells slots Q (F0 m (pc + 1) ls rest)) : W p l e R s m args below meth c H locs cells slots Q (F0 m pc ls (.int x :: .int i :: .ref (ad 31) :: rest)) := by
  obtain ⟨hx, hb, hown, hts, hK⟩ := C
  exact va_iast hx hb hK V.1 V.2 hS 20 0 rfl rfl hin hdg (fun H1 locs1 hP hD hS1 => kk _ H1 locs1 rfl ⟨mSwap (c2 := (cs.1, 24, .inl (fun j => (sA S 31 i (x)).2.2.1 31 (nI j)))) hP (arr_eq (upd_nI hin (by decide))), V.2.set (p := 20) rfl⟩ hS1)
theorem mG32 (C : mC p s m args c cc D cs) (V : mV D cs o ad A S H) (hdg : decode cc pc = .ok (.getfield 147, 3)) (kk : W p l e R s m args below meth c H locs cells slots Q (F0 m (pc + 3) ls (.ref (ad 32) :: rest))) : W p l e R s m args below meth c H locs cells slots Q (F0 m pc ls (.ref o :: rest)) := by
  obtain ⟨hx, hb, hown, hts, hK⟩ := C
  exact va_get (own := RX13) (C := RX13) (T := TX13) (N := 38) (ci := 10) hx hb hts tM_lay hown hK V.1 0 rfl rfl 32 (by decide) (hts _ tMf32) (fun _ h => h) rfl hdg kk
theorem mLd32 {i : Int32} (C : mC p s m args c cc D cs) (V : mV D cs o ad A S H) (hin : vp_in i 192) (hdg : decode cc pc = .ok (.iaload, 1)) (kk : W p l e R s m args below meth c H locs cells slots Q (F0 m (pc + 1) ls (.int (gA S 32 i) :: rest))) : W p l e R s m args below meth c H locs cells slots Q (F0 m pc ls (.int i :: .ref (ad 32) :: rest)) := by
  obtain ⟨hx, hb, hown, hts, hK⟩ := C
  refine va_iald hx hb hK V.1 21 0 rfl rfl hin hdg ?_
  have hb9 := nI_back hin
  rw [hb9]; exact kk
theorem mSt32 {i : Int32} {x : Int32} (C : mC p s m args c cc D cs) (V : mV D cs o ad A S H) (hS : va_S A H0 H locs) (hin : vp_in i 192) (hdg : decode cc pc = .ok (.iastore, 1)) (kk : ∀ (S1 : mS) (H1 : Heap) (locs1 : List Loc), S1 = sA S 32 i (x) → mV D cs o ad A S1 H1 → va_S A H0 H1 locs1 → W p l e R s m args below meth c H1 locs1 cells slots Q (F0 m (pc + 1) ls rest)) : W p l e R s m args below meth c H locs cells slots Q (F0 m pc ls (.int x :: .int i :: .ref (ad 32) :: rest)) := by
  obtain ⟨hx, hb, hown, hts, hK⟩ := C
  exact va_iast hx hb hK V.1 V.2 hS 21 0 rfl rfl hin hdg (fun H1 locs1 hP hD hS1 => kk _ H1 locs1 rfl ⟨mSwap (c2 := (cs.1, 192, .inl (fun j => (sA S 32 i (x)).2.2.1 32 (nI j)))) hP (arr_eq (upd_nI hin (by decide))), V.2.set (p := 21) rfl⟩ hS1)
theorem mG33 (C : mC p s m args c cc D cs) (V : mV D cs o ad A S H) (hdg : decode cc pc = .ok (.getfield 150, 3)) (kk : W p l e R s m args below meth c H locs cells slots Q (F0 m (pc + 3) ls (.ref (ad 33) :: rest))) : W p l e R s m args below meth c H locs cells slots Q (F0 m pc ls (.ref o :: rest)) := by
  obtain ⟨hx, hb, hown, hts, hK⟩ := C
  exact va_get (own := RX13) (C := RX13) (T := TX13) (N := 38) (ci := 10) hx hb hts tM_lay hown hK V.1 0 rfl rfl 33 (by decide) (hts _ tMf33) (fun _ h => h) rfl hdg kk
theorem mLd33 {i : Int32} (C : mC p s m args c cc D cs) (V : mV D cs o ad A S H) (hin : vp_in i 24) (hdg : decode cc pc = .ok (.iaload, 1)) (kk : W p l e R s m args below meth c H locs cells slots Q (F0 m (pc + 1) ls (.int (gA S 33 i) :: rest))) : W p l e R s m args below meth c H locs cells slots Q (F0 m pc ls (.int i :: .ref (ad 33) :: rest)) := by
  obtain ⟨hx, hb, hown, hts, hK⟩ := C
  refine va_iald hx hb hK V.1 22 0 rfl rfl hin hdg ?_
  have hb9 := nI_back hin
  rw [hb9]; exact kk
theorem mSt33 {i : Int32} {x : Int32} (C : mC p s m args c cc D cs) (V : mV D cs o ad A S H) (hS : va_S A H0 H locs) (hin : vp_in i 24) (hdg : decode cc pc = .ok (.iastore, 1)) (kk : ∀ (S1 : mS) (H1 : Heap) (locs1 : List Loc), S1 = sA S 33 i (x) → mV D cs o ad A S1 H1 → va_S A H0 H1 locs1 → W p l e R s m args below meth c H1 locs1 cells slots Q (F0 m (pc + 1) ls rest)) : W p l e R s m args below meth c H locs cells slots Q (F0 m pc ls (.int x :: .int i :: .ref (ad 33) :: rest)) := by
  obtain ⟨hx, hb, hown, hts, hK⟩ := C
  exact va_iast hx hb hK V.1 V.2 hS 22 0 rfl rfl hin hdg (fun H1 locs1 hP hD hS1 => kk _ H1 locs1 rfl ⟨mSwap (c2 := (cs.1, 24, .inl (fun j => (sA S 33 i (x)).2.2.1 33 (nI j)))) hP (arr_eq (upd_nI hin (by decide))), V.2.set (p := 22) rfl⟩ hS1)
theorem mG34 (C : mC p s m args c cc D cs) (V : mV D cs o ad A S H) (hdg : decode cc pc = .ok (.getfield 153, 3)) (kk : W p l e R s m args below meth c H locs cells slots Q (F0 m (pc + 3) ls (.ref (ad 34) :: rest))) : W p l e R s m args below meth c H locs cells slots Q (F0 m pc ls (.ref o :: rest)) := by
  obtain ⟨hx, hb, hown, hts, hK⟩ := C
  exact va_get (own := RX13) (C := RX13) (T := TX13) (N := 38) (ci := 10) hx hb hts tM_lay hown hK V.1 0 rfl rfl 34 (by decide) (hts _ tMf34) (fun _ h => h) rfl hdg kk
theorem mLd34 {i : Int32} (C : mC p s m args c cc D cs) (V : mV D cs o ad A S H) (hin : vp_in i 192) (hdg : decode cc pc = .ok (.iaload, 1)) (kk : W p l e R s m args below meth c H locs cells slots Q (F0 m (pc + 1) ls (.int (gA S 34 i) :: rest))) : W p l e R s m args below meth c H locs cells slots Q (F0 m pc ls (.int i :: .ref (ad 34) :: rest)) := by
  obtain ⟨hx, hb, hown, hts, hK⟩ := C
  refine va_iald hx hb hK V.1 23 0 rfl rfl hin hdg ?_
  have hb9 := nI_back hin
  rw [hb9]; exact kk
theorem mSt34 {i : Int32} {x : Int32} (C : mC p s m args c cc D cs) (V : mV D cs o ad A S H) (hS : va_S A H0 H locs) (hin : vp_in i 192) (hdg : decode cc pc = .ok (.iastore, 1)) (kk : ∀ (S1 : mS) (H1 : Heap) (locs1 : List Loc), S1 = sA S 34 i (x) → mV D cs o ad A S1 H1 → va_S A H0 H1 locs1 → W p l e R s m args below meth c H1 locs1 cells slots Q (F0 m (pc + 1) ls rest)) : W p l e R s m args below meth c H locs cells slots Q (F0 m pc ls (.int x :: .int i :: .ref (ad 34) :: rest)) := by
  obtain ⟨hx, hb, hown, hts, hK⟩ := C
  exact va_iast hx hb hK V.1 V.2 hS 23 0 rfl rfl hin hdg (fun H1 locs1 hP hD hS1 => kk _ H1 locs1 rfl ⟨mSwap (c2 := (cs.1, 192, .inl (fun j => (sA S 34 i (x)).2.2.1 34 (nI j)))) hP (arr_eq (upd_nI hin (by decide))), V.2.set (p := 23) rfl⟩ hS1)
theorem mG35 (C : mC p s m args c cc D cs) (V : mV D cs o ad A S H) (hdg : decode cc pc = .ok (.getfield 156, 3)) (kk : W p l e R s m args below meth c H locs cells slots Q (F0 m (pc + 3) ls (.ref (ad 35) :: rest))) : W p l e R s m args below meth c H locs cells slots Q (F0 m pc ls (.ref o :: rest)) := by
  obtain ⟨hx, hb, hown, hts, hK⟩ := C
  exact va_get (own := RX13) (C := RX13) (T := TX13) (N := 38) (ci := 10) hx hb hts tM_lay hown hK V.1 0 rfl rfl 35 (by decide) (hts _ tMf35) (fun _ h => h) rfl hdg kk
theorem mLd35 {i : Int32} (C : mC p s m args c cc D cs) (V : mV D cs o ad A S H) (hin : vp_in i 24) (hdg : decode cc pc = .ok (.iaload, 1)) (kk : W p l e R s m args below meth c H locs cells slots Q (F0 m (pc + 1) ls (.int (gA S 35 i) :: rest))) : W p l e R s m args below meth c H locs cells slots Q (F0 m pc ls (.int i :: .ref (ad 35) :: rest)) := by
  obtain ⟨hx, hb, hown, hts, hK⟩ := C
  refine va_iald hx hb hK V.1 24 0 rfl rfl hin hdg ?_
  have hb9 := nI_back hin
  rw [hb9]; exact kk
theorem mSt35 {i : Int32} {x : Int32} (C : mC p s m args c cc D cs) (V : mV D cs o ad A S H) (hS : va_S A H0 H locs) (hin : vp_in i 24) (hdg : decode cc pc = .ok (.iastore, 1)) (kk : ∀ (S1 : mS) (H1 : Heap) (locs1 : List Loc), S1 = sA S 35 i (x) → mV D cs o ad A S1 H1 → va_S A H0 H1 locs1 → W p l e R s m args below meth c H1 locs1 cells slots Q (F0 m (pc + 1) ls rest)) : W p l e R s m args below meth c H locs cells slots Q (F0 m pc ls (.int x :: .int i :: .ref (ad 35) :: rest)) := by
  obtain ⟨hx, hb, hown, hts, hK⟩ := C
  exact va_iast hx hb hK V.1 V.2 hS 24 0 rfl rfl hin hdg (fun H1 locs1 hP hD hS1 => kk _ H1 locs1 rfl ⟨mSwap (c2 := (cs.1, 24, .inl (fun j => (sA S 35 i (x)).2.2.1 35 (nI j)))) hP (arr_eq (upd_nI hin (by decide))), V.2.set (p := 24) rfl⟩ hS1)
theorem mG36 (C : mC p s m args c cc D cs) (V : mV D cs o ad A S H) (hdg : decode cc pc = .ok (.getfield 159, 3)) (kk : W p l e R s m args below meth c H locs cells slots Q (F0 m (pc + 3) ls (.ref (ad 36) :: rest))) : W p l e R s m args below meth c H locs cells slots Q (F0 m pc ls (.ref o :: rest)) := by
  obtain ⟨hx, hb, hown, hts, hK⟩ := C
  exact va_get (own := RX13) (C := RX13) (T := TX13) (N := 38) (ci := 10) hx hb hts tM_lay hown hK V.1 0 rfl rfl 36 (by decide) (hts _ tMf36) (fun _ h => h) rfl hdg kk
theorem mLd36 {i : Int32} (C : mC p s m args c cc D cs) (V : mV D cs o ad A S H) (hin : vp_in i 2400) (hdg : decode cc pc = .ok (.iaload, 1)) (kk : W p l e R s m args below meth c H locs cells slots Q (F0 m (pc + 1) ls (.int (gA S 36 i) :: rest))) : W p l e R s m args below meth c H locs cells slots Q (F0 m pc ls (.int i :: .ref (ad 36) :: rest)) := by
  obtain ⟨hx, hb, hown, hts, hK⟩ := C
  refine va_iald hx hb hK V.1 25 0 rfl rfl hin hdg ?_
  have hb9 := nI_back hin
  rw [hb9]; exact kk
theorem mSt36 {i : Int32} {x : Int32} (C : mC p s m args c cc D cs) (V : mV D cs o ad A S H) (hS : va_S A H0 H locs) (hin : vp_in i 2400) (hdg : decode cc pc = .ok (.iastore, 1)) (kk : ∀ (S1 : mS) (H1 : Heap) (locs1 : List Loc), S1 = sA S 36 i (x) → mV D cs o ad A S1 H1 → va_S A H0 H1 locs1 → W p l e R s m args below meth c H1 locs1 cells slots Q (F0 m (pc + 1) ls rest)) : W p l e R s m args below meth c H locs cells slots Q (F0 m pc ls (.int x :: .int i :: .ref (ad 36) :: rest)) := by
  obtain ⟨hx, hb, hown, hts, hK⟩ := C
  exact va_iast hx hb hK V.1 V.2 hS 25 0 rfl rfl hin hdg (fun H1 locs1 hP hD hS1 => kk _ H1 locs1 rfl ⟨mSwap (c2 := (cs.1, 2400, .inl (fun j => (sA S 36 i (x)).2.2.1 36 (nI j)))) hP (arr_eq (upd_nI hin (by decide))), V.2.set (p := 25) rfl⟩ hS1)
theorem mG37 (C : mC p s m args c cc D cs) (V : mV D cs o ad A S H) (hdg : decode cc pc = .ok (.getfield 162, 3)) (kk : W p l e R s m args below meth c H locs cells slots Q (F0 m (pc + 3) ls (.ref (ad 37) :: rest))) : W p l e R s m args below meth c H locs cells slots Q (F0 m pc ls (.ref o :: rest)) := by
  obtain ⟨hx, hb, hown, hts, hK⟩ := C
  exact va_get (own := RX13) (C := RX13) (T := TX13) (N := 38) (ci := 10) hx hb hts tM_lay hown hK V.1 0 rfl rfl 37 (by decide) (hts _ tMf37) (fun _ h => h) rfl hdg kk
theorem mLd37 {i : Int32} (C : mC p s m args c cc D cs) (V : mV D cs o ad A S H) (hin : vp_in i 24) (hdg : decode cc pc = .ok (.iaload, 1)) (kk : W p l e R s m args below meth c H locs cells slots Q (F0 m (pc + 1) ls (.int (gA S 37 i) :: rest))) : W p l e R s m args below meth c H locs cells slots Q (F0 m pc ls (.int i :: .ref (ad 37) :: rest)) := by
  obtain ⟨hx, hb, hown, hts, hK⟩ := C
  refine va_iald hx hb hK V.1 26 0 rfl rfl hin hdg ?_
  have hb9 := nI_back hin
  rw [hb9]; exact kk
theorem mSt37 {i : Int32} {x : Int32} (C : mC p s m args c cc D cs) (V : mV D cs o ad A S H) (hS : va_S A H0 H locs) (hin : vp_in i 24) (hdg : decode cc pc = .ok (.iastore, 1)) (kk : ∀ (S1 : mS) (H1 : Heap) (locs1 : List Loc), S1 = sA S 37 i (x) → mV D cs o ad A S1 H1 → va_S A H0 H1 locs1 → W p l e R s m args below meth c H1 locs1 cells slots Q (F0 m (pc + 1) ls rest)) : W p l e R s m args below meth c H locs cells slots Q (F0 m pc ls (.int x :: .int i :: .ref (ad 37) :: rest)) := by
  obtain ⟨hx, hb, hown, hts, hK⟩ := C
  exact va_iast hx hb hK V.1 V.2 hS 26 0 rfl rfl hin hdg (fun H1 locs1 hP hD hS1 => kk _ H1 locs1 rfl ⟨mSwap (c2 := (cs.1, 24, .inl (fun j => (sA S 37 i (x)).2.2.1 37 (nI j)))) hP (arr_eq (upd_nI hin (by decide))), V.2.set (p := 26) rfl⟩ hS1)
end MW

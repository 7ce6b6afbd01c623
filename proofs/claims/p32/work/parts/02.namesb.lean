set_option maxRecDepth 20000 in
theorem wsL_in_r1 : ∀ w ∈ wsL_law0_r1, w ∈ lw_tbl := fun w h => (goodIn_r wsL_law0_r1 [31, 32, 17, 93, 33, 34, 35, 36, 37, 38, 39, 40, 18, 150, 95, 151, 152, 113, 114, 20, 153, 130, 131, 21] (by decide +kernel) (by decide +kernel) w h).1
set_option maxRecDepth 20000 in
theorem wsL_in_r2 : ∀ w ∈ wsL_law0_r2, w ∈ lw_tbl := fun w h => (goodIn_r wsL_law0_r2 [154, 42, 43, 44, 45, 46, 19, 94, 97, 99, 101, 48, 49, 50, 54, 56, 58, 61, 64, 66, 68, 70, 115, 116] (by decide +kernel) (by decide +kernel) w h).1
set_option maxRecDepth 20000 in
theorem wsL_in_r3_0 : (Cond.code yX1_init cX1_init 2 none) ∈ lw_tbl := List.mem_of_getElem? (i := 117) (by decide +kernel)
set_option maxRecDepth 20000 in
theorem wsL_in_r3_1 : (Cond.methodLink RX1 3 objectInit) ∈ lw_tbl := List.mem_of_getElem? (i := 118) (by decide +kernel)
set_option maxRecDepth 20000 in
theorem wsL_in_r3_2 : (Cond.classLink RX1 9 RX0) ∈ lw_tbl := List.mem_of_getElem? (i := 119) (by decide +kernel)
set_option maxRecDepth 20000 in
theorem wsL_in_r3_3 : (Cond.fieldLink RX1 11 "HallSights$History" "kept" "[LHallSights$Hall;") ∈ lw_tbl := List.mem_of_getElem? (i := 122) (by decide +kernel)
set_option maxRecDepth 20000 in
theorem wsL_in_r3_4 : (Cond.instanceMethod yX2_init) ∈ lw_tbl := List.mem_of_getElem? (i := 133) (by decide +kernel)
set_option maxRecDepth 20000 in
theorem wsL_in_r3_5 : (Cond.code yX2_init cX2_init 1 none) ∈ lw_tbl := List.mem_of_getElem? (i := 134) (by decide +kernel)
set_option maxRecDepth 20000 in
theorem wsL_in_r3_6 : (Cond.methodLink RX2 3 objectInit) ∈ lw_tbl := List.mem_of_getElem? (i := 135) (by decide +kernel)
set_option maxRecDepth 20000 in
theorem wsL_in_r3_7 : (Cond.arrayClass .char) ∈ lw_tbl := List.mem_of_getElem? (i := 149) (by decide +kernel)
set_option maxRecDepth 20000 in
theorem wsL_in_r3_8 : (Cond.fieldLink RX2 9 "HallSights$RowsText" "signs" "[C") ∈ lw_tbl := List.mem_of_getElem? (i := 136) (by decide +kernel)
set_option maxRecDepth 20000 in
theorem wsL_in_r3_9 : (Cond.fieldLink RX2 15 "HallSights$RowsText" "numbers" "[I") ∈ lw_tbl := List.mem_of_getElem? (i := 137) (by decide +kernel)
set_option maxRecDepth 20000 in
theorem wsL_in_r3_10 : (Cond.methodLink RL 82 yL_cell) ∈ lw_tbl := List.mem_of_getElem? (i := 166) (by decide +kernel)
set_option maxRecDepth 20000 in
theorem wsL_in_r3_11 : (Cond.static yL_cell) ∈ lw_tbl := List.mem_of_getElem? (i := 167) (by decide +kernel)
set_option maxRecDepth 20000 in
theorem wsL_in_r3_12 : (Cond.initialized RL) ∈ lw_tbl := List.mem_of_getElem? (i := 16) (by decide +kernel)
set_option maxRecDepth 20000 in
theorem wsL_in_r3_13 : (Cond.code yL_cell cL_cell 2 (some .int)) ∈ lw_tbl := List.mem_of_getElem? (i := 168) rfl
set_option maxRecDepth 20000 in
theorem wsL_in_r3_14 : (Cond.constant RL 7 (1804289383)) ∈ lw_tbl := List.mem_of_getElem? (i := 169) rfl
set_option maxRecDepth 20000 in
theorem wsL_in_r3_15 : (Cond.methodLink RL 18 yL_at) ∈ lw_tbl := List.mem_of_getElem? (i := 170) (by decide +kernel)
set_option maxRecDepth 20000 in
theorem wsL_in_r3_16 : (Cond.static yL_at) ∈ lw_tbl := List.mem_of_getElem? (i := 171) (by decide +kernel)
set_option maxRecDepth 20000 in
theorem wsL_in_r3_17 : (Cond.code yL_at cL_at 2 (some .int)) ∈ lw_tbl := List.mem_of_getElem? (i := 172) rfl
set_option maxRecDepth 20000 in
theorem wsL_in_r3_18 : (Cond.methodLink RL 86 yL_builds) ∈ lw_tbl := List.mem_of_getElem? (i := 173) (by decide +kernel)
set_option maxRecDepth 20000 in
theorem wsL_in_r3_19 : (Cond.static yL_builds) ∈ lw_tbl := List.mem_of_getElem? (i := 174) (by decide +kernel)
set_option maxRecDepth 20000 in
theorem wsL_in_r3_20 : (Cond.code yL_builds cL_builds 12 (some .boolean)) ∈ lw_tbl := List.mem_of_getElem? (i := 175) rfl
set_option maxRecDepth 20000 in
theorem wsL_in_r3_21 : (Cond.methodLink RL 22 yX4_addRow) ∈ lw_tbl := List.mem_of_getElem? (i := 176) (by decide +kernel)
set_option maxRecDepth 20000 in
theorem wsL_in_r3_22 : (Cond.instanceMethod yX4_addRow) ∈ lw_tbl := List.mem_of_getElem? (i := 177) (by decide +kernel)
set_option maxRecDepth 20000 in
theorem wsL_in_r3_23 : (Cond.selects RX4 yX4_addRow yX4_addRow) ∈ lw_tbl := List.mem_of_getElem? (i := 178) (by decide +kernel)
theorem wsL_in_r3 : ∀ w ∈ wsL_law0_r3, w ∈ lw_tbl := (List.forall_mem_cons.mpr ⟨wsL_in_r3_0, (List.forall_mem_cons.mpr ⟨wsL_in_r3_1, (List.forall_mem_cons.mpr ⟨wsL_in_r3_2, (List.forall_mem_cons.mpr ⟨wsL_in_r3_3, (List.forall_mem_cons.mpr ⟨wsL_in_r3_4, (List.forall_mem_cons.mpr ⟨wsL_in_r3_5, (List.forall_mem_cons.mpr ⟨wsL_in_r3_6, (List.forall_mem_cons.mpr ⟨wsL_in_r3_7, (List.forall_mem_cons.mpr ⟨wsL_in_r3_8, (List.forall_mem_cons.mpr ⟨wsL_in_r3_9, (List.forall_mem_cons.mpr ⟨wsL_in_r3_10, (List.forall_mem_cons.mpr ⟨wsL_in_r3_11, (List.forall_mem_cons.mpr ⟨wsL_in_r3_12, (List.forall_mem_cons.mpr ⟨wsL_in_r3_13, (List.forall_mem_cons.mpr ⟨wsL_in_r3_14, (List.forall_mem_cons.mpr ⟨wsL_in_r3_15, (List.forall_mem_cons.mpr ⟨wsL_in_r3_16, (List.forall_mem_cons.mpr ⟨wsL_in_r3_17, (List.forall_mem_cons.mpr ⟨wsL_in_r3_18, (List.forall_mem_cons.mpr ⟨wsL_in_r3_19, (List.forall_mem_cons.mpr ⟨wsL_in_r3_20, (List.forall_mem_cons.mpr ⟨wsL_in_r3_21, (List.forall_mem_cons.mpr ⟨wsL_in_r3_22, (List.forall_mem_cons.mpr ⟨wsL_in_r3_23, (fun _ h9 => absurd h9 List.not_mem_nil)⟩)⟩)⟩)⟩)⟩)⟩)⟩)⟩)⟩)⟩)⟩)⟩)⟩)⟩)⟩)⟩)⟩)⟩)⟩)⟩)⟩)⟩)⟩)⟩)
set_option maxRecDepth 20000 in
theorem wsL_in_r4 : ∀ w ∈ wsL_law0_r4, w ∈ lw_tbl := fun w h => (goodIn_r wsL_law0_r4 [179, 180, 25, 257, 26, 248, 249, 250, 253, 254, 255, 256, 51, 273, 275, 1, 276, 277, 278, 279, 280, 123, 281, 283] (by decide +kernel) (by decide +kernel) w h).1
set_option maxRecDepth 20000 in
theorem wsL_in_r5 : ∀ w ∈ wsL_law0_r5, w ∈ lw_tbl := fun w h => (goodIn_r wsL_law0_r5 [2, 284, 285, 286, 287, 288, 289, 291, 290, 27, 62, 292, 293, 294, 295, 96, 296, 297, 298, 299, 300, 302, 3, 303] (by decide +kernel) (by decide +kernel) w h).1
set_option maxRecDepth 20000 in
theorem wsL_in_r6_0 : (Cond.methodLink RL 28 yX4_removeRow) ∈ lw_tbl := List.mem_of_getElem? (i := 304) (by decide +kernel)
set_option maxRecDepth 20000 in
theorem wsL_in_r6_1 : (Cond.instanceMethod yX4_removeRow) ∈ lw_tbl := List.mem_of_getElem? (i := 305) (by decide +kernel)
set_option maxRecDepth 20000 in
theorem wsL_in_r6_2 : (Cond.selects RX4 yX4_removeRow yX4_removeRow) ∈ lw_tbl := List.mem_of_getElem? (i := 306) (by decide +kernel)
set_option maxRecDepth 20000 in
theorem wsL_in_r6_3 : (Cond.code yX4_removeRow cX4_removeRow 2 (some .int)) ∈ lw_tbl := List.mem_of_getElem? (i := 307) (by decide +kernel)
set_option maxRecDepth 20000 in
theorem wsL_in_r6_4 : (Cond.methodLink RX4 69 yX4_checkRow) ∈ lw_tbl := List.mem_of_getElem? (i := 308) (by decide +kernel)
set_option maxRecDepth 20000 in
theorem wsL_in_r6_5 : (Cond.instanceMethod yX4_checkRow) ∈ lw_tbl := List.mem_of_getElem? (i := 310) (by decide +kernel)
set_option maxRecDepth 20000 in
theorem wsL_in_r6_6 : (Cond.selects RX4 yX4_checkRow yX4_checkRow) ∈ lw_tbl := List.mem_of_getElem? (i := 4) (by decide +kernel)
set_option maxRecDepth 20000 in
theorem wsL_in_r6_7 : (Cond.code yX4_checkRow cX4_checkRow 2 none) ∈ lw_tbl := List.mem_of_getElem? (i := 311) (by decide +kernel)
set_option maxRecDepth 20000 in
theorem wsL_in_r6_8 : (Cond.classLink RX4 263 "java/lang/IndexOutOfBoundsException") ∈ lw_tbl := List.mem_of_getElem? (i := 312) (by decide +kernel)
set_option maxRecDepth 20000 in
theorem wsL_in_r6_9 : (Cond.initialized "java/lang/IndexOutOfBoundsException") ∈ lw_tbl := List.mem_of_getElem? (i := 28) (by decide +kernel)
set_option maxRecDepth 20000 in
theorem wsL_in_r6_10 : (Cond.fieldLink RX4 156 "HallSights$Hall" "rows" "I") ∈ lw_tbl := List.mem_of_getElem? (i := 53) (by decide +kernel)
set_option maxRecDepth 20000 in
theorem wsL_in_r6_11 : (Cond.methodLink RX4 72 yX0_deleteRow) ∈ lw_tbl := List.mem_of_getElem? (i := 328) (by decide +kernel)
set_option maxRecDepth 20000 in
theorem wsL_in_r6_12 : (Cond.instanceMethod yX0_deleteRow) ∈ lw_tbl := List.mem_of_getElem? (i := 329) (by decide +kernel)
set_option maxRecDepth 20000 in
theorem wsL_in_r6_13 : (Cond.selects RX0 yX0_deleteRow yX0_deleteRow) ∈ lw_tbl := List.mem_of_getElem? (i := 330) (by decide +kernel)
set_option maxRecDepth 20000 in
theorem wsL_in_r6_14 : (Cond.code yX0_deleteRow cX0_deleteRow 3 none) ∈ lw_tbl := List.mem_of_getElem? (i := 331) (by decide +kernel)
set_option maxRecDepth 20000 in
theorem wsL_in_r6_15 : (Cond.methodLink RX4 75 yX0_seatsInAll) ∈ lw_tbl := List.mem_of_getElem? (i := 332) (by decide +kernel)
set_option maxRecDepth 20000 in
theorem wsL_in_r6_16 : (Cond.instanceMethod yX0_seatsInAll) ∈ lw_tbl := List.mem_of_getElem? (i := 333) (by decide +kernel)
set_option maxRecDepth 20000 in
theorem wsL_in_r6_17 : (Cond.selects RX0 yX0_seatsInAll yX0_seatsInAll) ∈ lw_tbl := List.mem_of_getElem? (i := 334) (by decide +kernel)
set_option maxRecDepth 20000 in
theorem wsL_in_r6_18 : (Cond.code yX0_seatsInAll cX0_seatsInAll 3 (some .int)) ∈ lw_tbl := List.mem_of_getElem? (i := 335) (by decide +kernel)
set_option maxRecDepth 20000 in
theorem wsL_in_r6_19 : (Cond.methodLink RL 32 yL_all) ∈ lw_tbl := List.mem_of_getElem? (i := 336) (by decide +kernel)
set_option maxRecDepth 20000 in
theorem wsL_in_r6_20 : (Cond.static yL_all) ∈ lw_tbl := List.mem_of_getElem? (i := 337) (by decide +kernel)
set_option maxRecDepth 20000 in
theorem wsL_in_r6_21 : (Cond.code yL_all cL_all 6 (some .int)) ∈ lw_tbl := List.mem_of_getElem? (i := 338) rfl
set_option maxRecDepth 20000 in
theorem wsL_in_r6_22 : (Cond.methodLink RL 36 yX4_removeColumn) ∈ lw_tbl := List.mem_of_getElem? (i := 339) (by decide +kernel)
set_option maxRecDepth 20000 in
theorem wsL_in_r6_23 : (Cond.instanceMethod yX4_removeColumn) ∈ lw_tbl := List.mem_of_getElem? (i := 340) (by decide +kernel)
theorem wsL_in_r6 : ∀ w ∈ wsL_law0_r6, w ∈ lw_tbl := (List.forall_mem_cons.mpr ⟨wsL_in_r6_0, (List.forall_mem_cons.mpr ⟨wsL_in_r6_1, (List.forall_mem_cons.mpr ⟨wsL_in_r6_2, (List.forall_mem_cons.mpr ⟨wsL_in_r6_3, (List.forall_mem_cons.mpr ⟨wsL_in_r6_4, (List.forall_mem_cons.mpr ⟨wsL_in_r6_5, (List.forall_mem_cons.mpr ⟨wsL_in_r6_6, (List.forall_mem_cons.mpr ⟨wsL_in_r6_7, (List.forall_mem_cons.mpr ⟨wsL_in_r6_8, (List.forall_mem_cons.mpr ⟨wsL_in_r6_9, (List.forall_mem_cons.mpr ⟨wsL_in_r6_10, (List.forall_mem_cons.mpr ⟨wsL_in_r6_11, (List.forall_mem_cons.mpr ⟨wsL_in_r6_12, (List.forall_mem_cons.mpr ⟨wsL_in_r6_13, (List.forall_mem_cons.mpr ⟨wsL_in_r6_14, (List.forall_mem_cons.mpr ⟨wsL_in_r6_15, (List.forall_mem_cons.mpr ⟨wsL_in_r6_16, (List.forall_mem_cons.mpr ⟨wsL_in_r6_17, (List.forall_mem_cons.mpr ⟨wsL_in_r6_18, (List.forall_mem_cons.mpr ⟨wsL_in_r6_19, (List.forall_mem_cons.mpr ⟨wsL_in_r6_20, (List.forall_mem_cons.mpr ⟨wsL_in_r6_21, (List.forall_mem_cons.mpr ⟨wsL_in_r6_22, (List.forall_mem_cons.mpr ⟨wsL_in_r6_23, (fun _ h9 => absurd h9 List.not_mem_nil)⟩)⟩)⟩)⟩)⟩)⟩)⟩)⟩)⟩)⟩)⟩)⟩)⟩)⟩)⟩)⟩)⟩)⟩)⟩)⟩)⟩)⟩)⟩)⟩)
set_option maxRecDepth 20000 in
theorem wsL_in_r7 : ∀ w ∈ wsL_law0_r7, w ∈ lw_tbl := fun w h => (goodIn_r wsL_law0_r7 [341, 342, 63, 343, 345, 5, 346, 348, 349, 350, 351, 352, 353, 354, 355, 359, 360, 361, 362, 363, 364, 365, 366, 57] (by decide +kernel) (by decide +kernel) w h).1
set_option maxRecDepth 20000 in
theorem wsL_in_r8_0 : (Cond.methodLink RL 45 yX4_set) ∈ lw_tbl := List.mem_of_getElem? (i := 367) (by decide +kernel)
set_option maxRecDepth 20000 in
theorem wsL_in_r8_1 : (Cond.instanceMethod yX4_set) ∈ lw_tbl := List.mem_of_getElem? (i := 368) (by decide +kernel)
set_option maxRecDepth 20000 in
theorem wsL_in_r8_2 : (Cond.selects RX4 yX4_set yX4_set) ∈ lw_tbl := List.mem_of_getElem? (i := 369) (by decide +kernel)
set_option maxRecDepth 20000 in
theorem wsL_in_r8_3 : (Cond.code yX4_set cX4_set 4 (some .int)) ∈ lw_tbl := List.mem_of_getElem? (i := 370) (by decide +kernel)
set_option maxRecDepth 20000 in
theorem wsL_in_r8_4 : (Cond.fieldLink RX4 105 "HallSights" "LEAST_OF_SETTING" "[I") ∈ lw_tbl := List.mem_of_getElem? (i := 375) (by decide +kernel)
set_option maxRecDepth 20000 in
theorem wsL_in_r8_5 : (Cond.fieldLink RX4 108 "HallSights" "MOST_OF_SETTING" "[I") ∈ lw_tbl := List.mem_of_getElem? (i := 377) (by decide +kernel)
set_option maxRecDepth 20000 in
theorem wsL_in_r8_6 : (Cond.fieldLink RX4 113 "HallSights$Hall" "settings" "[I") ∈ lw_tbl := List.mem_of_getElem? (i := 71) (by decide +kernel)
set_option maxRecDepth 20000 in
theorem wsL_in_r8_7 : (Cond.methodLink RX4 102 yX4_checkSetting) ∈ lw_tbl := List.mem_of_getElem? (i := 371) (by decide +kernel)
set_option maxRecDepth 20000 in
theorem wsL_in_r8_8 : (Cond.static yX4_checkSetting) ∈ lw_tbl := List.mem_of_getElem? (i := 372) (by decide +kernel)
set_option maxRecDepth 20000 in
theorem wsL_in_r8_9 : (Cond.code yX4_checkSetting cX4_checkSetting 1 none) ∈ lw_tbl := List.mem_of_getElem? (i := 373) (by decide +kernel)
set_option maxRecDepth 20000 in
theorem wsL_in_r8_10 : (Cond.methodLink RL 90 yL_sits) ∈ lw_tbl := List.mem_of_getElem? (i := 380) (by decide +kernel)
set_option maxRecDepth 20000 in
theorem wsL_in_r8_11 : (Cond.static yL_sits) ∈ lw_tbl := List.mem_of_getElem? (i := 381) (by decide +kernel)
set_option maxRecDepth 20000 in
theorem wsL_in_r8_12 : (Cond.code yL_sits cL_sits 17 (some .boolean)) ∈ lw_tbl := List.mem_of_getElem? (i := 382) rfl
set_option maxRecDepth 20000 in
theorem wsL_in_r8_13 : (Cond.methodLink RL 48 yX4_leave) ∈ lw_tbl := List.mem_of_getElem? (i := 383) (by decide +kernel)
set_option maxRecDepth 20000 in
theorem wsL_in_r8_14 : (Cond.instanceMethod yX4_leave) ∈ lw_tbl := List.mem_of_getElem? (i := 384) (by decide +kernel)
set_option maxRecDepth 20000 in
theorem wsL_in_r8_15 : (Cond.selects RX4 yX4_leave yX4_leave) ∈ lw_tbl := List.mem_of_getElem? (i := 385) (by decide +kernel)
set_option maxRecDepth 20000 in
theorem wsL_in_r8_16 : (Cond.code yX4_leave cX4_leave 3 (some .int)) ∈ lw_tbl := List.mem_of_getElem? (i := 386) (by decide +kernel)
set_option maxRecDepth 20000 in
theorem wsL_in_r8_17 : (Cond.methodLink RX4 116 yX4_checkSeat) ∈ lw_tbl := List.mem_of_getElem? (i := 387) (by decide +kernel)
set_option maxRecDepth 20000 in
theorem wsL_in_r8_18 : (Cond.instanceMethod yX4_checkSeat) ∈ lw_tbl := List.mem_of_getElem? (i := 389) (by decide +kernel)
set_option maxRecDepth 20000 in
theorem wsL_in_r8_19 : (Cond.selects RX4 yX4_checkSeat yX4_checkSeat) ∈ lw_tbl := List.mem_of_getElem? (i := 6) (by decide +kernel)
set_option maxRecDepth 20000 in
theorem wsL_in_r8_20 : (Cond.code yX4_checkSeat cX4_checkSeat 3 none) ∈ lw_tbl := List.mem_of_getElem? (i := 390) (by decide +kernel)
set_option maxRecDepth 20000 in
theorem wsL_in_r8_21 : (Cond.fieldLink RX4 268 "HallSights$Hall" "seats" "[I") ∈ lw_tbl := List.mem_of_getElem? (i := 60) (by decide +kernel)
set_option maxRecDepth 20000 in
theorem wsL_in_r8_22 : (Cond.methodLink RX4 120 yX0_isTaken) ∈ lw_tbl := List.mem_of_getElem? (i := 392) (by decide +kernel)
set_option maxRecDepth 20000 in
theorem wsL_in_r8_23 : (Cond.instanceMethod yX0_isTaken) ∈ lw_tbl := List.mem_of_getElem? (i := 393) (by decide +kernel)
theorem wsL_in_r8 : ∀ w ∈ wsL_law0_r8, w ∈ lw_tbl := (List.forall_mem_cons.mpr ⟨wsL_in_r8_0, (List.forall_mem_cons.mpr ⟨wsL_in_r8_1, (List.forall_mem_cons.mpr ⟨wsL_in_r8_2, (List.forall_mem_cons.mpr ⟨wsL_in_r8_3, (List.forall_mem_cons.mpr ⟨wsL_in_r8_4, (List.forall_mem_cons.mpr ⟨wsL_in_r8_5, (List.forall_mem_cons.mpr ⟨wsL_in_r8_6, (List.forall_mem_cons.mpr ⟨wsL_in_r8_7, (List.forall_mem_cons.mpr ⟨wsL_in_r8_8, (List.forall_mem_cons.mpr ⟨wsL_in_r8_9, (List.forall_mem_cons.mpr ⟨wsL_in_r8_10, (List.forall_mem_cons.mpr ⟨wsL_in_r8_11, (List.forall_mem_cons.mpr ⟨wsL_in_r8_12, (List.forall_mem_cons.mpr ⟨wsL_in_r8_13, (List.forall_mem_cons.mpr ⟨wsL_in_r8_14, (List.forall_mem_cons.mpr ⟨wsL_in_r8_15, (List.forall_mem_cons.mpr ⟨wsL_in_r8_16, (List.forall_mem_cons.mpr ⟨wsL_in_r8_17, (List.forall_mem_cons.mpr ⟨wsL_in_r8_18, (List.forall_mem_cons.mpr ⟨wsL_in_r8_19, (List.forall_mem_cons.mpr ⟨wsL_in_r8_20, (List.forall_mem_cons.mpr ⟨wsL_in_r8_21, (List.forall_mem_cons.mpr ⟨wsL_in_r8_22, (List.forall_mem_cons.mpr ⟨wsL_in_r8_23, (fun _ h9 => absurd h9 List.not_mem_nil)⟩)⟩)⟩)⟩)⟩)⟩)⟩)⟩)⟩)⟩)⟩)⟩)⟩)⟩)⟩)⟩)⟩)⟩)⟩)⟩)⟩)⟩)⟩)⟩)

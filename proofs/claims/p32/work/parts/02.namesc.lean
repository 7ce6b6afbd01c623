set_option maxRecDepth 20000 in
theorem wsL_in_r9_0 : (Cond.selects RX0 yX0_isTaken yX0_isTaken) ∈ lw_tbl := List.mem_of_getElem? (i := 394) (by decide +kernel)
set_option maxRecDepth 20000 in
theorem wsL_in_r9_1 : (Cond.code yX0_isTaken cX0_isTaken 3 (some .boolean)) ∈ lw_tbl := List.mem_of_getElem? (i := 395) (by decide +kernel)
set_option maxRecDepth 20000 in
theorem wsL_in_r9_2 : (Cond.methodLink RX4 136 yX0_vacate) ∈ lw_tbl := List.mem_of_getElem? (i := 397) (by decide +kernel)
set_option maxRecDepth 20000 in
theorem wsL_in_r9_3 : (Cond.instanceMethod yX0_vacate) ∈ lw_tbl := List.mem_of_getElem? (i := 398) (by decide +kernel)
set_option maxRecDepth 20000 in
theorem wsL_in_r9_4 : (Cond.selects RX0 yX0_vacate yX0_vacate) ∈ lw_tbl := List.mem_of_getElem? (i := 399) (by decide +kernel)
set_option maxRecDepth 20000 in
theorem wsL_in_r9_5 : (Cond.code yX0_vacate cX0_vacate 3 none) ∈ lw_tbl := List.mem_of_getElem? (i := 400) (by decide +kernel)
set_option maxRecDepth 20000 in
theorem wsL_in_r9_6 : (Cond.methodLink RX0 53 yX0_bitsOf) ∈ lw_tbl := List.mem_of_getElem? (i := 401) (by decide +kernel)
set_option maxRecDepth 20000 in
theorem wsL_in_r9_7 : (Cond.static yX0_bitsOf) ∈ lw_tbl := List.mem_of_getElem? (i := 402) (by decide +kernel)
set_option maxRecDepth 20000 in
theorem wsL_in_r9_8 : (Cond.code yX0_bitsOf cX0_bitsOf 2 (some .int)) ∈ lw_tbl := List.mem_of_getElem? (i := 403) (by decide +kernel)
set_option maxRecDepth 20000 in
theorem wsL_in_r9_9 : (Cond.methodLink RX4 139 yX0_takenInAll) ∈ lw_tbl := List.mem_of_getElem? (i := 404) (by decide +kernel)
set_option maxRecDepth 20000 in
theorem wsL_in_r9_10 : (Cond.instanceMethod yX0_takenInAll) ∈ lw_tbl := List.mem_of_getElem? (i := 405) (by decide +kernel)
set_option maxRecDepth 20000 in
theorem wsL_in_r9_11 : (Cond.selects RX0 yX0_takenInAll yX0_takenInAll) ∈ lw_tbl := List.mem_of_getElem? (i := 406) (by decide +kernel)
set_option maxRecDepth 20000 in
theorem wsL_in_r9_12 : (Cond.code yX0_takenInAll cX0_takenInAll 3 (some .int)) ∈ lw_tbl := List.mem_of_getElem? (i := 407) (by decide +kernel)
set_option maxRecDepth 20000 in
theorem wsL_in_r9_13 : (Cond.methodLink RX0 63 yX0_takenInRow) ∈ lw_tbl := List.mem_of_getElem? (i := 408) (by decide +kernel)
set_option maxRecDepth 20000 in
theorem wsL_in_r9_14 : (Cond.instanceMethod yX0_takenInRow) ∈ lw_tbl := List.mem_of_getElem? (i := 409) (by decide +kernel)
set_option maxRecDepth 20000 in
theorem wsL_in_r9_15 : (Cond.selects RX0 yX0_takenInRow yX0_takenInRow) ∈ lw_tbl := List.mem_of_getElem? (i := 410) (by decide +kernel)
set_option maxRecDepth 20000 in
theorem wsL_in_r9_16 : (Cond.code yX0_takenInRow cX0_takenInRow 2 (some .int)) ∈ lw_tbl := List.mem_of_getElem? (i := 411) (by decide +kernel)
set_option maxRecDepth 20000 in
theorem wsL_in_r9_17 : (Cond.methodLink RX0 57 yJ6_bitCount_0f7a4) ∈ lw_tbl := List.mem_of_getElem? (i := 412) (by decide +kernel)
set_option maxRecDepth 20000 in
theorem wsL_in_r9_18 : (Cond.static yJ6_bitCount_0f7a4) ∈ lw_tbl := List.mem_of_getElem? (i := 413) (by decide +kernel)
set_option maxRecDepth 20000 in
theorem wsL_in_r9_19 : (Cond.initialized RJ6) ∈ lw_tbl := List.mem_of_getElem? (i := 29) (by decide +kernel)
set_option maxRecDepth 20000 in
theorem wsL_in_r9_20 : (Cond.code yJ6_bitCount_0f7a4 cJ6_bitCount_0f7a4 1 (some .int)) ∈ lw_tbl := List.mem_of_getElem? (i := 414) (by decide +kernel)
set_option maxRecDepth 20000 in
theorem wsL_in_r9_21 : (Cond.constant RJ6 265 (1431655765)) ∈ lw_tbl := List.mem_of_getElem? (i := 415) rfl
set_option maxRecDepth 20000 in
theorem wsL_in_r9_22 : (Cond.constant RJ6 266 (858993459)) ∈ lw_tbl := List.mem_of_getElem? (i := 416) rfl
set_option maxRecDepth 20000 in
theorem wsL_in_r9_23 : (Cond.constant RJ6 267 (252645135)) ∈ lw_tbl := List.mem_of_getElem? (i := 417) rfl
theorem wsL_in_r9 : ∀ w ∈ wsL_law0_r9, w ∈ lw_tbl := (List.forall_mem_cons.mpr ⟨wsL_in_r9_0, (List.forall_mem_cons.mpr ⟨wsL_in_r9_1, (List.forall_mem_cons.mpr ⟨wsL_in_r9_2, (List.forall_mem_cons.mpr ⟨wsL_in_r9_3, (List.forall_mem_cons.mpr ⟨wsL_in_r9_4, (List.forall_mem_cons.mpr ⟨wsL_in_r9_5, (List.forall_mem_cons.mpr ⟨wsL_in_r9_6, (List.forall_mem_cons.mpr ⟨wsL_in_r9_7, (List.forall_mem_cons.mpr ⟨wsL_in_r9_8, (List.forall_mem_cons.mpr ⟨wsL_in_r9_9, (List.forall_mem_cons.mpr ⟨wsL_in_r9_10, (List.forall_mem_cons.mpr ⟨wsL_in_r9_11, (List.forall_mem_cons.mpr ⟨wsL_in_r9_12, (List.forall_mem_cons.mpr ⟨wsL_in_r9_13, (List.forall_mem_cons.mpr ⟨wsL_in_r9_14, (List.forall_mem_cons.mpr ⟨wsL_in_r9_15, (List.forall_mem_cons.mpr ⟨wsL_in_r9_16, (List.forall_mem_cons.mpr ⟨wsL_in_r9_17, (List.forall_mem_cons.mpr ⟨wsL_in_r9_18, (List.forall_mem_cons.mpr ⟨wsL_in_r9_19, (List.forall_mem_cons.mpr ⟨wsL_in_r9_20, (List.forall_mem_cons.mpr ⟨wsL_in_r9_21, (List.forall_mem_cons.mpr ⟨wsL_in_r9_22, (List.forall_mem_cons.mpr ⟨wsL_in_r9_23, (fun _ h9 => absurd h9 List.not_mem_nil)⟩)⟩)⟩)⟩)⟩)⟩)⟩)⟩)⟩)⟩)⟩)⟩)⟩)⟩)⟩)⟩)⟩)⟩)⟩)⟩)⟩)⟩)⟩)⟩)
set_option maxRecDepth 20000 in
theorem wsL_in_r10 : ∀ w ∈ wsL_law0_r10, w ∈ lw_tbl := fun w h => (goodIn_r wsL_law0_r10 [418, 419, 420, 421, 423, 424, 425, 426, 427, 428, 429, 430, 431, 432, 433, 434, 435, 440, 441, 30, 442, 436, 437, 438] (by decide +kernel) (by decide +kernel) w h).1
set_option maxRecDepth 20000 in
theorem wsL_in_r11_0 : (Cond.code yX0_sideOf cX0_sideOf 3 (some .int)) ∈ lw_tbl := List.mem_of_getElem? (i := 439) (by decide +kernel)
set_option maxRecDepth 20000 in
theorem wsL_in_r11_1 : (Cond.methodLink RX0 81 yX0_headOverPoint) ∈ lw_tbl := List.mem_of_getElem? (i := 443) (by decide +kernel)
set_option maxRecDepth 20000 in
theorem wsL_in_r11_2 : (Cond.instanceMethod yX0_headOverPoint) ∈ lw_tbl := List.mem_of_getElem? (i := 445) (by decide +kernel)
set_option maxRecDepth 20000 in
theorem wsL_in_r11_3 : (Cond.selects RX0 yX0_headOverPoint yX0_headOverPoint) ∈ lw_tbl := List.mem_of_getElem? (i := 7) (by decide +kernel)
set_option maxRecDepth 20000 in
theorem wsL_in_r11_4 : (Cond.code yX0_headOverPoint cX0_headOverPoint 2 (some .int)) ∈ lw_tbl := List.mem_of_getElem? (i := 446) (by decide +kernel)
set_option maxRecDepth 20000 in
theorem wsL_in_r11_5 : (Cond.methodLink RX0 84 yX0_eyeOverPoint) ∈ lw_tbl := List.mem_of_getElem? (i := 447) (by decide +kernel)
set_option maxRecDepth 20000 in
theorem wsL_in_r11_6 : (Cond.instanceMethod yX0_eyeOverPoint) ∈ lw_tbl := List.mem_of_getElem? (i := 449) (by decide +kernel)
set_option maxRecDepth 20000 in
theorem wsL_in_r11_7 : (Cond.selects RX0 yX0_eyeOverPoint yX0_eyeOverPoint) ∈ lw_tbl := List.mem_of_getElem? (i := 8) (by decide +kernel)
set_option maxRecDepth 20000 in
theorem wsL_in_r11_8 : (Cond.code yX0_eyeOverPoint cX0_eyeOverPoint 2 (some .int)) ∈ lw_tbl := List.mem_of_getElem? (i := 450) (by decide +kernel)
set_option maxRecDepth 20000 in
theorem wsL_in_r11_9 : (Cond.methodLink RL 54 yL_people) ∈ lw_tbl := List.mem_of_getElem? (i := 451) (by decide +kernel)
set_option maxRecDepth 20000 in
theorem wsL_in_r11_10 : (Cond.static yL_people) ∈ lw_tbl := List.mem_of_getElem? (i := 452) (by decide +kernel)
set_option maxRecDepth 20000 in
theorem wsL_in_r11_11 : (Cond.code yL_people cL_people 7 (some .int)) ∈ lw_tbl := List.mem_of_getElem? (i := 453) rfl
set_option maxRecDepth 20000 in
theorem wsL_in_r11_12 : (Cond.methodLink RL 14 yL_inWay) ∈ lw_tbl := List.mem_of_getElem? (i := 454) (by decide +kernel)
set_option maxRecDepth 20000 in
theorem wsL_in_r11_13 : (Cond.static yL_inWay) ∈ lw_tbl := List.mem_of_getElem? (i := 455) (by decide +kernel)
set_option maxRecDepth 20000 in
theorem wsL_in_r11_14 : (Cond.code yL_inWay cL_inWay 11 (some .boolean)) ∈ lw_tbl := List.mem_of_getElem? (i := 456) rfl
set_option maxRecDepth 20000 in
theorem wsL_in_r11_15 : (Cond.methodLink RL 8 yL_side) ∈ lw_tbl := List.mem_of_getElem? (i := 457) (by decide +kernel)
set_option maxRecDepth 20000 in
theorem wsL_in_r11_16 : (Cond.static yL_side) ∈ lw_tbl := List.mem_of_getElem? (i := 458) (by decide +kernel)
set_option maxRecDepth 20000 in
theorem wsL_in_r11_17 : (Cond.code yL_side cL_side 3 (some .int)) ∈ lw_tbl := List.mem_of_getElem? (i := 459) rfl
set_option maxRecDepth 20000 in
theorem wsL_in_r11_18 : (Cond.methodLink RL 58 yX4_clear) ∈ lw_tbl := List.mem_of_getElem? (i := 460) (by decide +kernel)
set_option maxRecDepth 20000 in
theorem wsL_in_r11_19 : (Cond.instanceMethod yX4_clear) ∈ lw_tbl := List.mem_of_getElem? (i := 461) (by decide +kernel)
set_option maxRecDepth 20000 in
theorem wsL_in_r11_20 : (Cond.selects RX4 yX4_clear yX4_clear) ∈ lw_tbl := List.mem_of_getElem? (i := 462) (by decide +kernel)
set_option maxRecDepth 20000 in
theorem wsL_in_r11_21 : (Cond.code yX4_clear cX4_clear 2 (some .int)) ∈ lw_tbl := List.mem_of_getElem? (i := 463) (by decide +kernel)
set_option maxRecDepth 20000 in
theorem wsL_in_r11_22 : (Cond.methodLink RX4 153 yX0_vacateAll) ∈ lw_tbl := List.mem_of_getElem? (i := 464) (by decide +kernel)
set_option maxRecDepth 20000 in
theorem wsL_in_r11_23 : (Cond.instanceMethod yX0_vacateAll) ∈ lw_tbl := List.mem_of_getElem? (i := 465) (by decide +kernel)
theorem wsL_in_r11 : ∀ w ∈ wsL_law0_r11, w ∈ lw_tbl := (List.forall_mem_cons.mpr ⟨wsL_in_r11_0, (List.forall_mem_cons.mpr ⟨wsL_in_r11_1, (List.forall_mem_cons.mpr ⟨wsL_in_r11_2, (List.forall_mem_cons.mpr ⟨wsL_in_r11_3, (List.forall_mem_cons.mpr ⟨wsL_in_r11_4, (List.forall_mem_cons.mpr ⟨wsL_in_r11_5, (List.forall_mem_cons.mpr ⟨wsL_in_r11_6, (List.forall_mem_cons.mpr ⟨wsL_in_r11_7, (List.forall_mem_cons.mpr ⟨wsL_in_r11_8, (List.forall_mem_cons.mpr ⟨wsL_in_r11_9, (List.forall_mem_cons.mpr ⟨wsL_in_r11_10, (List.forall_mem_cons.mpr ⟨wsL_in_r11_11, (List.forall_mem_cons.mpr ⟨wsL_in_r11_12, (List.forall_mem_cons.mpr ⟨wsL_in_r11_13, (List.forall_mem_cons.mpr ⟨wsL_in_r11_14, (List.forall_mem_cons.mpr ⟨wsL_in_r11_15, (List.forall_mem_cons.mpr ⟨wsL_in_r11_16, (List.forall_mem_cons.mpr ⟨wsL_in_r11_17, (List.forall_mem_cons.mpr ⟨wsL_in_r11_18, (List.forall_mem_cons.mpr ⟨wsL_in_r11_19, (List.forall_mem_cons.mpr ⟨wsL_in_r11_20, (List.forall_mem_cons.mpr ⟨wsL_in_r11_21, (List.forall_mem_cons.mpr ⟨wsL_in_r11_22, (List.forall_mem_cons.mpr ⟨wsL_in_r11_23, (fun _ h9 => absurd h9 List.not_mem_nil)⟩)⟩)⟩)⟩)⟩)⟩)⟩)⟩)⟩)⟩)⟩)⟩)⟩)⟩)⟩)⟩)⟩)⟩)⟩)⟩)⟩)⟩)⟩)⟩)
set_option maxRecDepth 20000 in
theorem wsL_in_r12_0 : (Cond.selects RX0 yX0_vacateAll yX0_vacateAll) ∈ lw_tbl := List.mem_of_getElem? (i := 466) (by decide +kernel)
set_option maxRecDepth 20000 in
theorem wsL_in_r12_1 : (Cond.code yX0_vacateAll cX0_vacateAll 2 none) ∈ lw_tbl := List.mem_of_getElem? (i := 467) (by decide +kernel)
set_option maxRecDepth 20000 in
theorem wsL_in_r12_2 : (Cond.methodLink RL 62 yL_columns) ∈ lw_tbl := List.mem_of_getElem? (i := 468) (by decide +kernel)
set_option maxRecDepth 20000 in
theorem wsL_in_r12_3 : (Cond.static yL_columns) ∈ lw_tbl := List.mem_of_getElem? (i := 469) (by decide +kernel)
set_option maxRecDepth 20000 in
theorem wsL_in_r12_4 : (Cond.code yL_columns cL_columns 9 (some .int)) ∈ lw_tbl := List.mem_of_getElem? (i := 470) rfl
set_option maxRecDepth 20000 in
theorem wsL_in_r12_5 : (Cond.methodLink RL 66 yX4_count) ∈ lw_tbl := List.mem_of_getElem? (i := 471) (by decide +kernel)
set_option maxRecDepth 20000 in
theorem wsL_in_r12_6 : (Cond.instanceMethod yX4_count) ∈ lw_tbl := List.mem_of_getElem? (i := 472) (by decide +kernel)
set_option maxRecDepth 20000 in
theorem wsL_in_r12_7 : (Cond.selects RX4 yX4_count yX4_count) ∈ lw_tbl := List.mem_of_getElem? (i := 473) (by decide +kernel)
set_option maxRecDepth 20000 in
theorem wsL_in_r12_8 : (Cond.code yX4_count cX4_count 2 (some .int)) ∈ lw_tbl := List.mem_of_getElem? (i := 474) (by decide +kernel)
set_option maxRecDepth 20000 in
theorem wsL_in_r12_9 : (Cond.methodLink RX4 206 yX4_checkWhat) ∈ lw_tbl := List.mem_of_getElem? (i := 475) (by decide +kernel)
set_option maxRecDepth 20000 in
theorem wsL_in_r12_10 : (Cond.static yX4_checkWhat) ∈ lw_tbl := List.mem_of_getElem? (i := 476) (by decide +kernel)
set_option maxRecDepth 20000 in
theorem wsL_in_r12_11 : (Cond.code yX4_checkWhat cX4_checkWhat 2 none) ∈ lw_tbl := List.mem_of_getElem? (i := 477) (by decide +kernel)
set_option maxRecDepth 20000 in
theorem wsL_in_r12_12 : (Cond.methodLink RX4 144 yX3_look) ∈ lw_tbl := List.mem_of_getElem? (i := 479) (by decide +kernel)
set_option maxRecDepth 20000 in
theorem wsL_in_r12_13 : (Cond.instanceMethod yX3_look) ∈ lw_tbl := List.mem_of_getElem? (i := 480) (by decide +kernel)
set_option maxRecDepth 20000 in
theorem wsL_in_r12_14 : (Cond.selects RX3 yX3_look yX3_look) ∈ lw_tbl := List.mem_of_getElem? (i := 481) (by decide +kernel)
set_option maxRecDepth 20000 in
theorem wsL_in_r12_15 : (Cond.code yX3_look cX3_look 4 none) ∈ lw_tbl := List.mem_of_getElem? (i := 482) (by decide +kernel)
set_option maxRecDepth 20000 in
theorem wsL_in_r12_16 : (Cond.fieldLink RX3 32 "HallSights$Hall" "rows" "I") ∈ lw_tbl := List.mem_of_getElem? (i := 52) (by decide +kernel)
set_option maxRecDepth 20000 in
theorem wsL_in_r12_17 : (Cond.fieldLink RX3 36 "HallSights$Hall" "seats" "[I") ∈ lw_tbl := List.mem_of_getElem? (i := 59) (by decide +kernel)
set_option maxRecDepth 20000 in
theorem wsL_in_r12_18 : (Cond.methodLink RX3 39 yX3_cellOf) ∈ lw_tbl := List.mem_of_getElem? (i := 483) (by decide +kernel)
set_option maxRecDepth 20000 in
theorem wsL_in_r12_19 : (Cond.static yX3_cellOf) ∈ lw_tbl := List.mem_of_getElem? (i := 484) (by decide +kernel)
set_option maxRecDepth 20000 in
theorem wsL_in_r12_20 : (Cond.code yX3_cellOf cX3_cellOf 2 (some .int)) ∈ lw_tbl := List.mem_of_getElem? (i := 485) (by decide +kernel)
set_option maxRecDepth 20000 in
theorem wsL_in_r12_21 : (Cond.methodLink RX3 43 yX0_peopleInWay) ∈ lw_tbl := List.mem_of_getElem? (i := 486) (by decide +kernel)
set_option maxRecDepth 20000 in
theorem wsL_in_r12_22 : (Cond.methodLink RX3 46 yX0_columnsInWay) ∈ lw_tbl := List.mem_of_getElem? (i := 487) (by decide +kernel)
set_option maxRecDepth 20000 in
theorem wsL_in_r12_23 : (Cond.instanceMethod yX0_columnsInWay) ∈ lw_tbl := List.mem_of_getElem? (i := 488) (by decide +kernel)
theorem wsL_in_r12 : ∀ w ∈ wsL_law0_r12, w ∈ lw_tbl := (List.forall_mem_cons.mpr ⟨wsL_in_r12_0, (List.forall_mem_cons.mpr ⟨wsL_in_r12_1, (List.forall_mem_cons.mpr ⟨wsL_in_r12_2, (List.forall_mem_cons.mpr ⟨wsL_in_r12_3, (List.forall_mem_cons.mpr ⟨wsL_in_r12_4, (List.forall_mem_cons.mpr ⟨wsL_in_r12_5, (List.forall_mem_cons.mpr ⟨wsL_in_r12_6, (List.forall_mem_cons.mpr ⟨wsL_in_r12_7, (List.forall_mem_cons.mpr ⟨wsL_in_r12_8, (List.forall_mem_cons.mpr ⟨wsL_in_r12_9, (List.forall_mem_cons.mpr ⟨wsL_in_r12_10, (List.forall_mem_cons.mpr ⟨wsL_in_r12_11, (List.forall_mem_cons.mpr ⟨wsL_in_r12_12, (List.forall_mem_cons.mpr ⟨wsL_in_r12_13, (List.forall_mem_cons.mpr ⟨wsL_in_r12_14, (List.forall_mem_cons.mpr ⟨wsL_in_r12_15, (List.forall_mem_cons.mpr ⟨wsL_in_r12_16, (List.forall_mem_cons.mpr ⟨wsL_in_r12_17, (List.forall_mem_cons.mpr ⟨wsL_in_r12_18, (List.forall_mem_cons.mpr ⟨wsL_in_r12_19, (List.forall_mem_cons.mpr ⟨wsL_in_r12_20, (List.forall_mem_cons.mpr ⟨wsL_in_r12_21, (List.forall_mem_cons.mpr ⟨wsL_in_r12_22, (List.forall_mem_cons.mpr ⟨wsL_in_r12_23, (fun _ h9 => absurd h9 List.not_mem_nil)⟩)⟩)⟩)⟩)⟩)⟩)⟩)⟩)⟩)⟩)⟩)⟩)⟩)⟩)⟩)⟩)⟩)⟩)⟩)⟩)⟩)⟩)⟩)⟩)
set_option maxRecDepth 20000 in
theorem wsL_in_r13 : ∀ w ∈ wsL_law0_r13, w ∈ lw_tbl := fun w h => (goodIn_r wsL_law0_r13 [489, 490, 491, 492, 493, 494, 495, 497, 9, 498, 504, 499, 501, 10, 502, 503, 505, 507, 11, 508, 124, 509, 510, 511] (by decide +kernel) (by decide +kernel) w h).1
set_option maxRecDepth 20000 in
theorem wsL_in_r14 : ∀ w ∈ wsL_law0_r14, w ∈ lw_tbl := fun w h => (goodIn_r wsL_law0_r14 [512, 513, 514, 515, 516, 517, 518, 519, 520, 521, 522, 523, 524, 525, 526, 527, 528, 529, 530, 531, 532, 533, 534, 535] (by decide +kernel) (by decide +kernel) w h).1
set_option maxRecDepth 20000 in
theorem wsL_in_r15_0 : (Cond.code Lib.Math.max.name Lib.Math.max.code 2 (some .int)) ∈ lw_tbl := List.mem_of_getElem? (i := 536) (by decide +kernel)
set_option maxRecDepth 20000 in
theorem wsL_in_r15_1 : (Cond.methodLink RL 69 yX4_seatParty) ∈ lw_tbl := List.mem_of_getElem? (i := 537) (by decide +kernel)
set_option maxRecDepth 20000 in
theorem wsL_in_r15_2 : (Cond.instanceMethod yX4_seatParty) ∈ lw_tbl := List.mem_of_getElem? (i := 538) (by decide +kernel)
set_option maxRecDepth 20000 in
theorem wsL_in_r15_3 : (Cond.selects RX4 yX4_seatParty yX4_seatParty) ∈ lw_tbl := List.mem_of_getElem? (i := 539) (by decide +kernel)
set_option maxRecDepth 20000 in
theorem wsL_in_r15_4 : (Cond.code yX4_seatParty cX4_seatParty 3 (some .int)) ∈ lw_tbl := List.mem_of_getElem? (i := 540) (by decide +kernel)
set_option maxRecDepth 20000 in
theorem wsL_in_r15_5 : (Cond.methodLink RX4 147 yX3_placeForParty) ∈ lw_tbl := List.mem_of_getElem? (i := 542) (by decide +kernel)
set_option maxRecDepth 20000 in
theorem wsL_in_r15_6 : (Cond.instanceMethod yX3_placeForParty) ∈ lw_tbl := List.mem_of_getElem? (i := 543) (by decide +kernel)
set_option maxRecDepth 20000 in
theorem wsL_in_r15_7 : (Cond.selects RX3 yX3_placeForParty yX3_placeForParty) ∈ lw_tbl := List.mem_of_getElem? (i := 544) (by decide +kernel)
set_option maxRecDepth 20000 in
theorem wsL_in_r15_8 : (Cond.code yX3_placeForParty cX3_placeForParty 7 (some .int)) ∈ lw_tbl := List.mem_of_getElem? (i := 545) (by decide +kernel)
set_option maxRecDepth 20000 in
theorem wsL_in_r15_9 : (Cond.methodLink RX3 78 yX3_allInWayOfParty) ∈ lw_tbl := List.mem_of_getElem? (i := 546) (by decide +kernel)
set_option maxRecDepth 20000 in
theorem wsL_in_r15_10 : (Cond.instanceMethod yX3_allInWayOfParty) ∈ lw_tbl := List.mem_of_getElem? (i := 548) (by decide +kernel)
set_option maxRecDepth 20000 in
theorem wsL_in_r15_11 : (Cond.selects RX3 yX3_allInWayOfParty yX3_allInWayOfParty) ∈ lw_tbl := List.mem_of_getElem? (i := 12) (by decide +kernel)
set_option maxRecDepth 20000 in
theorem wsL_in_r15_12 : (Cond.code yX3_allInWayOfParty cX3_allInWayOfParty 6 (some .int)) ∈ lw_tbl := List.mem_of_getElem? (i := 549) (by decide +kernel)
set_option maxRecDepth 20000 in
theorem wsL_in_r15_13 : (Cond.methodLink RX3 82 yX0_areFree) ∈ lw_tbl := List.mem_of_getElem? (i := 550) (by decide +kernel)
set_option maxRecDepth 20000 in
theorem wsL_in_r15_14 : (Cond.instanceMethod yX0_areFree) ∈ lw_tbl := List.mem_of_getElem? (i := 551) (by decide +kernel)
set_option maxRecDepth 20000 in
theorem wsL_in_r15_15 : (Cond.selects RX0 yX0_areFree yX0_areFree) ∈ lw_tbl := List.mem_of_getElem? (i := 552) (by decide +kernel)
set_option maxRecDepth 20000 in
theorem wsL_in_r15_16 : (Cond.code yX0_areFree cX0_areFree 4 (some .boolean)) ∈ lw_tbl := List.mem_of_getElem? (i := 553) (by decide +kernel)
set_option maxRecDepth 20000 in
theorem wsL_in_r15_17 : (Cond.methodLink RL 93 yL_agree) ∈ lw_tbl := List.mem_of_getElem? (i := 555) (by decide +kernel)
set_option maxRecDepth 20000 in
theorem wsL_in_r15_18 : (Cond.static yL_agree) ∈ lw_tbl := List.mem_of_getElem? (i := 556) (by decide +kernel)
set_option maxRecDepth 20000 in
theorem wsL_in_r15_19 : (Cond.code yL_agree cL_agree 12 (some .boolean)) ∈ lw_tbl := List.mem_of_getElem? (i := 557) rfl
set_option maxRecDepth 20000 in
theorem wsL_in_r15_20 : (Cond.methodLink RL 72 yX4_row) ∈ lw_tbl := List.mem_of_getElem? (i := 558) (by decide +kernel)
set_option maxRecDepth 20000 in
theorem wsL_in_r15_21 : (Cond.instanceMethod yX4_row) ∈ lw_tbl := List.mem_of_getElem? (i := 559) (by decide +kernel)
set_option maxRecDepth 20000 in
theorem wsL_in_r15_22 : (Cond.selects RX4 yX4_row yX4_row) ∈ lw_tbl := List.mem_of_getElem? (i := 560) (by decide +kernel)
set_option maxRecDepth 20000 in
theorem wsL_in_r15_23 : (Cond.code yX4_row cX4_row 3 (some .int)) ∈ lw_tbl := List.mem_of_getElem? (i := 561) (by decide +kernel)
theorem wsL_in_r15 : ∀ w ∈ wsL_law0_r15, w ∈ lw_tbl := (List.forall_mem_cons.mpr ⟨wsL_in_r15_0, (List.forall_mem_cons.mpr ⟨wsL_in_r15_1, (List.forall_mem_cons.mpr ⟨wsL_in_r15_2, (List.forall_mem_cons.mpr ⟨wsL_in_r15_3, (List.forall_mem_cons.mpr ⟨wsL_in_r15_4, (List.forall_mem_cons.mpr ⟨wsL_in_r15_5, (List.forall_mem_cons.mpr ⟨wsL_in_r15_6, (List.forall_mem_cons.mpr ⟨wsL_in_r15_7, (List.forall_mem_cons.mpr ⟨wsL_in_r15_8, (List.forall_mem_cons.mpr ⟨wsL_in_r15_9, (List.forall_mem_cons.mpr ⟨wsL_in_r15_10, (List.forall_mem_cons.mpr ⟨wsL_in_r15_11, (List.forall_mem_cons.mpr ⟨wsL_in_r15_12, (List.forall_mem_cons.mpr ⟨wsL_in_r15_13, (List.forall_mem_cons.mpr ⟨wsL_in_r15_14, (List.forall_mem_cons.mpr ⟨wsL_in_r15_15, (List.forall_mem_cons.mpr ⟨wsL_in_r15_16, (List.forall_mem_cons.mpr ⟨wsL_in_r15_17, (List.forall_mem_cons.mpr ⟨wsL_in_r15_18, (List.forall_mem_cons.mpr ⟨wsL_in_r15_19, (List.forall_mem_cons.mpr ⟨wsL_in_r15_20, (List.forall_mem_cons.mpr ⟨wsL_in_r15_21, (List.forall_mem_cons.mpr ⟨wsL_in_r15_22, (List.forall_mem_cons.mpr ⟨wsL_in_r15_23, (fun _ h9 => absurd h9 List.not_mem_nil)⟩)⟩)⟩)⟩)⟩)⟩)⟩)⟩)⟩)⟩)⟩)⟩)⟩)⟩)⟩)⟩)⟩)⟩)⟩)⟩)⟩)⟩)⟩)⟩)
set_option maxRecDepth 20000 in
theorem wsL_in_r16 : ∀ w ∈ wsL_law0_r16, w ∈ lw_tbl := fun w h => (goodIn_r wsL_law0_r16 [562, 564, 13, 565, 55, 566, 567, 568, 569, 570, 571, 572, 574, 14, 575, 98, 100, 576, 577, 578, 579, 580, 581, 582] (by decide +kernel) (by decide +kernel) w h).1

set_option maxRecDepth 20000 in
theorem wsL_in_r1 : ∀ w ∈ wsL_law0_r1, w ∈ lw_tbl := fun w h => (goodIn_r wsL_law0_r1 [31, 32, 17, 93, 33, 34, 35, 36, 37, 38, 39, 40, 18, 150, 95, 151, 152, 113, 114, 20, 153, 130, 131, 21] (by decide +kernel) (by decide +kernel) w h).1
set_option maxRecDepth 20000 in
theorem wsL_in_r2 : ∀ w ∈ wsL_law0_r2, w ∈ lw_tbl := fun w h => (goodIn_r wsL_law0_r2 [154, 42, 43, 44, 45, 46, 19, 94, 97, 99, 101, 48, 49, 50, 54, 56, 58, 61, 64, 66, 68, 70, 115, 116] (by decide +kernel) (by decide +kernel) w h).1
set_option maxRecDepth 20000 in
theorem wsL_in_r3 : ∀ w ∈ wsL_law0_r3, w ∈ lw_tbl := fun w h => (goodIn_r wsL_law0_r3 [117, 118, 119, 122, 133, 134, 135, 149, 136, 137, 166, 167, 16, 168, 169, 170, 171, 172, 173, 174, 175, 176, 177, 178] (by decide +kernel) (by decide +kernel) w h).1
set_option maxRecDepth 20000 in
theorem wsL_in_r4 : ∀ w ∈ wsL_law0_r4, w ∈ lw_tbl := fun w h => (goodIn_r wsL_law0_r4 [179, 180, 25, 257, 26, 248, 249, 250, 253, 254, 255, 256, 51, 273, 275, 1, 276, 277, 278, 279, 280, 123, 281, 283] (by decide +kernel) (by decide +kernel) w h).1
set_option maxRecDepth 20000 in
theorem wsL_in_r5 : ∀ w ∈ wsL_law0_r5, w ∈ lw_tbl := fun w h => (goodIn_r wsL_law0_r5 [2, 284, 285, 286, 287, 288, 289, 291, 290, 27, 62, 292, 293, 294, 295, 96, 296, 297, 298, 299, 300, 302, 3, 303] (by decide +kernel) (by decide +kernel) w h).1
set_option maxRecDepth 20000 in
theorem wsL_in_r6 : ∀ w ∈ wsL_law0_r6, w ∈ lw_tbl := fun w h => (goodIn_r wsL_law0_r6 [304, 305, 306, 307, 308, 310, 4, 311, 312, 28, 53, 328, 329, 330, 331, 332, 333, 334, 335, 336, 337, 338, 339, 340] (by decide +kernel) (by decide +kernel) w h).1
set_option maxRecDepth 20000 in
theorem wsL_in_r7 : ∀ w ∈ wsL_law0_r7, w ∈ lw_tbl := fun w h => (goodIn_r wsL_law0_r7 [341, 342, 63, 343, 345, 5, 346, 348, 349, 350, 351, 352, 353, 354, 355, 359, 360, 361, 362, 363, 364, 365, 366, 57] (by decide +kernel) (by decide +kernel) w h).1
set_option maxRecDepth 20000 in
theorem wsL_in_r8 : ∀ w ∈ wsL_law0_r8, w ∈ lw_tbl := fun w h => (goodIn_r wsL_law0_r8 [367, 368, 369, 370, 375, 377, 71, 371, 372, 373, 380, 381, 382, 383, 384, 385, 386, 387, 389, 6, 390, 60, 392, 393] (by decide +kernel) (by decide +kernel) w h).1

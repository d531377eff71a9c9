/-! ===== the methods' words among the law's ===== -/
set_option maxRecDepth 20000 in
theorem ggL_law_X6_init : GoodIn wsL_law wsX6_init := goodIn_r _ [7, 8, 9, 10, 11, 12, 13, 14, 15, 16, 17, 18, 19, 20, 21, 22, 23, 24, 25, 26, 27, 28, 29, 30, 31, 32, 33, 34, 35, 3, 36, 37, 38, 39, 40, 41, 42, 43, 44, 45, 46, 47, 48, 49, 50, 51, 52, 53, 54, 55, 56, 57, 58, 59, 60, 61, 62, 63, 64, 65, 66, 67, 68, 69, 70, 71, 72, 73, 74, 75, 76, 77, 78, 79, 80, 81, 82, 83, 84, 85, 86, 87, 88, 89, 90, 91, 92, 93, 393, 394, 395, 396, 397, 398, 399, 400, 401, 402, 403, 404, 405, 406, 407, 408, 409, 388, 389, 390, 391, 392, 410, 411, 412, 413, 414, 415, 416, 417, 418, 419, 420, 421, 422, 423, 424, 425, 426, 427, 428, 429, 430] (by decide +kernel) (by decide +kernel)
set_option maxRecDepth 20000 in
theorem gL_law_X6_init : GoodIn wsL_law (wsX6_init) := ggL_law_X6_init
set_option maxRecDepth 20000 in
theorem ggL_law_L_cell : GoodIn wsL_law wsL_cell := goodIn_r _ [97, 98] (by decide +kernel) (by decide +kernel)
set_option maxRecDepth 20000 in
theorem gL_law_L_cell : GoodIn wsL_law (va_wsS RL 63 yL_cell wsL_cell) := goodIn_app (goodIn_of _ (by decide +kernel)) ggL_law_L_cell
set_option maxRecDepth 20000 in
theorem ggL_law_L_up : GoodIn wsL_law wsL_up := goodIn_r _ [101, 102] (by decide +kernel) (by decide +kernel)
set_option maxRecDepth 20000 in
theorem gL_law_L_up : GoodIn wsL_law (va_wsS RL 9 yL_up wsL_up) := goodIn_app (goodIn_of _ (by decide +kernel)) ggL_law_L_up
set_option maxRecDepth 20000 in
theorem ggL_law_X6_set : GoodIn wsL_law wsX6_set := goodIn_r _ [106, 107, 108, 109, 18, 14, 110, 111, 112, 2, 113, 114, 115, 116, 117, 118, 119, 17, 120, 68, 67, 121, 122, 123, 124, 125, 126, 13, 127, 35, 36, 37, 38, 39, 40, 41, 42, 43, 44, 45, 46, 47, 48, 49, 50, 51, 128, 129, 130, 29, 131, 55, 56, 57, 58, 59, 60, 61, 132, 133, 134, 135, 136, 137, 138, 139, 140, 141, 142, 143, 144, 145, 146, 147, 148, 149, 388, 389, 390, 391, 392, 393, 394, 395, 396, 397, 398, 399, 400, 401, 402, 403, 404, 405, 406, 407, 408, 409, 410, 411, 417, 418, 419, 420, 421, 422, 423] (by decide +kernel) (by decide +kernel)
set_option maxRecDepth 20000 in
theorem gL_law_X6_set : GoodIn wsL_law (wsV RL 67 RX6 yX6_set wsX6_set) := goodIn_app (goodIn_of _ (by decide +kernel)) ggL_law_X6_set
set_option maxRecDepth 20000 in
theorem gp_isStep_1 : GoodIn wsL_law wsL_isStep_r1 := goodIn_r _ [153, 99, 100, 96, 101, 102, 154, 155, 156, 2, 157, 109, 14, 158, 159, 160, 161, 162, 163, 164, 114, 115, 116, 165] (by decide +kernel) (by decide +kernel)
set_option maxRecDepth 20000 in
theorem gp_isStep_2 : GoodIn wsL_law wsL_isStep_r2 := goodIn_r _ [166, 167, 13, 168, 38, 39, 169, 170, 171, 172, 173, 174, 175, 18, 117, 118, 119, 17, 120, 68, 67, 121, 122, 123] (by decide +kernel) (by decide +kernel)
set_option maxRecDepth 20000 in
theorem gp_isStep_3 : GoodIn wsL_law wsL_isStep_r3 := goodIn_r _ [124, 125, 126, 127, 35, 36, 37, 40, 41, 42, 43, 44, 45, 46, 47, 48, 49, 50, 51, 128, 129, 130, 29, 131] (by decide +kernel) (by decide +kernel)
set_option maxRecDepth 20000 in
theorem gp_isStep_4 : GoodIn wsL_law wsL_isStep_r4 := goodIn_r _ [55, 56, 57, 58, 59, 60, 61, 132, 133, 134, 135, 136, 137, 138, 139, 140, 141, 176, 177, 178, 179, 180, 181, 182] (by decide +kernel) (by decide +kernel)
set_option maxRecDepth 20000 in
theorem gp_isStep_5 : GoodIn wsL_law wsL_isStep_r5 := goodIn_r _ [183, 184, 185, 186, 187, 188, 189, 190, 191, 192, 193, 194, 195, 196, 197, 198, 199, 200, 201, 202, 203, 204, 205, 206] (by decide +kernel) (by decide +kernel)
set_option maxRecDepth 20000 in
theorem gp_isStep_6 : GoodIn wsL_law wsL_isStep_r6 := goodIn_r _ [207, 208, 209, 210, 211, 212, 213, 214, 215, 216, 217, 218, 219, 220, 221, 222, 22, 223, 110, 111, 112, 113, 142, 143] (by decide +kernel) (by decide +kernel)
set_option maxRecDepth 20000 in
theorem gp_isStep_7 : GoodIn wsL_law wsL_isStep_r7 := goodIn_r _ [144, 145, 224, 225, 226, 227, 228, 229, 230, 231, 232, 233, 234, 235, 236, 237, 238, 239, 240, 241, 242, 243, 244, 245] (by decide +kernel) (by decide +kernel)
set_option maxRecDepth 20000 in
theorem gp_isStep_8 : GoodIn wsL_law wsL_isStep_r8 := goodIn_r _ [246, 247, 248, 249, 250, 251, 252, 253, 254, 255, 256, 257, 258, 259, 260, 261, 262, 263, 264, 265, 266, 267, 268, 269] (by decide +kernel) (by decide +kernel)
set_option maxRecDepth 20000 in
theorem gp_isStep_9 : GoodIn wsL_law wsL_isStep_r9 := goodIn_r _ [270, 271, 272, 273, 274, 275, 276, 277, 278, 279, 280, 281, 282, 283, 284, 285, 286, 287, 288, 289, 290, 291, 292, 293] (by decide +kernel) (by decide +kernel)
set_option maxRecDepth 20000 in
theorem gp_isStep_10 : GoodIn wsL_law wsL_isStep_r10 := goodIn_r _ [294, 295, 296, 297, 298, 299, 300, 301, 302, 303, 304, 305, 306, 307, 308, 309, 310, 311, 312, 313, 314, 315, 316, 317] (by decide +kernel) (by decide +kernel)
set_option maxRecDepth 20000 in
theorem gp_isStep_11 : GoodIn wsL_law wsL_isStep_r11 := goodIn_r _ [318, 319, 320, 321, 322, 30, 323, 324, 325, 326, 327, 328, 329, 330, 331, 332, 333, 334, 335, 336, 337, 338, 339, 340] (by decide +kernel) (by decide +kernel)
set_option maxRecDepth 20000 in
theorem gp_isStep_12 : GoodIn wsL_law wsL_isStep_r12 := goodIn_r _ [341, 342, 343, 344, 345, 346, 347, 348, 349, 350, 351, 352, 353, 354, 355, 356, 357, 358, 359, 360, 361, 362, 363, 364] (by decide +kernel) (by decide +kernel)
set_option maxRecDepth 20000 in
theorem gp_isStep_13 : GoodIn wsL_law wsL_isStep_r13 := goodIn_r _ [365, 366, 367, 368, 369, 370, 371, 372, 373, 374, 375, 376] (by decide +kernel) (by decide +kernel)
set_option maxRecDepth 20000 in
theorem gp_isStep_X6 : GoodIn wsL_law wsX60 := goodIn_r _ [388, 389, 390, 391, 392] (by decide +kernel) (by decide +kernel)
set_option maxRecDepth 20000 in
theorem gp_isStep_X4 : GoodIn wsL_law wsX40 := goodIn_r _ [393, 394, 395, 396, 397, 398, 399, 400, 401, 402, 403, 404, 405, 406, 407, 408, 409] (by decide +kernel) (by decide +kernel)
set_option maxRecDepth 20000 in
theorem gp_isStep_X1 : GoodIn wsL_law wsX10 := goodIn_r _ [410, 411] (by decide +kernel) (by decide +kernel)
set_option maxRecDepth 20000 in
theorem gp_isStep_X0 : GoodIn wsL_law wsX00 := goodIn_r _ [417, 418, 419, 420, 421, 422, 423] (by decide +kernel) (by decide +kernel)
set_option maxRecDepth 20000 in
theorem gp_isStep_X5 : GoodIn wsL_law wsX50 := goodIn_r _ [412, 413] (by decide +kernel) (by decide +kernel)
theorem gp_isStep_c : Cond.code yL_isStep cL_isStep 11 (some .boolean) ∈ wsL_law := List.mem_of_getElem? (i := 152) rfl
theorem ggL_law_L_isStep : GoodIn wsL_law wsL_isStep := fun w h => (List.mem_cons.mp h).elim (fun e => by rw [e]; exact ⟨gp_isStep_c, good_of_word rfl⟩) (fun h => (goodIn_app (goodIn_app (goodIn_app (goodIn_app (goodIn_app (goodIn_app gp_isStep_1 (goodIn_app gp_isStep_2 (goodIn_app gp_isStep_3 (goodIn_app gp_isStep_4 (goodIn_app gp_isStep_5 (goodIn_app gp_isStep_6 (goodIn_app gp_isStep_7 (goodIn_app gp_isStep_8 (goodIn_app gp_isStep_9 (goodIn_app gp_isStep_10 (goodIn_app gp_isStep_11 (goodIn_app gp_isStep_12 (gp_isStep_13))))))))))))) gp_isStep_X6) gp_isStep_X4) gp_isStep_X1) gp_isStep_X0) gp_isStep_X5) w h)
set_option maxRecDepth 20000 in
theorem gL_law_L_isStep : GoodIn wsL_law (va_wsS RL 70 yL_isStep wsL_isStep) := goodIn_app (goodIn_of _ (by decide +kernel)) ggL_law_L_isStep
set_option maxRecDepth 20000 in
theorem gp_isKept_1 : GoodIn wsL_law wsL_isKept_r1 := goodIn_r _ [267, 268, 269, 2, 270, 14, 109, 271, 237, 238, 13, 239, 38, 272, 273, 274, 275, 276, 277, 278, 279, 35, 280, 135] (by decide +kernel) (by decide +kernel)
set_option maxRecDepth 20000 in
theorem gp_isKept_2 : GoodIn wsL_law wsL_isKept_r2 := goodIn_r _ [136, 137, 232, 233, 234, 235, 236, 240, 241, 242, 243, 244, 245, 246, 281, 252, 253, 29, 254, 55, 59, 58, 255, 282] (by decide +kernel) (by decide +kernel)
set_option maxRecDepth 20000 in
theorem gp_isKept_3 : GoodIn wsL_law wsL_isKept_r3 := goodIn_r _ [264, 265, 266, 41, 170, 171, 380, 381, 96, 382, 328, 329, 330, 331, 110, 332, 333, 334, 335, 307, 308, 309, 56, 327] (by decide +kernel) (by decide +kernel)
set_option maxRecDepth 20000 in
theorem gp_isKept_4 : GoodIn wsL_law wsL_isKept_r4 := goodIn_r _ [248, 249, 250, 57, 251, 336, 209, 210, 211, 212, 213, 214, 215, 216, 217, 218, 219, 220, 221, 18, 222, 22, 223, 111] (by decide +kernel) (by decide +kernel)
set_option maxRecDepth 20000 in
theorem gp_isKept_5 : GoodIn wsL_law wsL_isKept_r5 := goodIn_r _ [112, 113, 142, 143, 144, 145, 60, 61, 256, 257, 258, 259, 260, 160, 261, 159, 262, 169, 114, 115, 116, 263, 154, 155] (by decide +kernel) (by decide +kernel)
set_option maxRecDepth 20000 in
theorem gp_isKept_6 : GoodIn wsL_law wsL_isKept_r6 := goodIn_r _ [156, 157, 158, 161, 162, 163, 164, 165, 166, 167, 168, 39] (by decide +kernel) (by decide +kernel)
set_option maxRecDepth 20000 in
theorem gp_isKept_X6 : GoodIn wsL_law wsX60 := goodIn_r _ [388, 389, 390, 391, 392] (by decide +kernel) (by decide +kernel)
set_option maxRecDepth 20000 in
theorem gp_isKept_X4 : GoodIn wsL_law wsX40 := goodIn_r _ [393, 394, 395, 396, 397, 398, 399, 400, 401, 402, 403, 404, 405, 406, 407, 408, 409] (by decide +kernel) (by decide +kernel)
set_option maxRecDepth 20000 in
theorem gp_isKept_X0 : GoodIn wsL_law wsX00 := goodIn_r _ [417, 418, 419, 420, 421, 422, 423] (by decide +kernel) (by decide +kernel)
set_option maxRecDepth 20000 in
theorem gp_isKept_X1 : GoodIn wsL_law wsX10 := goodIn_r _ [410, 411] (by decide +kernel) (by decide +kernel)
set_option maxRecDepth 20000 in
theorem gp_isKept_X5 : GoodIn wsL_law wsX50 := goodIn_r _ [412, 413] (by decide +kernel) (by decide +kernel)
theorem gp_isKept_c : Cond.code yL_isKept cL_isKept 7 (some .boolean) ∈ wsL_law := List.mem_of_getElem? (i := 379) rfl
theorem ggL_law_L_isKept : GoodIn wsL_law wsL_isKept := fun w h => (List.mem_cons.mp h).elim (fun e => by rw [e]; exact ⟨gp_isKept_c, good_of_word rfl⟩) (fun h => (goodIn_app (goodIn_app (goodIn_app (goodIn_app (goodIn_app (goodIn_app gp_isKept_1 (goodIn_app gp_isKept_2 (goodIn_app gp_isKept_3 (goodIn_app gp_isKept_4 (goodIn_app gp_isKept_5 (gp_isKept_6)))))) gp_isKept_X6) gp_isKept_X4) gp_isKept_X0) gp_isKept_X1) gp_isKept_X5) w h)
set_option maxRecDepth 20000 in
theorem gL_law_L_isKept : GoodIn wsL_law (va_wsS RL 74 yL_isKept wsL_isKept) := goodIn_app (goodIn_of _ (by decide +kernel)) ggL_law_L_isKept
set_option maxRecDepth 20000 in
theorem ggL_law_X6_critical : GoodIn wsL_law wsX6_critical := goodIn_r _ [386, 14, 110, 332, 323, 304, 136, 305, 160, 326, 233, 234, 13, 235, 236, 237, 238, 239, 38, 240, 241, 242, 243, 244, 245, 246, 387, 369, 370, 29, 371, 59, 58, 388, 389, 390, 391, 392, 393, 394, 395, 396, 397, 398, 399, 400, 401, 402, 403, 404, 405, 406, 407, 408, 409, 417, 418, 419, 420, 421, 422, 423] (by decide +kernel) (by decide +kernel)
set_option maxRecDepth 20000 in
theorem gL_law_X6_critical : GoodIn wsL_law (wsV RL 77 RX6 yX6_critical wsX6_critical) := goodIn_app (goodIn_of _ (by decide +kernel)) ggL_law_X6_critical
set_option maxRecDepth 20000 in
theorem ggL_law_X6_lines : GoodIn wsL_law wsX6_lines := goodIn_r _ [270, 14, 109, 271, 237, 238, 13, 239, 38, 272, 273, 274, 275, 276, 277, 278, 279, 35, 280, 135, 136, 137, 232, 233, 234, 235, 236, 240, 241, 242, 243, 244, 245, 246, 281, 252, 253, 29, 254, 55, 59, 58, 255, 282, 264, 265, 266, 41, 170, 2, 171, 388, 389, 390, 391, 392, 393, 394, 395, 396, 397, 398, 399, 400, 401, 402, 403, 404, 405, 406, 407, 408, 409, 417, 418, 419, 420, 421, 422, 423] (by decide +kernel) (by decide +kernel)
set_option maxRecDepth 20000 in
theorem gL_law_X6_lines : GoodIn wsL_law (wsV RL 33 RX6 yX6_lines wsX6_lines) := goodIn_app (goodIn_of _ (by decide +kernel)) ggL_law_X6_lines
set_option maxRecDepth 20000 in
theorem ggL_law_X6_cut : GoodIn wsL_law wsX6_cut := goodIn_r _ [359, 18, 14, 117, 118, 119, 17, 120, 68, 67, 121, 122, 123, 124, 115, 2, 116, 125, 126, 13, 127, 35, 36, 37, 38, 39, 40, 41, 42, 43, 44, 45, 46, 47, 48, 49, 50, 51, 128, 129, 130, 29, 131, 55, 56, 57, 58, 59, 60, 61, 132, 133, 134, 135, 136, 137, 138, 139, 140, 141, 360, 361, 362, 363, 276, 277, 278, 279, 280, 232, 233, 234, 235, 236, 237, 238, 239, 240, 241, 242, 243, 244, 245, 246, 281, 252, 253, 254, 255, 315, 316, 317, 318, 193, 194, 195, 196, 197, 198, 199, 200, 170, 171, 201, 202, 203, 204, 163, 164, 364, 365, 366, 367, 368, 369, 370, 371, 299, 300, 301, 302, 303, 304, 305, 388, 389, 390, 391, 392, 410, 411, 393, 394, 395, 396, 397, 398, 399, 400, 401, 402, 403, 404, 405, 406, 407, 408, 409, 417, 418, 419, 420, 421, 422, 423] (by decide +kernel) (by decide +kernel)
set_option maxRecDepth 20000 in
theorem gL_law_X6_cut : GoodIn wsL_law (wsV RL 53 RX6 yX6_cut wsX6_cut) := goodIn_app (goodIn_of _ (by decide +kernel)) ggL_law_X6_cut
set_option maxRecDepth 20000 in
theorem ggL_law_X6_placeOf : GoodIn wsL_law wsX6_placeOf := goodIn_r _ [157, 109, 14, 158, 159, 160, 161, 162, 163, 2, 164, 114, 115, 116, 165, 166, 167, 13, 168, 38, 39, 169, 170, 171, 388, 389, 390, 391, 392, 393, 394, 395, 396, 397, 398, 399, 400, 401, 402, 403, 404, 405, 406, 407, 408, 409] (by decide +kernel) (by decide +kernel)
set_option maxRecDepth 20000 in
theorem gL_law_X6_placeOf : GoodIn wsL_law (wsV RL 15 RX6 yX6_placeOf wsX6_placeOf) := goodIn_app (goodIn_of _ (by decide +kernel)) ggL_law_X6_placeOf

set_option maxRecDepth 20000 in
theorem ggL_law_L_areLegs : GoodIn wsL_law wsL_areLegs := goodIn_ca (goodIn_ca (goodIn_app ggL_law_L_areLegs_code (goodIn_app (goodIn_app (goodIn_app (goodIn_app (goodIn_app (goodIn_app (goodIn_app ggL_law_L_areLegs_wsL_areLegs_r1 (goodIn_app ggL_law_L_areLegs_wsL_areLegs_r2 (goodIn_app ggL_law_L_areLegs_wsL_areLegs_r3 (goodIn_app ggL_law_L_areLegs_wsL_areLegs_r4 (goodIn_app ggL_law_L_areLegs_wsL_areLegs_r5 (goodIn_app ggL_law_L_areLegs_wsL_areLegs_r6 (goodIn_app ggL_law_L_areLegs_wsL_areLegs_r7 (goodIn_app ggL_law_L_areLegs_wsL_areLegs_r8 (goodIn_app ggL_law_L_areLegs_wsL_areLegs_r9 (goodIn_app ggL_law_L_areLegs_wsL_areLegs_r10 ggL_law_L_areLegs_wsL_areLegs_r11)))))))))) ggL_law_L_areLegs_wsX50) ggL_law_L_areLegs_wsX00) ggL_law_L_areLegs_wsX20) ggL_law_L_areLegs_wsX10) ggL_law_L_areLegs_wsX30) ggL_law_L_areLegs_wsX40)) (goodIn_sub (fun _ h => List.mem_append_left _ (List.mem_append_left _ (List.mem_append_right _ h))) (by decide +kernel))) (goodIn_sub (fun _ h => List.mem_append_left _ (List.mem_append_right _ h)) (by decide +kernel))
set_option maxRecDepth 20000 in
theorem gL_law_L_areLegs : GoodIn wsL_law (va_wsS RL 141 yL_areLegs wsL_areLegs) := goodIn_app (goodIn_of _ (by decide +kernel)) ggL_law_L_areLegs
set_option maxRecDepth 20000 in
theorem ggL_law_L_areProducts_wsL_areProducts_r1 : GoodIn wsL_law wsL_areProducts_r1 := goodIn_r _ [57, 58, 55, 59, 60, 61, 62, 63, 64, 2, 65, 66, 67, 68, 69, 70, 71, 72, 73, 74, 75, 76, 77, 25] (by decide +kernel) (by decide +kernel)
set_option maxRecDepth 20000 in
theorem ggL_law_L_areProducts_wsL_areProducts_r2 : GoodIn wsL_law wsL_areProducts_r2 := goodIn_r _ [78, 79, 80, 81, 15, 82, 83, 84, 85, 86, 87, 88, 89, 90, 91, 92, 93, 94, 95, 96, 97, 27, 98, 99] (by decide +kernel) (by decide +kernel)
set_option maxRecDepth 20000 in
theorem ggL_law_L_areProducts_wsL_areProducts_r3 : GoodIn wsL_law wsL_areProducts_r3 := goodIn_r _ [100, 101, 10, 102, 103, 104, 105, 106, 107, 108, 109, 110, 111, 12, 26, 112, 113, 114, 115, 116, 117, 118, 119, 120] (by decide +kernel) (by decide +kernel)
set_option maxRecDepth 20000 in
theorem ggL_law_L_areProducts_wsL_areProducts_r4 : GoodIn wsL_law wsL_areProducts_r4 := goodIn_r _ [121, 122, 123, 124, 125, 126, 127, 128, 129, 130, 131, 132, 133, 134, 19, 13, 135, 18, 136, 137, 38, 39, 40, 41] (by decide +kernel) (by decide +kernel)
set_option maxRecDepth 20000 in
theorem ggL_law_L_areProducts_wsL_areProducts_r5 : GoodIn wsL_law wsL_areProducts_r5 := goodIn_r _ [42, 43, 138, 139, 140, 141, 142, 143, 144, 145, 146, 147, 148, 149, 150, 151, 152, 153, 154, 37, 155, 156, 48, 47] (by decide +kernel) (by decide +kernel)
set_option maxRecDepth 20000 in
theorem ggL_law_L_areProducts_wsL_areProducts_r6 : GoodIn wsL_law wsL_areProducts_r6 := goodIn_r _ [157, 158, 159, 160, 161, 162, 163, 164, 165, 166, 167, 168, 169, 170, 171, 172, 173, 174, 175, 176, 177, 178, 179, 180] (by decide +kernel) (by decide +kernel)
set_option maxRecDepth 20000 in
theorem ggL_law_L_areProducts_wsL_areProducts_r7 : GoodIn wsL_law wsL_areProducts_r7 := goodIn_r _ [181, 182, 183, 184, 185, 186, 187, 188, 189, 190, 191, 192, 193, 194, 195, 196, 197, 198, 199, 200, 201, 202, 203, 204] (by decide +kernel) (by decide +kernel)
set_option maxRecDepth 20000 in
theorem ggL_law_L_areProducts_wsL_areProducts_r8 : GoodIn wsL_law wsL_areProducts_r8 := goodIn_r _ [205, 206, 207, 28, 29, 30, 208, 209, 210, 211] (by decide +kernel) (by decide +kernel)
set_option maxRecDepth 20000 in
theorem ggL_law_L_areProducts_wsX50 : GoodIn wsL_law wsX50 := goodIn_r _ [390, 391, 392, 393, 394, 395, 396, 397, 398, 399, 400, 401, 402, 403] (by decide +kernel) (by decide +kernel)
set_option maxRecDepth 20000 in
theorem ggL_law_L_areProducts_wsX00 : GoodIn wsL_law wsX00 := goodIn_r _ [413, 414, 415, 416, 417] (by decide +kernel) (by decide +kernel)
set_option maxRecDepth 20000 in
theorem ggL_law_L_areProducts_wsX20 : GoodIn wsL_law wsX20 := goodIn_r _ [418, 419, 420, 421, 422, 423, 424] (by decide +kernel) (by decide +kernel)
set_option maxRecDepth 20000 in
theorem ggL_law_L_areProducts_wsX10 : GoodIn wsL_law wsX10 := goodIn_r _ [404, 405, 406, 407, 408, 409] (by decide +kernel) (by decide +kernel)
set_option maxRecDepth 20000 in
theorem ggL_law_L_areProducts_wsX30 : GoodIn wsL_law wsX30 := goodIn_r _ [411, 412] (by decide +kernel) (by decide +kernel)
set_option maxRecDepth 100000 in
theorem ggL_law_L_areProducts_code : GoodIn wsL_law [Cond.code yL_areProducts cL_areProducts 6 (some .boolean)] := goodIn_sub (fun w hw => by rw [List.mem_singleton.mp hw]; exact List.mem_of_getElem? (i := 276) (by rfl)) (by rfl)
set_option maxRecDepth 20000 in
theorem ggL_law_L_areProducts : GoodIn wsL_law wsL_areProducts := goodIn_ca (goodIn_ca (goodIn_app ggL_law_L_areProducts_code (goodIn_app (goodIn_app (goodIn_app (goodIn_app (goodIn_app (goodIn_app ggL_law_L_areProducts_wsL_areProducts_r1 (goodIn_app ggL_law_L_areProducts_wsL_areProducts_r2 (goodIn_app ggL_law_L_areProducts_wsL_areProducts_r3 (goodIn_app ggL_law_L_areProducts_wsL_areProducts_r4 (goodIn_app ggL_law_L_areProducts_wsL_areProducts_r5 (goodIn_app ggL_law_L_areProducts_wsL_areProducts_r6 (goodIn_app ggL_law_L_areProducts_wsL_areProducts_r7 ggL_law_L_areProducts_wsL_areProducts_r8))))))) ggL_law_L_areProducts_wsX50) ggL_law_L_areProducts_wsX00) ggL_law_L_areProducts_wsX20) ggL_law_L_areProducts_wsX10) ggL_law_L_areProducts_wsX30)) (goodIn_sub (fun _ h => List.mem_append_left _ (List.mem_append_left _ (List.mem_append_right _ h))) (by decide +kernel))) (goodIn_sub (fun _ h => List.mem_append_left _ (List.mem_append_right _ h)) (by decide +kernel))
set_option maxRecDepth 20000 in
theorem gL_law_L_areProducts : GoodIn wsL_law (va_wsS RL 144 yL_areProducts wsL_areProducts) := goodIn_app (goodIn_of _ (by decide +kernel)) ggL_law_L_areProducts
set_option maxRecDepth 20000 in
theorem ggL_law_L_isDone_wsL_isDone_r1 : GoodIn wsL_law wsL_isDone_r1 := goodIn_r _ [280, 281, 55, 282, 283, 284, 285, 286, 60, 61, 287, 288, 289, 290, 291, 292, 293, 2, 294, 106, 107, 71, 72, 73] (by decide +kernel) (by decide +kernel)
set_option maxRecDepth 20000 in
theorem ggL_law_L_isDone_wsL_isDone_r2 : GoodIn wsL_law wsL_isDone_r2 := goodIn_r _ [295, 296, 297, 298, 10, 299, 300, 301, 302, 66, 67, 303, 304, 24, 11, 305, 113, 26, 68, 69, 70, 306, 307, 308] (by decide +kernel) (by decide +kernel)
set_option maxRecDepth 20000 in
theorem ggL_law_L_isDone_wsL_isDone_r3 : GoodIn wsL_law wsL_isDone_r3 := goodIn_r _ [309, 12, 310, 311, 312, 8, 9, 3, 121, 148, 149, 313, 116, 117, 122, 314, 315, 316, 317, 13, 318, 319, 320, 321] (by decide +kernel) (by decide +kernel)
set_option maxRecDepth 20000 in
theorem ggL_law_L_isDone_wsL_isDone_r4 : GoodIn wsL_law wsL_isDone_r4 := goodIn_r _ [196, 197, 198, 199, 322, 323, 324, 325, 27, 326, 327, 328, 329, 25, 14, 330, 83, 331, 332, 333, 334, 74, 75, 76] (by decide +kernel) (by decide +kernel)
set_option maxRecDepth 20000 in
theorem ggL_law_L_isDone_wsL_isDone_r5 : GoodIn wsL_law wsL_isDone_r5 := goodIn_r _ [77, 78, 79, 80, 81, 15, 82, 84, 85, 86, 87, 88, 89, 94, 95, 96, 97, 98, 99, 100, 101, 335, 336, 337] (by decide +kernel) (by decide +kernel)
set_option maxRecDepth 20000 in
theorem ggL_law_L_isDone_wsL_isDone_r6 : GoodIn wsL_law wsL_isDone_r6 := goodIn_r _ [338, 28, 29, 30, 339, 340, 341, 342, 108, 109, 110, 111, 112, 114, 115, 118, 119, 120, 127, 128, 129, 130, 131, 132] (by decide +kernel) (by decide +kernel)
set_option maxRecDepth 20000 in
theorem ggL_law_L_isDone_wsL_isDone_r7 : GoodIn wsL_law wsL_isDone_r7 := goodIn_r _ [133, 134, 19, 135, 18, 136, 137, 38, 39, 40, 41, 42, 43, 138, 139, 140, 141, 142, 143, 144, 145, 146, 147, 150] (by decide +kernel) (by decide +kernel)
set_option maxRecDepth 20000 in
theorem ggL_law_L_isDone_wsL_isDone_r8 : GoodIn wsL_law wsL_isDone_r8 := goodIn_r _ [151, 152, 153, 154, 37, 155, 156, 48, 47, 157, 158, 159, 160, 161, 162, 163, 164, 165, 166, 167, 168, 169, 170, 171] (by decide +kernel) (by decide +kernel)
set_option maxRecDepth 20000 in
theorem ggL_law_L_isDone_wsL_isDone_r9 : GoodIn wsL_law wsL_isDone_r9 := goodIn_r _ [172, 173, 174, 175, 176, 177, 178, 179, 343, 344, 345, 346, 347, 348, 349, 350, 351, 352, 353, 354, 184, 185, 186, 187] (by decide +kernel) (by decide +kernel)
set_option maxRecDepth 20000 in
theorem ggL_law_L_isDone_wsL_isDone_r10 : GoodIn wsL_law wsL_isDone_r10 := goodIn_r _ [188, 189, 190, 191, 355, 356, 357, 358, 359, 360, 361, 362, 31, 363, 364, 365, 366, 249, 250, 251, 252, 367, 368, 369] (by decide +kernel) (by decide +kernel)
set_option maxRecDepth 20000 in
theorem ggL_law_L_isDone_wsL_isDone_r11 : GoodIn wsL_law wsL_isDone_r11 := goodIn_r _ [370, 371, 372, 373, 374, 375, 376, 377, 261, 262, 263, 264, 378, 379, 380, 268, 269, 270, 265, 266, 267, 271, 272, 273] (by decide +kernel) (by decide +kernel)
set_option maxRecDepth 20000 in
theorem ggL_law_L_isDone_wsL_isDone_r12 : GoodIn wsL_law wsL_isDone_r12 := goodIn_r _ [123, 124, 125, 126, 381, 382, 383, 384, 385, 386, 180, 181, 182, 183, 387, 388, 389] (by decide +kernel) (by decide +kernel)
set_option maxRecDepth 20000 in
theorem ggL_law_L_isDone_wsX50 : GoodIn wsL_law wsX50 := goodIn_r _ [390, 391, 392, 393, 394, 395, 396, 397, 398, 399, 400, 401, 402, 403] (by decide +kernel) (by decide +kernel)
set_option maxRecDepth 20000 in
theorem ggL_law_L_isDone_wsX20 : GoodIn wsL_law wsX20 := goodIn_r _ [418, 419, 420, 421, 422, 423, 424] (by decide +kernel) (by decide +kernel)
set_option maxRecDepth 20000 in
theorem ggL_law_L_isDone_wsX00 : GoodIn wsL_law wsX00 := goodIn_r _ [413, 414, 415, 416, 417] (by decide +kernel) (by decide +kernel)
set_option maxRecDepth 20000 in
theorem ggL_law_L_isDone_wsX10 : GoodIn wsL_law wsX10 := goodIn_r _ [404, 405, 406, 407, 408, 409] (by decide +kernel) (by decide +kernel)
set_option maxRecDepth 20000 in
theorem ggL_law_L_isDone_wsX30 : GoodIn wsL_law wsX30 := goodIn_r _ [411, 412] (by decide +kernel) (by decide +kernel)
set_option maxRecDepth 100000 in
theorem ggL_law_L_isDone_code : GoodIn wsL_law [Cond.code yL_isDone cL_isDone 14 (some .boolean)] := goodIn_sub (fun w hw => by rw [List.mem_singleton.mp hw]; exact List.mem_of_getElem? (i := 279) (by rfl)) (by rfl)

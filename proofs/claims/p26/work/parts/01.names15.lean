theorem dL_isDone_636 : decode cL_isDone 636 = .ok (.ireturn, 1) := by decide +kernel
theorem dL_isDone_637 : decode cL_isDone 637 = .ok (.iload 7, 2) := by decide +kernel
theorem dL_isDone_639 : decode cL_isDone 639 = .ok (.bipush 36, 2) := by decide +kernel
theorem dL_isDone_641 : decode cL_isDone 641 = .ok (.if_icmp .ne 25, 3) := by decide +kernel
theorem dL_isDone_644 : decode cL_isDone 644 = .ok (.aload_n 0, 1) := by decide +kernel
theorem dL_isDone_645 : decode cL_isDone 645 = .ok (.bipush 7, 2) := by decide +kernel
theorem dL_isDone_647 : decode cL_isDone 647 = .ok (.bipush 101, 2) := by decide +kernel
theorem dL_isDone_649 : decode cL_isDone 649 = .ok (.iconst 0, 1) := by decide +kernel
theorem dL_isDone_650 : decode cL_isDone 650 = .ok (.iconst 0, 1) := by decide +kernel
theorem dL_isDone_651 : decode cL_isDone 651 = .ok (.iconst 0, 1) := by decide +kernel
theorem dL_isDone_652 : decode cL_isDone 652 = .ok (.invokestatic 113, 3) := by decide +kernel
theorem dL_isDone_655 : decode cL_isDone 655 = .ok (.bipush (-20), 2) := by decide +kernel
theorem dL_isDone_657 : decode cL_isDone 657 = .ok (.if_icmp .ne 7, 3) := by decide +kernel
theorem dL_isDone_660 : decode cL_isDone 660 = .ok (.iconst 1, 1) := by decide +kernel
theorem dL_isDone_661 : decode cL_isDone 661 = .ok (.goto 4, 3) := by decide +kernel
theorem dL_isDone_664 : decode cL_isDone 664 = .ok (.iconst 0, 1) := by decide +kernel
theorem dL_isDone_665 : decode cL_isDone 665 = .ok (.ireturn, 1) := by decide +kernel
theorem dL_isDone_666 : decode cL_isDone 666 = .ok (.aload 6, 2) := by decide +kernel
theorem dL_isDone_668 : decode cL_isDone 668 = .ok (.iconst 5, 1) := by decide +kernel
theorem dL_isDone_669 : decode cL_isDone 669 = .ok (.iaload, 1) := by decide +kernel
theorem dL_isDone_670 : decode cL_isDone 670 = .ok (.bipush 9, 2) := by decide +kernel
theorem dL_isDone_672 : decode cL_isDone 672 = .ok (.if_icmp .gt 34, 3) := by decide +kernel
theorem dL_isDone_675 : decode cL_isDone 675 = .ok (.aload_n 0, 1) := by decide +kernel
theorem dL_isDone_676 : decode cL_isDone 676 = .ok (.aload_n 3, 1) := by decide +kernel
theorem dL_isDone_677 : decode cL_isDone 677 = .ok (.aload 4, 2) := by decide +kernel
theorem dL_isDone_679 : decode cL_isDone 679 = .ok (.aload 5, 2) := by decide +kernel
theorem dL_isDone_681 : decode cL_isDone 681 = .ok (.aload 6, 2) := by decide +kernel
theorem dL_isDone_683 : decode cL_isDone 683 = .ok (.iload 9, 2) := by decide +kernel
theorem dL_isDone_685 : decode cL_isDone 685 = .ok (.iconst 3, 1) := by decide +kernel
theorem dL_isDone_686 : decode cL_isDone 686 = .ok (.irem, 1) := by decide +kernel
theorem dL_isDone_687 : decode cL_isDone 687 = .ok (.ifCond .ne 8, 3) := by decide +kernel
theorem dL_isDone_690 : decode cL_isDone 690 = .ok (.bipush 100, 2) := by decide +kernel
theorem dL_isDone_692 : decode cL_isDone 692 = .ok (.goto 8, 3) := by decide +kernel
theorem dL_isDone_695 : decode cL_isDone 695 = .ok (.iload 9, 2) := by decide +kernel
theorem dL_isDone_697 : decode cL_isDone 697 = .ok (.bipush 101, 2) := by decide +kernel
theorem dL_isDone_699 : decode cL_isDone 699 = .ok (.irem, 1) := by decide +kernel
theorem dL_isDone_700 : decode cL_isDone 700 = .ok (.invokestatic 137, 3) := by decide +kernel
theorem dL_isDone_703 : decode cL_isDone 703 = .ok (.ifCond .eq 7, 3) := by decide +kernel
theorem dL_isDone_706 : decode cL_isDone 706 = .ok (.iconst 1, 1) := by decide +kernel
theorem dL_isDone_707 : decode cL_isDone 707 = .ok (.goto 4, 3) := by decide +kernel
theorem dL_isDone_710 : decode cL_isDone 710 = .ok (.iconst 0, 1) := by decide +kernel
theorem dL_isDone_711 : decode cL_isDone 711 = .ok (.ireturn, 1) := by decide +kernel
set_option maxRecDepth 20000 in
theorem ggL_law_X5_init : GoodIn wsL_law wsX5_init := goodIn_r _ [6, 7, 8, 9, 3, 10, 11, 12, 13, 14, 15, 16, 17, 18, 19, 20, 21, 22, 23, 24, 25, 26, 27, 28, 29, 30, 31, 32, 33, 34, 35, 36, 37, 38, 39, 40, 41, 42, 43, 44, 45, 46, 47, 48, 49, 50, 51, 52, 390, 391, 392, 393, 394, 395, 396, 397, 398, 399, 400, 401, 402, 403, 404, 405, 406, 407, 408, 409, 410, 411, 412] (by decide +kernel) (by decide +kernel)
set_option maxRecDepth 20000 in
theorem gL_law_X5_init : GoodIn wsL_law (wsX5_init) := ggL_law_X5_init
set_option maxRecDepth 20000 in
theorem ggL_law_L_areLegs_wsL_areLegs_r1 : GoodIn wsL_law wsL_areLegs_r1 := goodIn_r _ [57, 58, 55, 59, 60, 61, 62, 63, 64, 2, 65, 66, 67, 68, 69, 70, 71, 72, 73, 74, 75, 76, 77, 25] (by decide +kernel) (by decide +kernel)
set_option maxRecDepth 20000 in
theorem ggL_law_L_areLegs_wsL_areLegs_r2 : GoodIn wsL_law wsL_areLegs_r2 := goodIn_r _ [78, 79, 80, 81, 15, 82, 83, 84, 85, 86, 87, 88, 89, 90, 91, 92, 93, 94, 95, 96, 97, 27, 98, 99] (by decide +kernel) (by decide +kernel)
set_option maxRecDepth 20000 in
theorem ggL_law_L_areLegs_wsL_areLegs_r3 : GoodIn wsL_law wsL_areLegs_r3 := goodIn_r _ [100, 101, 10, 102, 103, 104, 105, 106, 107, 108, 109, 110, 111, 12, 26, 112, 113, 114, 115, 116, 117, 118, 119, 120] (by decide +kernel) (by decide +kernel)
set_option maxRecDepth 20000 in
theorem ggL_law_L_areLegs_wsL_areLegs_r4 : GoodIn wsL_law wsL_areLegs_r4 := goodIn_r _ [121, 122, 123, 124, 125, 126, 127, 128, 129, 130, 131, 132, 133, 134, 19, 13, 135, 18, 136, 137, 38, 39, 40, 41] (by decide +kernel) (by decide +kernel)
set_option maxRecDepth 20000 in
theorem ggL_law_L_areLegs_wsL_areLegs_r5 : GoodIn wsL_law wsL_areLegs_r5 := goodIn_r _ [42, 43, 138, 139, 140, 141, 142, 143, 144, 145, 146, 147, 148, 149, 150, 151, 152, 153, 154, 37, 155, 156, 48, 47] (by decide +kernel) (by decide +kernel)
set_option maxRecDepth 20000 in
theorem ggL_law_L_areLegs_wsL_areLegs_r6 : GoodIn wsL_law wsL_areLegs_r6 := goodIn_r _ [157, 158, 159, 160, 161, 162, 163, 164, 165, 166, 167, 168, 169, 170, 171, 172, 173, 174, 175, 176, 177, 178, 179, 180] (by decide +kernel) (by decide +kernel)
set_option maxRecDepth 20000 in
theorem ggL_law_L_areLegs_wsL_areLegs_r7 : GoodIn wsL_law wsL_areLegs_r7 := goodIn_r _ [181, 182, 183, 184, 185, 186, 187, 188, 189, 190, 191, 192, 193, 194, 195, 196, 197, 198, 199, 200, 201, 202, 203, 204] (by decide +kernel) (by decide +kernel)
set_option maxRecDepth 20000 in
theorem ggL_law_L_areLegs_wsL_areLegs_r8 : GoodIn wsL_law wsL_areLegs_r8 := goodIn_r _ [205, 206, 207, 28, 29, 30, 208, 209, 210, 211, 212, 213, 214, 215, 216, 217, 218, 219, 23, 220, 22, 221, 222, 52] (by decide +kernel) (by decide +kernel)
set_option maxRecDepth 20000 in
theorem ggL_law_L_areLegs_wsL_areLegs_r9 : GoodIn wsL_law wsL_areLegs_r9 := goodIn_r _ [223, 224, 225, 226, 227, 228, 229, 230, 231, 232, 233, 234, 235, 236, 237, 238, 239, 240, 241, 242, 243, 244, 245, 246] (by decide +kernel) (by decide +kernel)
set_option maxRecDepth 20000 in
theorem ggL_law_L_areLegs_wsL_areLegs_r10 : GoodIn wsL_law wsL_areLegs_r10 := goodIn_r _ [247, 248, 249, 250, 251, 252, 253, 254, 255, 256, 31, 257, 258, 259, 260, 261, 262, 263, 264, 24, 265, 266, 267, 268] (by decide +kernel) (by decide +kernel)
set_option maxRecDepth 20000 in
theorem ggL_law_L_areLegs_wsL_areLegs_r11 : GoodIn wsL_law wsL_areLegs_r11 := goodIn_r _ [269, 270, 271, 272, 273] (by decide +kernel) (by decide +kernel)
set_option maxRecDepth 20000 in
theorem ggL_law_L_areLegs_wsX50 : GoodIn wsL_law wsX50 := goodIn_r _ [390, 391, 392, 393, 394, 395, 396, 397, 398, 399, 400, 401, 402, 403] (by decide +kernel) (by decide +kernel)
set_option maxRecDepth 20000 in
theorem ggL_law_L_areLegs_wsX00 : GoodIn wsL_law wsX00 := goodIn_r _ [413, 414, 415, 416, 417] (by decide +kernel) (by decide +kernel)
set_option maxRecDepth 20000 in
theorem ggL_law_L_areLegs_wsX20 : GoodIn wsL_law wsX20 := goodIn_r _ [418, 419, 420, 421, 422, 423, 424] (by decide +kernel) (by decide +kernel)
set_option maxRecDepth 20000 in
theorem ggL_law_L_areLegs_wsX10 : GoodIn wsL_law wsX10 := goodIn_r _ [404, 405, 406, 407, 408, 409] (by decide +kernel) (by decide +kernel)
set_option maxRecDepth 20000 in
theorem ggL_law_L_areLegs_wsX30 : GoodIn wsL_law wsX30 := goodIn_r _ [411, 412] (by decide +kernel) (by decide +kernel)
set_option maxRecDepth 20000 in
theorem ggL_law_L_areLegs_wsX40 : GoodIn wsL_law wsX40 := goodIn_r _ [410] (by decide +kernel) (by decide +kernel)
set_option maxRecDepth 100000 in
theorem ggL_law_L_areLegs_code : GoodIn wsL_law [Cond.code yL_areLegs cL_areLegs 15 (some .boolean)] := goodIn_sub (fun w hw => by rw [List.mem_singleton.mp hw]; exact List.mem_of_getElem? (i := 56) (by rfl)) (by rfl)

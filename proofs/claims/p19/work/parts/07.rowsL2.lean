set_option maxRecDepth 20000 in
theorem ggL_isSo_X4_cash : GoodIn wsL_isSo wsX4_cash := goodIn_ca (goodIn_r _ [10, 11, 12, 13, 14, 15, 9, 16, 17, 18, 19, 20, 21, 22, 23, 24, 25, 26, 27, 28, 29, 30, 31, 32, 33, 34, 35, 36, 37, 38, 39, 40, 41, 42, 43, 44, 45, 46, 395, 396, 397, 398, 399, 400, 401, 402, 403, 404, 405, 406, 407] (by decide +kernel) (by decide +kernel)) (goodIn_sub (fun _ h => List.mem_cons_of_mem _ (List.mem_append_left _ (List.mem_append_left _ (List.mem_append_right _ h)))) (by decide +kernel))
set_option maxRecDepth 20000 in
theorem gL_isSo_X4_cash : GoodIn wsL_isSo (wsV RL 106 RX4 yX4_cash wsX4_cash) := goodIn_app (goodIn_of _ (by decide +kernel)) ggL_isSo_X4_cash
set_option maxRecDepth 20000 in
theorem ggL_isSo_X4_parts : GoodIn wsL_isSo wsX4_parts := goodIn_ca (goodIn_r _ [50, 51, 52, 53, 54, 55, 9, 56, 57, 58, 19, 20, 21, 22, 23, 24, 25, 26, 27, 28, 29, 30, 31, 32, 33, 34, 35, 36, 37, 38, 39, 40, 41, 42, 43, 44, 45, 46, 59, 60, 61, 62, 63, 64, 13, 14, 15, 16, 17, 18, 408, 409, 410, 411, 412, 413, 414, 415, 395, 396, 397, 398, 399, 405, 406, 407, 400, 401, 402, 403, 404] (by decide +kernel) (by decide +kernel)) (goodIn_sub (fun _ h => List.mem_cons_of_mem _ (List.mem_append_left _ (List.mem_append_left _ (List.mem_append_right _ h)))) (by decide +kernel))
set_option maxRecDepth 20000 in
theorem gL_isSo_X4_parts : GoodIn wsL_isSo (wsV RL 54 RX4 yX4_parts wsX4_parts) := goodIn_app (goodIn_of _ (by decide +kernel)) ggL_isSo_X4_parts
set_option maxRecDepth 20000 in
theorem ggL_isSo_X4_units : GoodIn wsL_isSo wsX4_units := goodIn_ca (goodIn_r _ [68, 69, 53, 54, 55, 9, 56, 57, 58, 19, 20, 21, 22, 23, 24, 25, 26, 27, 28, 29, 30, 31, 32, 33, 34, 35, 36, 37, 38, 39, 40, 41, 42, 43, 44, 45, 46, 408, 409, 410, 411, 395, 396, 397, 398, 399, 405, 406, 407] (by decide +kernel) (by decide +kernel)) (goodIn_sub (fun _ h => List.mem_cons_of_mem _ (List.mem_append_left _ (List.mem_append_left _ (List.mem_append_right _ h)))) (by decide +kernel))
set_option maxRecDepth 20000 in
theorem gL_isSo_X4_units : GoodIn wsL_isSo (wsV RL 109 RX4 yX4_units wsX4_units) := goodIn_app (goodIn_of _ (by decide +kernel)) ggL_isSo_X4_units
set_option maxRecDepth 20000 in
theorem ggL_isSo_X4_wealth : GoodIn wsL_isSo wsX4_wealth := goodIn_ca (goodIn_r _ [73, 13, 14, 15, 9, 16, 17, 18, 19, 20, 21, 22, 23, 24, 25, 26, 27, 28, 29, 30, 31, 32, 33, 34, 35, 36, 37, 38, 39, 40, 41, 42, 43, 44, 45, 46, 74, 75, 76, 12, 63, 64, 77, 78, 79, 52, 80, 81, 82, 83, 84, 85, 395, 396, 397, 398, 399, 405, 406, 407, 400, 401, 402, 403, 404, 412, 413, 414, 415, 408, 409, 410, 411] (by decide +kernel) (by decide +kernel)) (goodIn_sub (fun _ h => List.mem_cons_of_mem _ (List.mem_append_left _ (List.mem_append_left _ (List.mem_append_right _ h)))) (by decide +kernel))
set_option maxRecDepth 20000 in
theorem gL_isSo_X4_wealth : GoodIn wsL_isSo (wsV RL 112 RX4 yX4_wealth wsX4_wealth) := goodIn_app (goodIn_of _ (by decide +kernel)) ggL_isSo_X4_wealth
set_option maxRecDepth 20000 in
theorem ggL_isSo_L_wealth : GoodIn wsL_isSo wsL_wealth := goodIn_r _ [89, 1] (by decide +kernel) (by decide +kernel)
set_option maxRecDepth 20000 in
theorem gL_isSo_L_wealth : GoodIn wsL_isSo (va_wsS RL 98 yL_wealth wsL_wealth) := goodIn_app (goodIn_of _ (by decide +kernel)) ggL_isSo_L_wealth
set_option maxRecDepth 20000 in
theorem ggL_isSo_X4_tradeOf : GoodIn wsL_isSo wsX4_tradeOf := goodIn_ca (goodIn_ca (goodIn_r _ [93, 94, 95, 96, 80, 97, 98, 99, 100, 101, 102, 103, 104, 105, 9, 106, 107, 108, 19, 20, 21, 22, 23, 24, 25, 26, 27, 28, 29, 30, 31, 32, 33, 34, 35, 36, 37, 38, 39, 40, 41, 42, 43, 44, 45, 46, 109, 110, 111, 112, 113, 416, 417, 418, 419, 420, 421, 422, 423, 424, 412, 413, 414, 415, 400, 401, 402, 403, 404, 408, 409, 410, 411, 395, 396, 397, 398, 399, 405, 406, 407] (by decide +kernel) (by decide +kernel)) (goodIn_sub (fun _ h => List.mem_cons_of_mem _ (List.mem_append_left _ (List.mem_append_left _ (List.mem_append_right _ h)))) (by decide +kernel))) (goodIn_sub (fun _ h => List.mem_cons_of_mem _ (List.mem_append_left _ (List.mem_append_right _ h))) (by decide +kernel))
set_option maxRecDepth 20000 in
theorem gL_isSo_X4_tradeOf : GoodIn wsL_isSo (wsV RL 43 RX4 yX4_tradeOf wsX4_tradeOf) := goodIn_app (goodIn_of _ (by decide +kernel)) ggL_isSo_X4_tradeOf
set_option maxRecDepth 20000 in
theorem ggL_isSo_L_costs : GoodIn wsL_isSo wsL_costs := goodIn_r _ [116, 117, 118, 119, 120, 121] (by decide +kernel) (by decide +kernel)
set_option maxRecDepth 20000 in
theorem gL_isSo_L_costs : GoodIn wsL_isSo (va_wsS RL 83 yL_costs wsL_costs) := goodIn_app (goodIn_of _ (by decide +kernel)) ggL_isSo_L_costs
set_option maxRecDepth 20000 in
theorem ggL_isSo_L_taxes : GoodIn wsL_isSo wsL_taxes := goodIn_r _ [124, 125, 126, 88, 127, 2, 114, 115, 116, 117, 118, 119, 120, 121] (by decide +kernel) (by decide +kernel)
set_option maxRecDepth 20000 in
theorem gL_isSo_L_taxes : GoodIn wsL_isSo (va_wsS RL 114 yL_taxes wsL_taxes) := goodIn_app (goodIn_of _ (by decide +kernel)) ggL_isSo_L_taxes
set_option maxRecDepth 20000 in
theorem ggL_isSo_X4_year : GoodIn wsL_isSo wsX4_year := goodIn_ca (goodIn_ca (goodIn_r _ [131, 132, 133, 134, 13, 14, 15, 9, 16, 17, 18, 19, 20, 21, 22, 23, 24, 25, 26, 27, 28, 29, 30, 31, 32, 33, 34, 35, 36, 37, 38, 39, 40, 41, 42, 43, 44, 45, 46, 109, 110, 111, 112, 113, 135, 136, 137, 138, 139, 140, 141, 142, 143, 144, 400, 401, 402, 403, 404, 395, 396, 397, 398, 399, 405, 406, 407] (by decide +kernel) (by decide +kernel)) (goodIn_sub (fun _ h => List.mem_cons_of_mem _ (List.mem_append_left _ (List.mem_append_left _ (List.mem_append_right _ h)))) (by decide +kernel))) (goodIn_sub (fun _ h => List.mem_cons_of_mem _ (List.mem_append_left _ (List.mem_append_right _ h))) (by decide +kernel))
set_option maxRecDepth 20000 in
theorem gL_isSo_X4_year : GoodIn wsL_isSo (wsV RL 46 RX4 yX4_year wsX4_year) := goodIn_app (goodIn_of _ (by decide +kernel)) ggL_isSo_X4_year
set_option maxRecDepth 20000 in
theorem ggL_isSo_L_goes : GoodIn wsL_isSo wsL_goes := goodIn_r _ [127, 2, 114, 115, 88, 116, 117, 118, 119, 120, 121] (by decide +kernel) (by decide +kernel)
set_option maxRecDepth 20000 in
theorem gL_isSo_L_goes : GoodIn wsL_isSo (va_wsS RL 94 yL_goes wsL_goes) := goodIn_app (goodIn_of _ (by decide +kernel)) ggL_isSo_L_goes
set_option maxRecDepth 20000 in
theorem ggL_isSo_X4_lot : GoodIn wsL_isSo wsX4_lot := goodIn_ca (goodIn_ca (goodIn_r _ [148, 107, 108, 94, 149, 150, 151, 152, 59, 60, 61, 9, 62, 63, 64, 13, 14, 15, 16, 17, 18, 19, 20, 21, 22, 23, 24, 25, 26, 27, 28, 29, 30, 31, 32, 33, 34, 35, 36, 37, 38, 39, 40, 41, 42, 43, 44, 45, 46, 109, 110, 111, 112, 113, 395, 396, 397, 398, 399, 416, 417, 418, 419, 420, 421, 422, 423, 424, 400, 401, 402, 403, 404, 405, 406, 407] (by decide +kernel) (by decide +kernel)) (goodIn_sub (fun _ h => List.mem_cons_of_mem _ (List.mem_append_left _ (List.mem_append_left _ (List.mem_append_right _ h)))) (by decide +kernel))) (goodIn_sub (fun _ h => List.mem_cons_of_mem _ (List.mem_append_left _ (List.mem_append_right _ h))) (by decide +kernel))
set_option maxRecDepth 20000 in
theorem gL_isSo_X4_lot : GoodIn wsL_isSo (wsV RL 50 RX4 yX4_lot wsX4_lot) := goodIn_app (goodIn_of _ (by decide +kernel)) ggL_isSo_X4_lot
set_option maxRecDepth 20000 in
theorem ggL_isSo_L_does : GoodIn wsL_isSo wsL_does := goodIn_ca (goodIn_ca (goodIn_ca (goodIn_r _ [155, 156, 157, 158, 5, 159, 160, 161, 162, 163, 9, 164, 165, 84, 53, 54, 55, 56, 57, 58, 19, 20, 21, 22, 23, 24, 25, 26, 27, 28, 29, 30, 31, 32, 33, 34, 35, 36, 37, 38, 39, 40, 41, 42, 43, 44, 45, 46, 109, 110, 111, 112, 113, 166, 167, 168, 169, 17, 170, 171, 172, 63, 173, 174, 175, 176, 177, 178, 179, 180, 181, 182, 183, 184, 185, 186, 187, 188, 189, 190, 191, 192, 193, 194, 195, 196, 197, 198, 199, 200, 201, 202, 203, 204, 205, 206, 207, 208, 209, 210, 211, 212, 213, 214, 215, 216, 217, 218, 219, 220, 221, 222, 223, 224, 225, 226, 227, 228, 229, 230, 231, 232, 233, 140, 234, 235, 236, 237, 238, 239, 240, 241, 242, 243, 244, 245, 246, 247, 248, 249, 250, 251, 252, 253, 254, 255, 256, 257, 258, 259, 260, 261, 262, 263, 264, 265, 266, 267, 268, 269, 270, 12, 13, 14, 15, 16, 18, 271, 272, 273, 274, 95, 275, 59, 60, 61, 62, 64, 276, 277, 278, 279, 280, 281, 282, 107, 80, 283, 284, 285, 85, 286, 287, 288, 289, 290, 291, 292, 293, 294, 295, 296, 297, 298, 299, 300, 301, 150, 302, 303, 304, 305, 306, 307, 308, 309, 310, 311, 312, 313, 314, 315, 316, 317, 318, 319, 320, 321, 322, 323, 324, 11, 52, 51, 325, 326, 327, 328, 329, 69, 330, 331, 332, 333, 94, 101, 98, 149, 151, 334, 335, 336, 337, 338, 339, 340, 341, 108, 138, 139, 141, 342, 343, 344, 132, 345, 346, 347, 348, 349, 350, 81, 82, 83, 351, 352, 353, 354, 355, 74, 75, 76, 77, 78, 79, 356, 357, 358, 359, 360, 361, 362, 363, 364, 365, 366, 367, 368, 369, 370, 371, 102, 103, 104, 105, 106, 372, 373, 374, 375, 376, 377, 378, 379, 380, 381, 382, 383, 384, 385, 386, 133, 134, 135, 136, 137, 142, 143, 144, 387, 388, 389, 390, 391, 392, 393, 394, 90, 91, 92, 93, 96, 97, 99, 100, 128, 129, 130, 131, 145, 146, 147, 148, 152, 47, 48, 49, 50, 408, 409, 410, 411, 395, 396, 397, 398, 399, 405, 406, 407, 400, 401, 402, 403, 404, 412, 413, 414, 415, 416, 417, 418, 419, 420, 421, 422, 423, 424] (by decide +kernel) (by decide +kernel)) (goodIn_sub (fun _ h => List.mem_cons_of_mem _ (List.mem_append_left _ (List.mem_append_left _ (List.mem_append_right _ h)))) (by decide +kernel))) (goodIn_sub (fun _ h => List.mem_cons_of_mem _ (List.mem_append_left _ (List.mem_append_right _ h))) (by decide +kernel))) (goodIn_sub (fun _ h => List.mem_cons_of_mem _ (List.mem_append_right _ h)) (by decide +kernel))
set_option maxRecDepth 20000 in
theorem gL_isSo_L_does : GoodIn wsL_isSo (va_wsS RL 122 yL_does wsL_does) := goodIn_app (goodIn_of _ (by decide +kernel)) ggL_isSo_L_does
theorem dL_isSo_0 : decode cL_isSo 0 = .ok (.aload_n 0, 1) := by decide +kernel
theorem dL_isSo_1 : decode cL_isSo 1 = .ok (.iconst (-1), 1) := by decide +kernel
theorem dL_isSo_2 : decode cL_isSo 2 = .ok (.invokevirtual 106, 3) := by decide +kernel
theorem dL_isSo_5 : decode cL_isSo 5 = .ok (.aload_n 2, 1) := by decide +kernel
theorem dL_isSo_6 : decode cL_isSo 6 = .ok (.bipush 15, 2) := by decide +kernel
theorem dL_isSo_8 : decode cL_isSo 8 = .ok (.laload, 1) := by decide +kernel
theorem dL_isSo_9 : decode cL_isSo 9 = .ok (.lcmp, 1) := by decide +kernel
theorem dL_isSo_10 : decode cL_isSo 10 = .ok (.ifCond .ne 7, 3) := by decide +kernel
theorem dL_isSo_13 : decode cL_isSo 13 = .ok (.iconst 1, 1) := by decide +kernel
theorem dL_isSo_14 : decode cL_isSo 14 = .ok (.goto 4, 3) := by decide +kernel
theorem dL_isSo_17 : decode cL_isSo 17 = .ok (.iconst 0, 1) := by decide +kernel
theorem dL_isSo_18 : decode cL_isSo 18 = .ok (.istore 13, 2) := by decide +kernel
theorem dL_isSo_20 : decode cL_isSo 20 = .ok (.iconst 0, 1) := by decide +kernel
theorem dL_isSo_21 : decode cL_isSo 21 = .ok (.istore 14, 2) := by decide +kernel
theorem dL_isSo_23 : decode cL_isSo 23 = .ok (.iload 14, 2) := by decide +kernel
theorem dL_isSo_25 : decode cL_isSo 25 = .ok (.bipush 6, 2) := by decide +kernel
theorem dL_isSo_27 : decode cL_isSo 27 = .ok (.if_icmp .ge 148, 3) := by decide +kernel
theorem dL_isSo_30 : decode cL_isSo 30 = .ok (.iload 13, 2) := by decide +kernel
theorem dL_isSo_32 : decode cL_isSo 32 = .ok (.ifCond .eq 143, 3) := by decide +kernel
theorem dL_isSo_35 : decode cL_isSo 35 = .ok (.aload_n 2, 1) := by decide +kernel
theorem dL_isSo_36 : decode cL_isSo 36 = .ok (.bipush 6, 2) := by decide +kernel
theorem dL_isSo_38 : decode cL_isSo 38 = .ok (.iload 14, 2) := by decide +kernel
theorem dL_isSo_40 : decode cL_isSo 40 = .ok (.iadd, 1) := by decide +kernel
theorem dL_isSo_41 : decode cL_isSo 41 = .ok (.laload, 1) := by decide +kernel
theorem dL_isSo_42 : decode cL_isSo 42 = .ok (.lstore 15, 2) := by decide +kernel
theorem dL_isSo_44 : decode cL_isSo 44 = .ok (.iconst 0, 1) := by decide +kernel
theorem dL_isSo_45 : decode cL_isSo 45 = .ok (.istore 17, 2) := by decide +kernel
theorem dL_isSo_47 : decode cL_isSo 47 = .ok (.iload 17, 2) := by decide +kernel
theorem dL_isSo_49 : decode cL_isSo 49 = .ok (.aload 7, 2) := by decide +kernel
theorem dL_isSo_51 : decode cL_isSo 51 = .ok (.iconst 1, 1) := by decide +kernel
theorem dL_isSo_52 : decode cL_isSo 52 = .ok (.iaload, 1) := by decide +kernel
theorem dL_isSo_53 : decode cL_isSo 53 = .ok (.if_icmp .ge 58, 3) := by decide +kernel
theorem dL_isSo_56 : decode cL_isSo 56 = .ok (.iload 13, 2) := by decide +kernel
theorem dL_isSo_58 : decode cL_isSo 58 = .ok (.ifCond .eq 53, 3) := by decide +kernel
theorem dL_isSo_61 : decode cL_isSo 61 = .ok (.lload 15, 2) := by decide +kernel
theorem dL_isSo_63 : decode cL_isSo 63 = .ok (.aload_n 3, 1) := by decide +kernel
theorem dL_isSo_64 : decode cL_isSo 64 = .ok (.bipush 6, 2) := by decide +kernel
theorem dL_isSo_66 : decode cL_isSo 66 = .ok (.iload 17, 2) := by decide +kernel
theorem dL_isSo_68 : decode cL_isSo 68 = .ok (.imul, 1) := by decide +kernel
theorem dL_isSo_69 : decode cL_isSo 69 = .ok (.iload 14, 2) := by decide +kernel
theorem dL_isSo_71 : decode cL_isSo 71 = .ok (.iadd, 1) := by decide +kernel
theorem dL_isSo_72 : decode cL_isSo 72 = .ok (.laload, 1) := by decide +kernel
theorem dL_isSo_73 : decode cL_isSo 73 = .ok (.ladd, 1) := by decide +kernel
theorem dL_isSo_74 : decode cL_isSo 74 = .ok (.lstore 15, 2) := by decide +kernel
theorem dL_isSo_76 : decode cL_isSo 76 = .ok (.aload_n 0, 1) := by decide +kernel
theorem dL_isSo_77 : decode cL_isSo 77 = .ok (.iload 17, 2) := by decide +kernel
theorem dL_isSo_79 : decode cL_isSo 79 = .ok (.iload 14, 2) := by decide +kernel
theorem dL_isSo_81 : decode cL_isSo 81 = .ok (.invokevirtual 54, 3) := by decide +kernel
theorem dL_isSo_84 : decode cL_isSo 84 = .ok (.aload_n 3, 1) := by decide +kernel
theorem dL_isSo_85 : decode cL_isSo 85 = .ok (.bipush 6, 2) := by decide +kernel
theorem dL_isSo_87 : decode cL_isSo 87 = .ok (.iload 17, 2) := by decide +kernel
theorem dL_isSo_89 : decode cL_isSo 89 = .ok (.imul, 1) := by decide +kernel
theorem dL_isSo_90 : decode cL_isSo 90 = .ok (.iload 14, 2) := by decide +kernel
theorem dL_isSo_92 : decode cL_isSo 92 = .ok (.iadd, 1) := by decide +kernel
theorem dL_isSo_93 : decode cL_isSo 93 = .ok (.laload, 1) := by decide +kernel
theorem dL_isSo_94 : decode cL_isSo 94 = .ok (.lcmp, 1) := by decide +kernel
theorem dL_isSo_95 : decode cL_isSo 95 = .ok (.ifCond .ne 7, 3) := by decide +kernel
theorem dL_isSo_98 : decode cL_isSo 98 = .ok (.iconst 1, 1) := by decide +kernel
theorem dL_isSo_99 : decode cL_isSo 99 = .ok (.goto 4, 3) := by decide +kernel
theorem dL_isSo_102 : decode cL_isSo 102 = .ok (.iconst 0, 1) := by decide +kernel
theorem dL_isSo_103 : decode cL_isSo 103 = .ok (.istore 13, 2) := by decide +kernel
theorem dL_isSo_105 : decode cL_isSo 105 = .ok (.iinc 17 1, 3) := by decide +kernel
theorem dL_isSo_108 : decode cL_isSo 108 = .ok (.goto (-61), 3) := by decide +kernel
theorem dL_isSo_111 : decode cL_isSo 111 = .ok (.iload 13, 2) := by decide +kernel
theorem dL_isSo_113 : decode cL_isSo 113 = .ok (.ifCond .eq 53, 3) := by decide +kernel
theorem dL_isSo_116 : decode cL_isSo 116 = .ok (.aload_n 0, 1) := by decide +kernel
theorem dL_isSo_117 : decode cL_isSo 117 = .ok (.iload 14, 2) := by decide +kernel
theorem dL_isSo_119 : decode cL_isSo 119 = .ok (.invokevirtual 109, 3) := by decide +kernel
theorem dL_isSo_122 : decode cL_isSo 122 = .ok (.aload_n 2, 1) := by decide +kernel
theorem dL_isSo_123 : decode cL_isSo 123 = .ok (.iload 14, 2) := by decide +kernel
theorem dL_isSo_125 : decode cL_isSo 125 = .ok (.laload, 1) := by decide +kernel
theorem dL_isSo_126 : decode cL_isSo 126 = .ok (.lcmp, 1) := by decide +kernel
theorem dL_isSo_127 : decode cL_isSo 127 = .ok (.ifCond .ne 39, 3) := by decide +kernel
theorem dL_isSo_130 : decode cL_isSo 130 = .ok (.aload_n 0, 1) := by decide +kernel
theorem dL_isSo_131 : decode cL_isSo 131 = .ok (.iconst (-1), 1) := by decide +kernel
theorem dL_isSo_132 : decode cL_isSo 132 = .ok (.iload 14, 2) := by decide +kernel
theorem dL_isSo_134 : decode cL_isSo 134 = .ok (.invokevirtual 54, 3) := by decide +kernel
theorem dL_isSo_137 : decode cL_isSo 137 = .ok (.aload_n 2, 1) := by decide +kernel
theorem dL_isSo_138 : decode cL_isSo 138 = .ok (.bipush 6, 2) := by decide +kernel
theorem dL_isSo_140 : decode cL_isSo 140 = .ok (.iload 14, 2) := by decide +kernel
theorem dL_isSo_142 : decode cL_isSo 142 = .ok (.iadd, 1) := by decide +kernel
theorem dL_isSo_143 : decode cL_isSo 143 = .ok (.laload, 1) := by decide +kernel
theorem dL_isSo_144 : decode cL_isSo 144 = .ok (.lcmp, 1) := by decide +kernel
theorem dL_isSo_145 : decode cL_isSo 145 = .ok (.ifCond .ne 21, 3) := by decide +kernel
theorem dL_isSo_148 : decode cL_isSo 148 = .ok (.lload 15, 2) := by decide +kernel
theorem dL_isSo_150 : decode cL_isSo 150 = .ok (.ldc2_w 81, 3) := by decide +kernel
theorem dL_isSo_153 : decode cL_isSo 153 = .ok (.aload_n 2, 1) := by decide +kernel
theorem dL_isSo_154 : decode cL_isSo 154 = .ok (.iload 14, 2) := by decide +kernel
theorem dL_isSo_156 : decode cL_isSo 156 = .ok (.laload, 1) := by decide +kernel
theorem dL_isSo_157 : decode cL_isSo 157 = .ok (.lmul, 1) := by decide +kernel
theorem dL_isSo_158 : decode cL_isSo 158 = .ok (.lcmp, 1) := by decide +kernel
theorem dL_isSo_159 : decode cL_isSo 159 = .ok (.ifCond .ne 7, 3) := by decide +kernel
theorem dL_isSo_162 : decode cL_isSo 162 = .ok (.iconst 1, 1) := by decide +kernel
theorem dL_isSo_163 : decode cL_isSo 163 = .ok (.goto 4, 3) := by decide +kernel
theorem dL_isSo_166 : decode cL_isSo 166 = .ok (.iconst 0, 1) := by decide +kernel
theorem dL_isSo_167 : decode cL_isSo 167 = .ok (.istore 13, 2) := by decide +kernel
theorem dL_isSo_169 : decode cL_isSo 169 = .ok (.iinc 14 1, 3) := by decide +kernel
theorem dL_isSo_172 : decode cL_isSo 172 = .ok (.goto (-149), 3) := by decide +kernel
theorem dL_isSo_175 : decode cL_isSo 175 = .ok (.iconst 0, 1) := by decide +kernel
theorem dL_isSo_176 : decode cL_isSo 176 = .ok (.istore 14, 2) := by decide +kernel
theorem dL_isSo_178 : decode cL_isSo 178 = .ok (.iload 14, 2) := by decide +kernel
theorem dL_isSo_180 : decode cL_isSo 180 = .ok (.aload 7, 2) := by decide +kernel
theorem dL_isSo_182 : decode cL_isSo 182 = .ok (.iconst 1, 1) := by decide +kernel
theorem dL_isSo_183 : decode cL_isSo 183 = .ok (.iaload, 1) := by decide +kernel
theorem dL_isSo_184 : decode cL_isSo 184 = .ok (.if_icmp .ge 56, 3) := by decide +kernel
theorem dL_isSo_187 : decode cL_isSo 187 = .ok (.iload 13, 2) := by decide +kernel
theorem dL_isSo_189 : decode cL_isSo 189 = .ok (.ifCond .eq 51, 3) := by decide +kernel
theorem dL_isSo_192 : decode cL_isSo 192 = .ok (.aload_n 0, 1) := by decide +kernel
theorem dL_isSo_193 : decode cL_isSo 193 = .ok (.iload 14, 2) := by decide +kernel
theorem dL_isSo_195 : decode cL_isSo 195 = .ok (.invokevirtual 106, 3) := by decide +kernel
theorem dL_isSo_198 : decode cL_isSo 198 = .ok (.aload_n 2, 1) := by decide +kernel
theorem dL_isSo_199 : decode cL_isSo 199 = .ok (.bipush 12, 2) := by decide +kernel
theorem dL_isSo_201 : decode cL_isSo 201 = .ok (.iload 14, 2) := by decide +kernel
theorem dL_isSo_203 : decode cL_isSo 203 = .ok (.iadd, 1) := by decide +kernel
theorem dL_isSo_204 : decode cL_isSo 204 = .ok (.laload, 1) := by decide +kernel
theorem dL_isSo_205 : decode cL_isSo 205 = .ok (.lcmp, 1) := by decide +kernel
theorem dL_isSo_206 : decode cL_isSo 206 = .ok (.ifCond .ne 25, 3) := by decide +kernel
theorem dL_isSo_209 : decode cL_isSo 209 = .ok (.aload_n 0, 1) := by decide +kernel
theorem dL_isSo_210 : decode cL_isSo 210 = .ok (.iload 14, 2) := by decide +kernel
theorem dL_isSo_212 : decode cL_isSo 212 = .ok (.invokevirtual 112, 3) := by decide +kernel
theorem dL_isSo_215 : decode cL_isSo 215 = .ok (.aload_n 1, 1) := by decide +kernel
theorem dL_isSo_216 : decode cL_isSo 216 = .ok (.aload_n 2, 1) := by decide +kernel
theorem dL_isSo_217 : decode cL_isSo 217 = .ok (.aload_n 3, 1) := by decide +kernel
theorem dL_isSo_218 : decode cL_isSo 218 = .ok (.iload 14, 2) := by decide +kernel
theorem dL_isSo_220 : decode cL_isSo 220 = .ok (.invokestatic 98, 3) := by decide +kernel
theorem dL_isSo_223 : decode cL_isSo 223 = .ok (.lcmp, 1) := by decide +kernel
theorem dL_isSo_224 : decode cL_isSo 224 = .ok (.ifCond .ne 7, 3) := by decide +kernel
theorem dL_isSo_227 : decode cL_isSo 227 = .ok (.iconst 1, 1) := by decide +kernel
theorem dL_isSo_228 : decode cL_isSo 228 = .ok (.goto 4, 3) := by decide +kernel
theorem dL_isSo_231 : decode cL_isSo 231 = .ok (.iconst 0, 1) := by decide +kernel
theorem dL_isSo_232 : decode cL_isSo 232 = .ok (.istore 13, 2) := by decide +kernel
theorem dL_isSo_234 : decode cL_isSo 234 = .ok (.iinc 14 1, 3) := by decide +kernel
theorem dL_isSo_237 : decode cL_isSo 237 = .ok (.goto (-59), 3) := by decide +kernel
theorem dL_isSo_240 : decode cL_isSo 240 = .ok (.iload 12, 2) := by decide +kernel
theorem dL_isSo_242 : decode cL_isSo 242 = .ok (.iconst 4, 1) := by decide +kernel
theorem dL_isSo_243 : decode cL_isSo 243 = .ok (.irem, 1) := by decide +kernel
theorem dL_isSo_244 : decode cL_isSo 244 = .ok (.istore 14, 2) := by decide +kernel
theorem dL_isSo_246 : decode cL_isSo 246 = .ok (.iload 14, 2) := by decide +kernel
theorem dL_isSo_248 : decode cL_isSo 248 = .ok (.aload 7, 2) := by decide +kernel
theorem dL_isSo_250 : decode cL_isSo 250 = .ok (.iconst 2, 1) := by decide +kernel
theorem dL_isSo_251 : decode cL_isSo 251 = .ok (.iaload, 1) := by decide +kernel
theorem dL_isSo_252 : decode cL_isSo 252 = .ok (.if_icmp .ge 164, 3) := by decide +kernel
theorem dL_isSo_255 : decode cL_isSo 255 = .ok (.iload 13, 2) := by decide +kernel
theorem dL_isSo_257 : decode cL_isSo 257 = .ok (.ifCond .eq 159, 3) := by decide +kernel
theorem dL_isSo_260 : decode cL_isSo 260 = .ok (.aload_n 0, 1) := by decide +kernel
theorem dL_isSo_261 : decode cL_isSo 261 = .ok (.iload 14, 2) := by decide +kernel
theorem dL_isSo_263 : decode cL_isSo 263 = .ok (.iconst 0, 1) := by decide +kernel
theorem dL_isSo_264 : decode cL_isSo 264 = .ok (.invokevirtual 43, 3) := by decide +kernel
theorem dL_isSo_267 : decode cL_isSo 267 = .ok (.aload 4, 2) := by decide +kernel
theorem dL_isSo_269 : decode cL_isSo 269 = .ok (.iload 14, 2) := by decide +kernel
theorem dL_isSo_271 : decode cL_isSo 271 = .ok (.iaload, 1) := by decide +kernel
theorem dL_isSo_272 : decode cL_isSo 272 = .ok (.iconst 4, 1) := by decide +kernel
theorem dL_isSo_273 : decode cL_isSo 273 = .ok (.irem, 1) := by decide +kernel
theorem dL_isSo_274 : decode cL_isSo 274 = .ok (.i2l, 1) := by decide +kernel
theorem dL_isSo_275 : decode cL_isSo 275 = .ok (.lcmp, 1) := by decide +kernel
theorem dL_isSo_276 : decode cL_isSo 276 = .ok (.ifCond .ne 131, 3) := by decide +kernel
theorem dL_isSo_279 : decode cL_isSo 279 = .ok (.aload_n 0, 1) := by decide +kernel
theorem dL_isSo_280 : decode cL_isSo 280 = .ok (.iload 14, 2) := by decide +kernel
theorem dL_isSo_282 : decode cL_isSo 282 = .ok (.iconst 1, 1) := by decide +kernel
theorem dL_isSo_283 : decode cL_isSo 283 = .ok (.invokevirtual 43, 3) := by decide +kernel
theorem dL_isSo_286 : decode cL_isSo 286 = .ok (.aload 4, 2) := by decide +kernel
theorem dL_isSo_288 : decode cL_isSo 288 = .ok (.iload 14, 2) := by decide +kernel
theorem dL_isSo_290 : decode cL_isSo 290 = .ok (.iaload, 1) := by decide +kernel
theorem dL_isSo_291 : decode cL_isSo 291 = .ok (.iconst 4, 1) := by decide +kernel
theorem dL_isSo_292 : decode cL_isSo 292 = .ok (.idiv, 1) := by decide +kernel
theorem dL_isSo_293 : decode cL_isSo 293 = .ok (.bipush 8, 2) := by decide +kernel
theorem dL_isSo_295 : decode cL_isSo 295 = .ok (.irem, 1) := by decide +kernel
theorem dL_isSo_296 : decode cL_isSo 296 = .ok (.i2l, 1) := by decide +kernel
theorem dL_isSo_297 : decode cL_isSo 297 = .ok (.lcmp, 1) := by decide +kernel
theorem dL_isSo_298 : decode cL_isSo 298 = .ok (.ifCond .ne 109, 3) := by decide +kernel
theorem dL_isSo_301 : decode cL_isSo 301 = .ok (.aload_n 0, 1) := by decide +kernel
theorem dL_isSo_302 : decode cL_isSo 302 = .ok (.iload 14, 2) := by decide +kernel
theorem dL_isSo_304 : decode cL_isSo 304 = .ok (.iconst 2, 1) := by decide +kernel
theorem dL_isSo_305 : decode cL_isSo 305 = .ok (.invokevirtual 43, 3) := by decide +kernel
theorem dL_isSo_308 : decode cL_isSo 308 = .ok (.aload 5, 2) := by decide +kernel
theorem dL_isSo_310 : decode cL_isSo 310 = .ok (.iload 14, 2) := by decide +kernel
theorem dL_isSo_312 : decode cL_isSo 312 = .ok (.laload, 1) := by decide +kernel
theorem dL_isSo_313 : decode cL_isSo 313 = .ok (.lcmp, 1) := by decide +kernel
theorem dL_isSo_314 : decode cL_isSo 314 = .ok (.ifCond .ne 93, 3) := by decide +kernel
theorem dL_isSo_317 : decode cL_isSo 317 = .ok (.aload_n 0, 1) := by decide +kernel
theorem dL_isSo_318 : decode cL_isSo 318 = .ok (.iload 14, 2) := by decide +kernel
theorem dL_isSo_320 : decode cL_isSo 320 = .ok (.iconst 3, 1) := by decide +kernel
theorem dL_isSo_321 : decode cL_isSo 321 = .ok (.invokevirtual 43, 3) := by decide +kernel
theorem dL_isSo_324 : decode cL_isSo 324 = .ok (.aload 6, 2) := by decide +kernel
theorem dL_isSo_326 : decode cL_isSo 326 = .ok (.iload 14, 2) := by decide +kernel
theorem dL_isSo_328 : decode cL_isSo 328 = .ok (.laload, 1) := by decide +kernel
theorem dL_isSo_329 : decode cL_isSo 329 = .ok (.lcmp, 1) := by decide +kernel
theorem dL_isSo_330 : decode cL_isSo 330 = .ok (.ifCond .ne 77, 3) := by decide +kernel
theorem dL_isSo_333 : decode cL_isSo 333 = .ok (.aload_n 0, 1) := by decide +kernel
theorem dL_isSo_334 : decode cL_isSo 334 = .ok (.iload 14, 2) := by decide +kernel
theorem dL_isSo_336 : decode cL_isSo 336 = .ok (.iconst 4, 1) := by decide +kernel
theorem dL_isSo_337 : decode cL_isSo 337 = .ok (.invokevirtual 43, 3) := by decide +kernel
theorem dL_isSo_340 : decode cL_isSo 340 = .ok (.aload 6, 2) := by decide +kernel
theorem dL_isSo_342 : decode cL_isSo 342 = .ok (.iload 14, 2) := by decide +kernel
theorem dL_isSo_344 : decode cL_isSo 344 = .ok (.laload, 1) := by decide +kernel
theorem dL_isSo_345 : decode cL_isSo 345 = .ok (.invokestatic 83, 3) := by decide +kernel
theorem dL_isSo_348 : decode cL_isSo 348 = .ok (.lcmp, 1) := by decide +kernel
theorem dL_isSo_349 : decode cL_isSo 349 = .ok (.ifCond .ne 58, 3) := by decide +kernel
theorem dL_isSo_352 : decode cL_isSo 352 = .ok (.aload_n 0, 1) := by decide +kernel
theorem dL_isSo_353 : decode cL_isSo 353 = .ok (.iload 14, 2) := by decide +kernel
theorem dL_isSo_355 : decode cL_isSo 355 = .ok (.iconst 5, 1) := by decide +kernel
theorem dL_isSo_356 : decode cL_isSo 356 = .ok (.invokevirtual 43, 3) := by decide +kernel
theorem dL_isSo_359 : decode cL_isSo 359 = .ok (.aload 4, 2) := by decide +kernel
theorem dL_isSo_361 : decode cL_isSo 361 = .ok (.iload 14, 2) := by decide +kernel
theorem dL_isSo_363 : decode cL_isSo 363 = .ok (.iaload, 1) := by decide +kernel
theorem dL_isSo_364 : decode cL_isSo 364 = .ok (.ldc 93, 2) := by decide +kernel
theorem dL_isSo_366 : decode cL_isSo 366 = .ok (.irem, 1) := by decide +kernel
theorem dL_isSo_367 : decode cL_isSo 367 = .ok (.bipush 32, 2) := by decide +kernel
theorem dL_isSo_369 : decode cL_isSo 369 = .ok (.idiv, 1) := by decide +kernel
theorem dL_isSo_370 : decode cL_isSo 370 = .ok (.i2l, 1) := by decide +kernel
theorem dL_isSo_371 : decode cL_isSo 371 = .ok (.lcmp, 1) := by decide +kernel
theorem dL_isSo_372 : decode cL_isSo 372 = .ok (.ifCond .ne 35, 3) := by decide +kernel
theorem dL_isSo_375 : decode cL_isSo 375 = .ok (.aload_n 0, 1) := by decide +kernel
theorem dL_isSo_376 : decode cL_isSo 376 = .ok (.iload 14, 2) := by decide +kernel
theorem dL_isSo_378 : decode cL_isSo 378 = .ok (.bipush 6, 2) := by decide +kernel
theorem dL_isSo_380 : decode cL_isSo 380 = .ok (.invokevirtual 43, 3) := by decide +kernel
theorem dL_isSo_383 : decode cL_isSo 383 = .ok (.aload 4, 2) := by decide +kernel
theorem dL_isSo_385 : decode cL_isSo 385 = .ok (.iload 14, 2) := by decide +kernel
theorem dL_isSo_387 : decode cL_isSo 387 = .ok (.iaload, 1) := by decide +kernel
theorem dL_isSo_388 : decode cL_isSo 388 = .ok (.ldc 93, 2) := by decide +kernel
theorem dL_isSo_390 : decode cL_isSo 390 = .ok (.if_icmp .ge 7, 3) := by decide +kernel
theorem dL_isSo_393 : decode cL_isSo 393 = .ok (.iconst 1, 1) := by decide +kernel
theorem dL_isSo_394 : decode cL_isSo 394 = .ok (.goto 4, 3) := by decide +kernel
theorem dL_isSo_397 : decode cL_isSo 397 = .ok (.iconst 0, 1) := by decide +kernel
theorem dL_isSo_398 : decode cL_isSo 398 = .ok (.i2l, 1) := by decide +kernel
theorem dL_isSo_399 : decode cL_isSo 399 = .ok (.lcmp, 1) := by decide +kernel
theorem dL_isSo_400 : decode cL_isSo 400 = .ok (.ifCond .ne 7, 3) := by decide +kernel
theorem dL_isSo_403 : decode cL_isSo 403 = .ok (.iconst 1, 1) := by decide +kernel
theorem dL_isSo_404 : decode cL_isSo 404 = .ok (.goto 4, 3) := by decide +kernel
theorem dL_isSo_407 : decode cL_isSo 407 = .ok (.iconst 0, 1) := by decide +kernel
theorem dL_isSo_408 : decode cL_isSo 408 = .ok (.istore 13, 2) := by decide +kernel
theorem dL_isSo_410 : decode cL_isSo 410 = .ok (.iinc 14 4, 3) := by decide +kernel
theorem dL_isSo_413 : decode cL_isSo 413 = .ok (.goto (-167), 3) := by decide +kernel
theorem dL_isSo_416 : decode cL_isSo 416 = .ok (.aload 7, 2) := by decide +kernel
theorem dL_isSo_418 : decode cL_isSo 418 = .ok (.iconst 1, 1) := by decide +kernel
theorem dL_isSo_419 : decode cL_isSo 419 = .ok (.iaload, 1) := by decide +kernel
theorem dL_isSo_420 : decode cL_isSo 420 = .ok (.ifCond .ne 7, 3) := by decide +kernel
theorem dL_isSo_423 : decode cL_isSo 423 = .ok (.iconst 0, 1) := by decide +kernel
theorem dL_isSo_424 : decode cL_isSo 424 = .ok (.goto 10, 3) := by decide +kernel
theorem dL_isSo_427 : decode cL_isSo 427 = .ok (.iload 11, 2) := by decide +kernel
theorem dL_isSo_429 : decode cL_isSo 429 = .ok (.aload 7, 2) := by decide +kernel
theorem dL_isSo_431 : decode cL_isSo 431 = .ok (.iconst 1, 1) := by decide +kernel
theorem dL_isSo_432 : decode cL_isSo 432 = .ok (.iaload, 1) := by decide +kernel
theorem dL_isSo_433 : decode cL_isSo 433 = .ok (.irem, 1) := by decide +kernel
theorem dL_isSo_434 : decode cL_isSo 434 = .ok (.istore 14, 2) := by decide +kernel
theorem dL_isSo_436 : decode cL_isSo 436 = .ok (.aload 4, 2) := by decide +kernel
theorem dL_isSo_438 : decode cL_isSo 438 = .ok (.aload 5, 2) := by decide +kernel
theorem dL_isSo_440 : decode cL_isSo 440 = .ok (.aload 6, 2) := by decide +kernel
theorem dL_isSo_442 : decode cL_isSo 442 = .ok (.aload 7, 2) := by decide +kernel
theorem dL_isSo_444 : decode cL_isSo 444 = .ok (.aload 8, 2) := by decide +kernel
theorem dL_isSo_446 : decode cL_isSo 446 = .ok (.aload 9, 2) := by decide +kernel
theorem dL_isSo_448 : decode cL_isSo 448 = .ok (.iload 14, 2) := by decide +kernel
theorem dL_isSo_450 : decode cL_isSo 450 = .ok (.invokestatic 114, 3) := by decide +kernel
theorem dL_isSo_453 : decode cL_isSo 453 = .ok (.iload 13, 2) := by decide +kernel
theorem dL_isSo_455 : decode cL_isSo 455 = .ok (.ifCond .eq 17, 3) := by decide +kernel
theorem dL_isSo_458 : decode cL_isSo 458 = .ok (.aload 9, 2) := by decide +kernel
theorem dL_isSo_460 : decode cL_isSo 460 = .ok (.bipush 63, 2) := by decide +kernel
theorem dL_isSo_462 : decode cL_isSo 462 = .ok (.laload, 1) := by decide +kernel
theorem dL_isSo_463 : decode cL_isSo 463 = .ok (.lconst 0, 1) := by decide +kernel
theorem dL_isSo_464 : decode cL_isSo 464 = .ok (.lcmp, 1) := by decide +kernel
theorem dL_isSo_465 : decode cL_isSo 465 = .ok (.ifCond .ne 7, 3) := by decide +kernel
theorem dL_isSo_468 : decode cL_isSo 468 = .ok (.iconst 1, 1) := by decide +kernel
theorem dL_isSo_469 : decode cL_isSo 469 = .ok (.goto 4, 3) := by decide +kernel
theorem dL_isSo_472 : decode cL_isSo 472 = .ok (.iconst 0, 1) := by decide +kernel
theorem dL_isSo_473 : decode cL_isSo 473 = .ok (.istore 13, 2) := by decide +kernel
theorem dL_isSo_475 : decode cL_isSo 475 = .ok (.iload 12, 2) := by decide +kernel
theorem dL_isSo_477 : decode cL_isSo 477 = .ok (.iconst 2, 1) := by decide +kernel
theorem dL_isSo_478 : decode cL_isSo 478 = .ok (.irem, 1) := by decide +kernel
theorem dL_isSo_479 : decode cL_isSo 479 = .ok (.istore 15, 2) := by decide +kernel
theorem dL_isSo_481 : decode cL_isSo 481 = .ok (.iload 15, 2) := by decide +kernel
theorem dL_isSo_483 : decode cL_isSo 483 = .ok (.bipush 21, 2) := by decide +kernel
theorem dL_isSo_485 : decode cL_isSo 485 = .ok (.if_icmp .ge 116, 3) := by decide +kernel
theorem dL_isSo_488 : decode cL_isSo 488 = .ok (.iload 13, 2) := by decide +kernel
theorem dL_isSo_490 : decode cL_isSo 490 = .ok (.ifCond .eq 111, 3) := by decide +kernel
theorem dL_isSo_493 : decode cL_isSo 493 = .ok (.aload 7, 2) := by decide +kernel
theorem dL_isSo_495 : decode cL_isSo 495 = .ok (.iconst 1, 1) := by decide +kernel
theorem dL_isSo_496 : decode cL_isSo 496 = .ok (.iaload, 1) := by decide +kernel
theorem dL_isSo_497 : decode cL_isSo 497 = .ok (.ifCond .le 104, 3) := by decide +kernel
theorem dL_isSo_500 : decode cL_isSo 500 = .ok (.aload_n 0, 1) := by decide +kernel
theorem dL_isSo_501 : decode cL_isSo 501 = .ok (.iload 14, 2) := by decide +kernel
theorem dL_isSo_503 : decode cL_isSo 503 = .ok (.iload 15, 2) := by decide +kernel
theorem dL_isSo_505 : decode cL_isSo 505 = .ok (.iconst 0, 1) := by decide +kernel
theorem dL_isSo_506 : decode cL_isSo 506 = .ok (.invokevirtual 46, 3) := by decide +kernel
theorem dL_isSo_509 : decode cL_isSo 509 = .ok (.aload 9, 2) := by decide +kernel
theorem dL_isSo_511 : decode cL_isSo 511 = .ok (.iload 15, 2) := by decide +kernel
theorem dL_isSo_513 : decode cL_isSo 513 = .ok (.laload, 1) := by decide +kernel
theorem dL_isSo_514 : decode cL_isSo 514 = .ok (.lcmp, 1) := by decide +kernel
theorem dL_isSo_515 : decode cL_isSo 515 = .ok (.ifCond .ne 77, 3) := by decide +kernel
theorem dL_isSo_518 : decode cL_isSo 518 = .ok (.aload_n 0, 1) := by decide +kernel
theorem dL_isSo_519 : decode cL_isSo 519 = .ok (.iload 14, 2) := by decide +kernel
theorem dL_isSo_521 : decode cL_isSo 521 = .ok (.iload 15, 2) := by decide +kernel
theorem dL_isSo_523 : decode cL_isSo 523 = .ok (.iconst 1, 1) := by decide +kernel
theorem dL_isSo_524 : decode cL_isSo 524 = .ok (.invokevirtual 46, 3) := by decide +kernel
theorem dL_isSo_527 : decode cL_isSo 527 = .ok (.aload 9, 2) := by decide +kernel
theorem dL_isSo_529 : decode cL_isSo 529 = .ok (.bipush 22, 2) := by decide +kernel
theorem dL_isSo_531 : decode cL_isSo 531 = .ok (.iload 15, 2) := by decide +kernel
theorem dL_isSo_533 : decode cL_isSo 533 = .ok (.iadd, 1) := by decide +kernel
theorem dL_isSo_534 : decode cL_isSo 534 = .ok (.laload, 1) := by decide +kernel
theorem dL_isSo_535 : decode cL_isSo 535 = .ok (.lcmp, 1) := by decide +kernel
theorem dL_isSo_536 : decode cL_isSo 536 = .ok (.ifCond .ne 56, 3) := by decide +kernel
theorem dL_isSo_539 : decode cL_isSo 539 = .ok (.aload_n 0, 1) := by decide +kernel
theorem dL_isSo_540 : decode cL_isSo 540 = .ok (.iload 14, 2) := by decide +kernel
theorem dL_isSo_542 : decode cL_isSo 542 = .ok (.iload 15, 2) := by decide +kernel
theorem dL_isSo_544 : decode cL_isSo 544 = .ok (.iconst 2, 1) := by decide +kernel
theorem dL_isSo_545 : decode cL_isSo 545 = .ok (.invokevirtual 46, 3) := by decide +kernel
theorem dL_isSo_548 : decode cL_isSo 548 = .ok (.aload 9, 2) := by decide +kernel
theorem dL_isSo_550 : decode cL_isSo 550 = .ok (.bipush 22, 2) := by decide +kernel
theorem dL_isSo_552 : decode cL_isSo 552 = .ok (.iload 15, 2) := by decide +kernel
theorem dL_isSo_554 : decode cL_isSo 554 = .ok (.iadd, 1) := by decide +kernel
theorem dL_isSo_555 : decode cL_isSo 555 = .ok (.laload, 1) := by decide +kernel
theorem dL_isSo_556 : decode cL_isSo 556 = .ok (.ldc2_w 118, 3) := by decide +kernel
theorem dL_isSo_559 : decode cL_isSo 559 = .ok (.ldiv, 1) := by decide +kernel
theorem dL_isSo_560 : decode cL_isSo 560 = .ok (.lcmp, 1) := by decide +kernel
theorem dL_isSo_561 : decode cL_isSo 561 = .ok (.ifCond .ne 31, 3) := by decide +kernel
theorem dL_isSo_564 : decode cL_isSo 564 = .ok (.aload_n 0, 1) := by decide +kernel
theorem dL_isSo_565 : decode cL_isSo 565 = .ok (.iload 14, 2) := by decide +kernel
theorem dL_isSo_567 : decode cL_isSo 567 = .ok (.iload 15, 2) := by decide +kernel
theorem dL_isSo_569 : decode cL_isSo 569 = .ok (.iconst 3, 1) := by decide +kernel
theorem dL_isSo_570 : decode cL_isSo 570 = .ok (.invokevirtual 46, 3) := by decide +kernel
theorem dL_isSo_573 : decode cL_isSo 573 = .ok (.aload 10, 2) := by decide +kernel
theorem dL_isSo_575 : decode cL_isSo 575 = .ok (.bipush 21, 2) := by decide +kernel
theorem dL_isSo_577 : decode cL_isSo 577 = .ok (.iload 14, 2) := by decide +kernel
theorem dL_isSo_579 : decode cL_isSo 579 = .ok (.imul, 1) := by decide +kernel
theorem dL_isSo_580 : decode cL_isSo 580 = .ok (.iload 15, 2) := by decide +kernel
theorem dL_isSo_582 : decode cL_isSo 582 = .ok (.iadd, 1) := by decide +kernel
theorem dL_isSo_583 : decode cL_isSo 583 = .ok (.laload, 1) := by decide +kernel
theorem dL_isSo_584 : decode cL_isSo 584 = .ok (.lcmp, 1) := by decide +kernel
theorem dL_isSo_585 : decode cL_isSo 585 = .ok (.ifCond .ne 7, 3) := by decide +kernel
theorem dL_isSo_588 : decode cL_isSo 588 = .ok (.iconst 1, 1) := by decide +kernel
theorem dL_isSo_589 : decode cL_isSo 589 = .ok (.goto 4, 3) := by decide +kernel
theorem dL_isSo_592 : decode cL_isSo 592 = .ok (.iconst 0, 1) := by decide +kernel
theorem dL_isSo_593 : decode cL_isSo 593 = .ok (.istore 13, 2) := by decide +kernel
theorem dL_isSo_595 : decode cL_isSo 595 = .ok (.iinc 15 2, 3) := by decide +kernel
theorem dL_isSo_598 : decode cL_isSo 598 = .ok (.goto (-117), 3) := by decide +kernel
theorem dL_isSo_601 : decode cL_isSo 601 = .ok (.iload 12, 2) := by decide +kernel
theorem dL_isSo_603 : decode cL_isSo 603 = .ok (.bipush 6, 2) := by decide +kernel
theorem dL_isSo_605 : decode cL_isSo 605 = .ok (.irem, 1) := by decide +kernel
theorem dL_isSo_606 : decode cL_isSo 606 = .ok (.istore 15, 2) := by decide +kernel
theorem dL_isSo_608 : decode cL_isSo 608 = .ok (.iconst 0, 1) := by decide +kernel
theorem dL_isSo_609 : decode cL_isSo 609 = .ok (.istore 16, 2) := by decide +kernel
theorem dL_isSo_611 : decode cL_isSo 611 = .ok (.aload 4, 2) := by decide +kernel
theorem dL_isSo_613 : decode cL_isSo 613 = .ok (.aload 5, 2) := by decide +kernel
theorem dL_isSo_615 : decode cL_isSo 615 = .ok (.aload 6, 2) := by decide +kernel
theorem dL_isSo_617 : decode cL_isSo 617 = .ok (.aload 7, 2) := by decide +kernel
theorem dL_isSo_619 : decode cL_isSo 619 = .ok (.aload 8, 2) := by decide +kernel
theorem dL_isSo_621 : decode cL_isSo 621 = .ok (.aload 9, 2) := by decide +kernel
theorem dL_isSo_623 : decode cL_isSo 623 = .ok (.iload 14, 2) := by decide +kernel
theorem dL_isSo_625 : decode cL_isSo 625 = .ok (.iload 15, 2) := by decide +kernel
theorem dL_isSo_627 : decode cL_isSo 627 = .ok (.invokestatic 94, 3) := by decide +kernel
theorem dL_isSo_630 : decode cL_isSo 630 = .ok (.istore 17, 2) := by decide +kernel
theorem dL_isSo_632 : decode cL_isSo 632 = .ok (.iconst 0, 1) := by decide +kernel
theorem dL_isSo_633 : decode cL_isSo 633 = .ok (.istore 18, 2) := by decide +kernel
theorem dL_isSo_635 : decode cL_isSo 635 = .ok (.iload 18, 2) := by decide +kernel
theorem dL_isSo_637 : decode cL_isSo 637 = .ok (.aload 7, 2) := by decide +kernel
theorem dL_isSo_639 : decode cL_isSo 639 = .ok (.iconst 2, 1) := by decide +kernel
theorem dL_isSo_640 : decode cL_isSo 640 = .ok (.iaload, 1) := by decide +kernel
theorem dL_isSo_641 : decode cL_isSo 641 = .ok (.if_icmp .ge 102, 3) := by decide +kernel
theorem dL_isSo_644 : decode cL_isSo 644 = .ok (.iload 13, 2) := by decide +kernel
theorem dL_isSo_646 : decode cL_isSo 646 = .ok (.ifCond .eq 97, 3) := by decide +kernel
theorem dL_isSo_649 : decode cL_isSo 649 = .ok (.aload 7, 2) := by decide +kernel
theorem dL_isSo_651 : decode cL_isSo 651 = .ok (.iconst 1, 1) := by decide +kernel
theorem dL_isSo_652 : decode cL_isSo 652 = .ok (.iaload, 1) := by decide +kernel
theorem dL_isSo_653 : decode cL_isSo 653 = .ok (.ifCond .le 90, 3) := by decide +kernel
theorem dL_isSo_656 : decode cL_isSo 656 = .ok (.aload 8, 2) := by decide +kernel
theorem dL_isSo_658 : decode cL_isSo 658 = .ok (.iload 18, 2) := by decide +kernel
theorem dL_isSo_660 : decode cL_isSo 660 = .ok (.laload, 1) := by decide +kernel
theorem dL_isSo_661 : decode cL_isSo 661 = .ok (.lconst 0, 1) := by decide +kernel
theorem dL_isSo_662 : decode cL_isSo 662 = .ok (.lcmp, 1) := by decide +kernel
theorem dL_isSo_663 : decode cL_isSo 663 = .ok (.ifCond .le 74, 3) := by decide +kernel
theorem dL_isSo_666 : decode cL_isSo 666 = .ok (.aload_n 0, 1) := by decide +kernel
theorem dL_isSo_667 : decode cL_isSo 667 = .ok (.iload 14, 2) := by decide +kernel
theorem dL_isSo_669 : decode cL_isSo 669 = .ok (.iload 15, 2) := by decide +kernel
theorem dL_isSo_671 : decode cL_isSo 671 = .ok (.iload 16, 2) := by decide +kernel
theorem dL_isSo_673 : decode cL_isSo 673 = .ok (.iconst 0, 1) := by decide +kernel
theorem dL_isSo_674 : decode cL_isSo 674 = .ok (.invokevirtual 50, 3) := by decide +kernel
theorem dL_isSo_677 : decode cL_isSo 677 = .ok (.iload 18, 2) := by decide +kernel
theorem dL_isSo_679 : decode cL_isSo 679 = .ok (.i2l, 1) := by decide +kernel
theorem dL_isSo_680 : decode cL_isSo 680 = .ok (.lcmp, 1) := by decide +kernel
theorem dL_isSo_681 : decode cL_isSo 681 = .ok (.ifCond .ne 50, 3) := by decide +kernel
theorem dL_isSo_684 : decode cL_isSo 684 = .ok (.aload_n 0, 1) := by decide +kernel
theorem dL_isSo_685 : decode cL_isSo 685 = .ok (.iload 14, 2) := by decide +kernel
theorem dL_isSo_687 : decode cL_isSo 687 = .ok (.iload 15, 2) := by decide +kernel
theorem dL_isSo_689 : decode cL_isSo 689 = .ok (.iload 16, 2) := by decide +kernel
theorem dL_isSo_691 : decode cL_isSo 691 = .ok (.iconst 1, 1) := by decide +kernel
theorem dL_isSo_692 : decode cL_isSo 692 = .ok (.invokevirtual 50, 3) := by decide +kernel
theorem dL_isSo_695 : decode cL_isSo 695 = .ok (.aload 8, 2) := by decide +kernel
theorem dL_isSo_697 : decode cL_isSo 697 = .ok (.iload 18, 2) := by decide +kernel
theorem dL_isSo_699 : decode cL_isSo 699 = .ok (.laload, 1) := by decide +kernel
theorem dL_isSo_700 : decode cL_isSo 700 = .ok (.lcmp, 1) := by decide +kernel
theorem dL_isSo_701 : decode cL_isSo 701 = .ok (.ifCond .ne 30, 3) := by decide +kernel
theorem dL_isSo_704 : decode cL_isSo 704 = .ok (.aload_n 0, 1) := by decide +kernel
theorem dL_isSo_705 : decode cL_isSo 705 = .ok (.iload 14, 2) := by decide +kernel
theorem dL_isSo_707 : decode cL_isSo 707 = .ok (.iload 15, 2) := by decide +kernel
theorem dL_isSo_709 : decode cL_isSo 709 = .ok (.iload 16, 2) := by decide +kernel
theorem dL_isSo_711 : decode cL_isSo 711 = .ok (.iconst 2, 1) := by decide +kernel
theorem dL_isSo_712 : decode cL_isSo 712 = .ok (.invokevirtual 50, 3) := by decide +kernel
theorem dL_isSo_715 : decode cL_isSo 715 = .ok (.aload 8, 2) := by decide +kernel
theorem dL_isSo_717 : decode cL_isSo 717 = .ok (.bipush 30, 2) := by decide +kernel
theorem dL_isSo_719 : decode cL_isSo 719 = .ok (.iload 18, 2) := by decide +kernel
theorem dL_isSo_721 : decode cL_isSo 721 = .ok (.iadd, 1) := by decide +kernel
theorem dL_isSo_722 : decode cL_isSo 722 = .ok (.laload, 1) := by decide +kernel
theorem dL_isSo_723 : decode cL_isSo 723 = .ok (.lcmp, 1) := by decide +kernel
theorem dL_isSo_724 : decode cL_isSo 724 = .ok (.ifCond .ne 7, 3) := by decide +kernel
theorem dL_isSo_727 : decode cL_isSo 727 = .ok (.iconst 1, 1) := by decide +kernel
theorem dL_isSo_728 : decode cL_isSo 728 = .ok (.goto 4, 3) := by decide +kernel
theorem dL_isSo_731 : decode cL_isSo 731 = .ok (.iconst 0, 1) := by decide +kernel
theorem dL_isSo_732 : decode cL_isSo 732 = .ok (.istore 13, 2) := by decide +kernel
theorem dL_isSo_734 : decode cL_isSo 734 = .ok (.iinc 16 1, 3) := by decide +kernel
theorem dL_isSo_737 : decode cL_isSo 737 = .ok (.iinc 18 1, 3) := by decide +kernel
theorem dL_isSo_740 : decode cL_isSo 740 = .ok (.goto (-105), 3) := by decide +kernel
theorem dL_isSo_743 : decode cL_isSo 743 = .ok (.iload 13, 2) := by decide +kernel
theorem dL_isSo_745 : decode cL_isSo 745 = .ok (.ifCond .eq 56, 3) := by decide +kernel
theorem dL_isSo_748 : decode cL_isSo 748 = .ok (.iload 17, 2) := by decide +kernel
theorem dL_isSo_750 : decode cL_isSo 750 = .ok (.ifCond .eq 51, 3) := by decide +kernel
theorem dL_isSo_753 : decode cL_isSo 753 = .ok (.aload 7, 2) := by decide +kernel
theorem dL_isSo_755 : decode cL_isSo 755 = .ok (.iconst 1, 1) := by decide +kernel
theorem dL_isSo_756 : decode cL_isSo 756 = .ok (.iaload, 1) := by decide +kernel
theorem dL_isSo_757 : decode cL_isSo 757 = .ok (.ifCond .eq 21, 3) := by decide +kernel
theorem dL_isSo_760 : decode cL_isSo 760 = .ok (.aload_n 0, 1) := by decide +kernel
theorem dL_isSo_761 : decode cL_isSo 761 = .ok (.iload 14, 2) := by decide +kernel
theorem dL_isSo_763 : decode cL_isSo 763 = .ok (.iload 15, 2) := by decide +kernel
theorem dL_isSo_765 : decode cL_isSo 765 = .ok (.iload 16, 2) := by decide +kernel
theorem dL_isSo_767 : decode cL_isSo 767 = .ok (.iconst 1, 1) := by decide +kernel
theorem dL_isSo_768 : decode cL_isSo 768 = .ok (.invokevirtual 50, 3) := by decide +kernel
theorem dL_isSo_771 : decode cL_isSo 771 = .ok (.ldc2_w 120, 3) := by decide +kernel
theorem dL_isSo_774 : decode cL_isSo 774 = .ok (.lcmp, 1) := by decide +kernel
theorem dL_isSo_775 : decode cL_isSo 775 = .ok (.ifCond .ne 26, 3) := by decide +kernel
theorem dL_isSo_778 : decode cL_isSo 778 = .ok (.aload_n 0, 1) := by decide +kernel
theorem dL_isSo_779 : decode cL_isSo 779 = .ok (.bipush 9, 2) := by decide +kernel
theorem dL_isSo_781 : decode cL_isSo 781 = .ok (.aload 7, 2) := by decide +kernel
theorem dL_isSo_783 : decode cL_isSo 783 = .ok (.iconst 2, 1) := by decide +kernel
theorem dL_isSo_784 : decode cL_isSo 784 = .ok (.iaload, 1) := by decide +kernel
theorem dL_isSo_785 : decode cL_isSo 785 = .ok (.iconst 0, 1) := by decide +kernel
theorem dL_isSo_786 : decode cL_isSo 786 = .ok (.iconst 0, 1) := by decide +kernel
theorem dL_isSo_787 : decode cL_isSo 787 = .ok (.invokestatic 122, 3) := by decide +kernel
theorem dL_isSo_790 : decode cL_isSo 790 = .ok (.ldc2_w 59, 3) := by decide +kernel
theorem dL_isSo_793 : decode cL_isSo 793 = .ok (.lcmp, 1) := by decide +kernel
theorem dL_isSo_794 : decode cL_isSo 794 = .ok (.ifCond .ne 7, 3) := by decide +kernel
theorem dL_isSo_797 : decode cL_isSo 797 = .ok (.iconst 1, 1) := by decide +kernel
theorem dL_isSo_798 : decode cL_isSo 798 = .ok (.goto 4, 3) := by decide +kernel
theorem dL_isSo_801 : decode cL_isSo 801 = .ok (.iconst 0, 1) := by decide +kernel
theorem dL_isSo_802 : decode cL_isSo 802 = .ok (.ireturn, 1) := by decide +kernel
set_option maxRecDepth 20000 in
theorem ggL_law_X4_init : GoodIn wsL_law wsX4_init := goodIn_r _ [19, 20, 21, 22, 23, 24, 25, 26, 27, 28, 29, 30, 31, 32, 33, 34, 35, 36, 37, 38, 39, 40, 41, 42, 43, 44, 45, 46, 47, 48, 49, 50, 51, 52, 53, 54, 55, 56, 57, 58, 59, 60, 61, 62, 63, 64, 65, 66, 67, 68, 69, 70, 71, 72, 73, 74, 75, 76, 77, 78, 79, 80, 81, 82, 83, 84, 85, 86, 87, 88, 89, 90, 91, 92, 93, 94, 95, 96, 97, 98, 99, 100, 101, 102, 103, 104, 105, 440, 441, 442, 435, 436, 437, 438, 439, 443, 444, 445, 446] (by decide +kernel) (by decide +kernel)
set_option maxRecDepth 20000 in
theorem gL_law_X4_init : GoodIn wsL_law (wsX4_init) := ggL_law_X4_init
set_option maxRecDepth 20000 in
theorem ggL_law_L_does : GoodIn wsL_law wsL_does := goodIn_ca (goodIn_ca (goodIn_ca (goodIn_r _ [109, 110, 111, 112, 5, 6, 9, 113, 114, 115, 2, 116, 117, 118, 119, 120, 121, 122, 26, 123, 124, 125, 126, 25, 127, 59, 128, 129, 130, 131, 132, 133, 134, 135, 136, 137, 138, 139, 140, 141, 142, 143, 144, 145, 146, 147, 148, 36, 149, 150, 151, 152, 153, 154, 155, 156, 157, 27, 158, 159, 160, 161, 162, 163, 164, 165, 166, 167, 168, 169, 170, 171, 172, 173, 21, 22, 174, 175, 24, 176, 4, 177, 178, 179, 33, 34, 35, 37, 38, 39, 40, 41, 42, 43, 44, 45, 46, 180, 181, 182, 183, 184, 185, 53, 54, 55, 56, 57, 58, 60, 61, 62, 63, 64, 65, 66, 67, 68, 69, 70, 71, 72, 73, 74, 75, 76, 77, 78, 79, 80, 81, 82, 83, 84, 85, 86, 87, 88, 89, 90, 91, 92, 93, 94, 95, 96, 97, 98, 99, 100, 101, 102, 103, 104, 105, 186, 187, 188, 189, 190, 191, 192, 193, 194, 195, 196, 197, 198, 199, 200, 201, 202, 203, 204, 205, 206, 207, 208, 209, 210, 211, 212, 213, 214, 215, 28, 216, 217, 218, 219, 220, 221, 222, 223, 224, 225, 226, 227, 228, 229, 230, 231, 232, 233, 234, 235, 236, 237, 238, 239, 240, 241, 242, 243, 244, 245, 246, 247, 248, 249, 250, 251, 252, 253, 254, 255, 256, 257, 258, 259, 260, 261, 262, 263, 264, 265, 266, 267, 268, 269, 270, 271, 272, 273, 274, 275, 276, 277, 278, 279, 280, 281, 282, 283, 284, 285, 286, 287, 288, 289, 290, 291, 292, 293, 294, 295, 296, 297, 298, 299, 300, 301, 302, 303, 304, 305, 306, 307, 308, 309, 310, 311, 312, 313, 314, 315, 316, 317, 318, 319, 320, 321, 322, 323, 324, 325, 326, 327, 328, 329, 330, 331, 332, 333, 334, 335, 336, 337, 338, 339, 340, 341, 342, 343, 344, 345, 346, 347, 348, 349, 350, 351, 352, 353, 354, 355, 356, 357, 358, 359, 360, 361, 362, 363, 364, 365, 366, 367, 368, 369, 370, 371, 372, 373, 374, 375, 376, 377, 378, 379, 380, 381, 382, 383, 384, 385, 386, 387, 443, 444, 445, 446, 435, 436, 437, 438, 439, 440, 441, 442, 447, 448, 449, 450, 451, 452, 453, 454, 455, 456, 457, 458, 459, 460, 461, 462, 463, 464] (by decide +kernel) (by decide +kernel)) (goodIn_sub (fun _ h => List.mem_append_left _ (List.mem_append_left _ (List.mem_append_right _ h))) (by decide +kernel))) (goodIn_sub (fun _ h => List.mem_append_left _ (List.mem_append_right _ h)) (by decide +kernel))) (goodIn_sub (fun _ h => List.mem_append_right _ h) (by decide +kernel))
set_option maxRecDepth 20000 in
theorem gL_law_L_does : GoodIn wsL_law (va_wsS RL 122 yL_does wsL_does) := goodIn_app (goodIn_of _ (by decide +kernel)) ggL_law_L_does
set_option maxRecDepth 20000 in
theorem ggL_law_X4_cash : GoodIn wsL_law wsX4_cash := goodIn_ca (goodIn_r _ [391, 261, 192, 193, 194, 195, 2, 196, 27, 197, 124, 125, 126, 25, 127, 59, 128, 129, 130, 131, 132, 133, 134, 135, 136, 137, 138, 139, 140, 141, 142, 143, 144, 145, 146, 147, 148, 36, 435, 436, 437, 438, 439, 447, 448, 449, 450, 451, 440, 441, 442] (by decide +kernel) (by decide +kernel)) (goodIn_sub (fun _ h => List.mem_append_left _ (List.mem_append_left _ (List.mem_append_right _ h))) (by decide +kernel))
set_option maxRecDepth 20000 in
theorem gL_law_X4_cash : GoodIn wsL_law (wsV RL 106 RX4 yX4_cash wsX4_cash) := goodIn_app (goodIn_of _ (by decide +kernel)) ggL_law_X4_cash
set_option maxRecDepth 20000 in
theorem ggL_law_L_part : GoodIn wsL_law wsL_part := goodIn_r _ [394, 395] (by decide +kernel) (by decide +kernel)
set_option maxRecDepth 20000 in
theorem gL_law_L_part : GoodIn wsL_law (va_wsS RL 127 yL_part wsL_part) := goodIn_app (goodIn_of _ (by decide +kernel)) ggL_law_L_part
set_option maxRecDepth 20000 in
theorem ggL_law_L_costs : GoodIn wsL_law wsL_costs := goodIn_r _ [398, 399, 400, 401, 402, 403] (by decide +kernel) (by decide +kernel)
set_option maxRecDepth 20000 in
theorem gL_law_L_costs : GoodIn wsL_law (va_wsS RL 83 yL_costs wsL_costs) := goodIn_app (goodIn_of _ (by decide +kernel)) ggL_law_L_costs
set_option maxRecDepth 20000 in
theorem ggL_law_L_trades : GoodIn wsL_law wsL_trades := goodIn_r _ [406, 396, 397, 108, 398, 399, 400, 401, 402, 403, 407, 408, 409, 410, 10] (by decide +kernel) (by decide +kernel)
set_option maxRecDepth 20000 in
theorem gL_law_L_trades : GoodIn wsL_law (va_wsS RL 102 yL_trades wsL_trades) := goodIn_app (goodIn_of _ (by decide +kernel)) ggL_law_L_trades
set_option maxRecDepth 20000 in
theorem ggL_law_L_wealth : GoodIn wsL_law wsL_wealth := goodIn_r _ [413, 10] (by decide +kernel) (by decide +kernel)
set_option maxRecDepth 20000 in
theorem gL_law_L_wealth : GoodIn wsL_law (va_wsS RL 98 yL_wealth wsL_wealth) := goodIn_app (goodIn_of _ (by decide +kernel)) ggL_law_L_wealth
set_option maxRecDepth 20000 in
theorem ggL_law_L_balances : GoodIn wsL_law wsL_balances := goodIn_r _ [416, 400, 10, 411, 412, 108, 413, 404, 405, 406, 396, 397, 398, 399, 401, 402, 403, 407, 408, 409, 410] (by decide +kernel) (by decide +kernel)
set_option maxRecDepth 20000 in
theorem gL_law_L_balances : GoodIn wsL_law (va_wsS RL 140 yL_balances wsL_balances) := goodIn_app (goodIn_of _ (by decide +kernel)) ggL_law_L_balances
set_option maxRecDepth 20000 in
theorem ggL_law_L_goes : GoodIn wsL_law wsL_goes := goodIn_r _ [419, 15, 396, 397, 108, 398, 399, 400, 401, 402, 403] (by decide +kernel) (by decide +kernel)
set_option maxRecDepth 20000 in
theorem gL_law_L_goes : GoodIn wsL_law (va_wsS RL 94 yL_goes wsL_goes) := goodIn_app (goodIn_of _ (by decide +kernel)) ggL_law_L_goes
set_option maxRecDepth 20000 in
theorem ggL_law_L_moves : GoodIn wsL_law wsL_moves := goodIn_r _ [409, 410, 10] (by decide +kernel) (by decide +kernel)
set_option maxRecDepth 20000 in
theorem gL_law_L_moves : GoodIn wsL_law (va_wsS RL 89 yL_moves wsL_moves) := goodIn_app (goodIn_of _ (by decide +kernel)) ggL_law_L_moves
set_option maxRecDepth 20000 in
theorem ggL_law_L_taxes : GoodIn wsL_law wsL_taxes := goodIn_r _ [422, 417, 418, 108, 419, 15, 396, 397, 398, 399, 400, 401, 402, 403] (by decide +kernel) (by decide +kernel)
set_option maxRecDepth 20000 in
theorem gL_law_L_taxes : GoodIn wsL_law (va_wsS RL 114 yL_taxes wsL_taxes) := goodIn_app (goodIn_of _ (by decide +kernel)) ggL_law_L_taxes
set_option maxRecDepth 20000 in
theorem ggL_law_L_isSo : GoodIn wsL_law wsL_isSo := goodIn_ca (goodIn_ca (goodIn_ca (goodIn_r _ [425, 10, 15, 16, 426, 5, 388, 389, 390, 2, 391, 261, 192, 193, 194, 195, 196, 27, 197, 124, 125, 126, 25, 127, 59, 128, 129, 130, 131, 132, 133, 134, 135, 136, 137, 138, 139, 140, 141, 142, 143, 144, 145, 146, 147, 148, 36, 384, 385, 386, 387, 263, 262, 119, 120, 121, 122, 26, 123, 204, 205, 206, 207, 161, 208, 427, 428, 429, 430, 269, 431, 432, 433, 434, 309, 310, 311, 312, 313, 314, 216, 301, 302, 303, 118, 220, 411, 412, 108, 413, 367, 368, 369, 370, 274, 202, 371, 372, 276, 373, 374, 275, 331, 332, 333, 334, 335, 28, 287, 149, 150, 151, 152, 153, 396, 397, 398, 399, 400, 401, 402, 403, 420, 421, 422, 417, 418, 419, 375, 376, 377, 378, 294, 351, 352, 353, 354, 355, 288, 289, 74, 290, 356, 357, 358, 379, 380, 381, 382, 277, 237, 278, 383, 106, 107, 109, 110, 111, 112, 6, 9, 113, 114, 115, 116, 117, 154, 155, 156, 157, 158, 159, 160, 162, 163, 164, 165, 166, 167, 168, 169, 170, 171, 172, 173, 21, 22, 174, 175, 24, 176, 4, 177, 178, 179, 33, 34, 35, 37, 38, 39, 40, 41, 42, 43, 44, 45, 46, 180, 181, 182, 183, 184, 185, 53, 54, 55, 56, 57, 58, 60, 61, 62, 63, 64, 65, 66, 67, 68, 69, 70, 71, 72, 73, 75, 76, 77, 78, 79, 80, 81, 82, 83, 84, 85, 86, 87, 88, 89, 90, 91, 92, 93, 94, 95, 96, 97, 98, 99, 100, 101, 102, 103, 104, 105, 186, 187, 188, 189, 190, 191, 198, 199, 200, 201, 203, 209, 210, 211, 212, 213, 214, 215, 217, 218, 219, 221, 222, 223, 224, 225, 226, 227, 228, 229, 230, 231, 232, 233, 234, 235, 236, 238, 239, 240, 241, 242, 243, 244, 245, 246, 247, 248, 249, 250, 251, 252, 253, 254, 255, 256, 257, 258, 259, 260, 264, 265, 266, 267, 268, 270, 271, 272, 273, 279, 280, 281, 282, 283, 284, 285, 286, 291, 292, 293, 295, 296, 297, 298, 299, 300, 304, 305, 306, 307, 308, 315, 316, 317, 318, 319, 320, 321, 322, 323, 324, 325, 326, 327, 328, 329, 330, 336, 337, 338, 339, 340, 341, 342, 343, 344, 345, 346, 347, 348, 349, 350, 359, 360, 361, 362, 363, 364, 365, 366, 435, 436, 437, 438, 439, 447, 448, 449, 450, 451, 440, 441, 442, 443, 444, 445, 446, 452, 453, 454, 455, 456, 457, 458, 459, 460, 461, 462, 463, 464] (by decide +kernel) (by decide +kernel)) (goodIn_sub (fun _ h => List.mem_append_left _ (List.mem_append_left _ (List.mem_append_right _ h))) (by decide +kernel))) (goodIn_sub (fun _ h => List.mem_append_left _ (List.mem_append_right _ h)) (by decide +kernel))) (goodIn_sub (fun _ h => List.mem_append_right _ h) (by decide +kernel))
set_option maxRecDepth 20000 in
theorem gL_law_L_isSo : GoodIn wsL_law (va_wsS RL 144 yL_isSo wsL_isSo) := goodIn_app (goodIn_of _ (by decide +kernel)) ggL_law_L_isSo
theorem dL_law_0 : decode cL_law 0 = .ok (.new 9, 3) := by decide +kernel
theorem dL_law_3 : decode cL_law 3 = .ok (.dup, 1) := by decide +kernel
theorem dL_law_4 : decode cL_law 4 = .ok (.invokespecial 126, 3) := by decide +kernel
theorem dL_law_7 : decode cL_law 7 = .ok (.astore_n 1, 1) := by decide +kernel
theorem dL_law_8 : decode cL_law 8 = .ok (.bipush 6, 2) := by decide +kernel
theorem dL_law_10 : decode cL_law 10 = .ok (.newarray .int, 2) := by decide +kernel
theorem dL_law_12 : decode cL_law 12 = .ok (.astore_n 2, 1) := by decide +kernel
theorem dL_law_13 : decode cL_law 13 = .ok (.bipush 16, 2) := by decide +kernel
theorem dL_law_15 : decode cL_law 15 = .ok (.newarray .long, 2) := by decide +kernel
theorem dL_law_17 : decode cL_law 17 = .ok (.astore_n 3, 1) := by decide +kernel
theorem dL_law_18 : decode cL_law 18 = .ok (.bipush 18, 2) := by decide +kernel
theorem dL_law_20 : decode cL_law 20 = .ok (.newarray .long, 2) := by decide +kernel
theorem dL_law_22 : decode cL_law 22 = .ok (.astore 4, 2) := by decide +kernel
theorem dL_law_24 : decode cL_law 24 = .ok (.bipush 18, 2) := by decide +kernel
theorem dL_law_26 : decode cL_law 26 = .ok (.newarray .int, 2) := by decide +kernel
theorem dL_law_28 : decode cL_law 28 = .ok (.astore 5, 2) := by decide +kernel
theorem dL_law_30 : decode cL_law 30 = .ok (.bipush 30, 2) := by decide +kernel
theorem dL_law_32 : decode cL_law 32 = .ok (.newarray .int, 2) := by decide +kernel
theorem dL_law_34 : decode cL_law 34 = .ok (.astore 6, 2) := by decide +kernel
theorem dL_law_36 : decode cL_law 36 = .ok (.bipush 30, 2) := by decide +kernel
theorem dL_law_38 : decode cL_law 38 = .ok (.newarray .long, 2) := by decide +kernel
theorem dL_law_40 : decode cL_law 40 = .ok (.astore 7, 2) := by decide +kernel
theorem dL_law_42 : decode cL_law 42 = .ok (.bipush 30, 2) := by decide +kernel
theorem dL_law_44 : decode cL_law 44 = .ok (.newarray .long, 2) := by decide +kernel
theorem dL_law_46 : decode cL_law 46 = .ok (.astore 8, 2) := by decide +kernel
theorem dL_law_48 : decode cL_law 48 = .ok (.bipush 63, 2) := by decide +kernel
theorem dL_law_50 : decode cL_law 50 = .ok (.newarray .long, 2) := by decide +kernel
theorem dL_law_52 : decode cL_law 52 = .ok (.astore 9, 2) := by decide +kernel
theorem dL_law_54 : decode cL_law 54 = .ok (.bipush 60, 2) := by decide +kernel
theorem dL_law_56 : decode cL_law 56 = .ok (.newarray .long, 2) := by decide +kernel
theorem dL_law_58 : decode cL_law 58 = .ok (.astore 10, 2) := by decide +kernel
theorem dL_law_60 : decode cL_law 60 = .ok (.bipush 64, 2) := by decide +kernel
theorem dL_law_62 : decode cL_law 62 = .ok (.newarray .long, 2) := by decide +kernel
theorem dL_law_64 : decode cL_law 64 = .ok (.astore 11, 2) := by decide +kernel
theorem dL_law_66 : decode cL_law 66 = .ok (.iconst 3, 1) := by decide +kernel
theorem dL_law_67 : decode cL_law 67 = .ok (.newarray .int, 2) := by decide +kernel
theorem dL_law_69 : decode cL_law 69 = .ok (.astore 12, 2) := by decide +kernel
theorem dL_law_71 : decode cL_law 71 = .ok (.iconst 0, 1) := by decide +kernel
theorem dL_law_72 : decode cL_law 72 = .ok (.istore 13, 2) := by decide +kernel
theorem dL_law_74 : decode cL_law 74 = .ok (.iload 13, 2) := by decide +kernel
theorem dL_law_76 : decode cL_law 76 = .ok (.bipush 6, 2) := by decide +kernel
theorem dL_law_78 : decode cL_law 78 = .ok (.if_icmp .ge 16, 3) := by decide +kernel
theorem dL_law_81 : decode cL_law 81 = .ok (.aload_n 2, 1) := by decide +kernel
theorem dL_law_82 : decode cL_law 82 = .ok (.iload 13, 2) := by decide +kernel
theorem dL_law_84 : decode cL_law 84 = .ok (.sipush 10000, 3) := by decide +kernel
theorem dL_law_87 : decode cL_law 87 = .ok (.iastore, 1) := by decide +kernel
theorem dL_law_88 : decode cL_law 88 = .ok (.iinc 13 1, 3) := by decide +kernel
theorem dL_law_91 : decode cL_law 91 = .ok (.goto (-17), 3) := by decide +kernel
theorem dL_law_94 : decode cL_law 94 = .ok (.aload_n 1, 1) := by decide +kernel
theorem dL_law_95 : decode cL_law 95 = .ok (.iconst 0, 1) := by decide +kernel
theorem dL_law_96 : decode cL_law 96 = .ok (.bipush 6, 2) := by decide +kernel
theorem dL_law_98 : decode cL_law 98 = .ok (.iconst 1, 1) := by decide +kernel
theorem dL_law_99 : decode cL_law 99 = .ok (.iconst 0, 1) := by decide +kernel
theorem dL_law_100 : decode cL_law 100 = .ok (.invokestatic 122, 3) := by decide +kernel
theorem dL_law_103 : decode cL_law 103 = .ok (.ldc2_w 59, 3) := by decide +kernel
theorem dL_law_106 : decode cL_law 106 = .ok (.lcmp, 1) := by decide +kernel
theorem dL_law_107 : decode cL_law 107 = .ok (.ifCond .ne 99, 3) := by decide +kernel
theorem dL_law_110 : decode cL_law 110 = .ok (.aload_n 1, 1) := by decide +kernel
theorem dL_law_111 : decode cL_law 111 = .ok (.iconst 0, 1) := by decide +kernel
theorem dL_law_112 : decode cL_law 112 = .ok (.iconst 0, 1) := by decide +kernel
theorem dL_law_113 : decode cL_law 113 = .ok (.bipush 9, 2) := by decide +kernel
theorem dL_law_115 : decode cL_law 115 = .ok (.iconst 0, 1) := by decide +kernel
theorem dL_law_116 : decode cL_law 116 = .ok (.invokestatic 122, 3) := by decide +kernel
theorem dL_law_119 : decode cL_law 119 = .ok (.ldc2_w 63, 3) := by decide +kernel
theorem dL_law_122 : decode cL_law 122 = .ok (.lcmp, 1) := by decide +kernel
theorem dL_law_123 : decode cL_law 123 = .ok (.ifCond .ne 83, 3) := by decide +kernel
theorem dL_law_126 : decode cL_law 126 = .ok (.aload_n 1, 1) := by decide +kernel
theorem dL_law_127 : decode cL_law 127 = .ok (.iconst 2, 1) := by decide +kernel
theorem dL_law_128 : decode cL_law 128 = .ok (.iconst 0, 1) := by decide +kernel
theorem dL_law_129 : decode cL_law 129 = .ok (.iconst 1, 1) := by decide +kernel
theorem dL_law_130 : decode cL_law 130 = .ok (.iconst 0, 1) := by decide +kernel
theorem dL_law_131 : decode cL_law 131 = .ok (.invokestatic 122, 3) := by decide +kernel
theorem dL_law_134 : decode cL_law 134 = .ok (.ldc2_w 59, 3) := by decide +kernel
theorem dL_law_137 : decode cL_law 137 = .ok (.lcmp, 1) := by decide +kernel
theorem dL_law_138 : decode cL_law 138 = .ok (.ifCond .ne 68, 3) := by decide +kernel
theorem dL_law_141 : decode cL_law 141 = .ok (.aload_n 1, 1) := by decide +kernel
theorem dL_law_142 : decode cL_law 142 = .ok (.bipush 8, 2) := by decide +kernel
theorem dL_law_144 : decode cL_law 144 = .ok (.sipush 401, 3) := by decide +kernel
theorem dL_law_147 : decode cL_law 147 = .ok (.iconst 0, 1) := by decide +kernel
theorem dL_law_148 : decode cL_law 148 = .ok (.iconst 0, 1) := by decide +kernel
theorem dL_law_149 : decode cL_law 149 = .ok (.invokestatic 122, 3) := by decide +kernel
theorem dL_law_152 : decode cL_law 152 = .ok (.ldc2_w 63, 3) := by decide +kernel
theorem dL_law_155 : decode cL_law 155 = .ok (.lcmp, 1) := by decide +kernel
theorem dL_law_156 : decode cL_law 156 = .ok (.ifCond .ne 50, 3) := by decide +kernel
theorem dL_law_159 : decode cL_law 159 = .ok (.aload_n 1, 1) := by decide +kernel
theorem dL_law_160 : decode cL_law 160 = .ok (.bipush 12, 2) := by decide +kernel
theorem dL_law_162 : decode cL_law 162 = .ok (.bipush (-2), 2) := by decide +kernel
theorem dL_law_164 : decode cL_law 164 = .ok (.iconst 0, 1) := by decide +kernel
theorem dL_law_165 : decode cL_law 165 = .ok (.iconst 0, 1) := by decide +kernel
theorem dL_law_166 : decode cL_law 166 = .ok (.invokestatic 122, 3) := by decide +kernel
theorem dL_law_169 : decode cL_law 169 = .ok (.ldc2_w 59, 3) := by decide +kernel
theorem dL_law_172 : decode cL_law 172 = .ok (.lcmp, 1) := by decide +kernel
theorem dL_law_173 : decode cL_law 173 = .ok (.ifCond .ne 33, 3) := by decide +kernel
theorem dL_law_176 : decode cL_law 176 = .ok (.aload_n 1, 1) := by decide +kernel
theorem dL_law_177 : decode cL_law 177 = .ok (.bipush 10, 2) := by decide +kernel
theorem dL_law_179 : decode cL_law 179 = .ok (.iconst 0, 1) := by decide +kernel
theorem dL_law_180 : decode cL_law 180 = .ok (.iconst 0, 1) := by decide +kernel
theorem dL_law_181 : decode cL_law 181 = .ok (.iconst 0, 1) := by decide +kernel
theorem dL_law_182 : decode cL_law 182 = .ok (.invokestatic 122, 3) := by decide +kernel
theorem dL_law_185 : decode cL_law 185 = .ok (.ldc2_w 59, 3) := by decide +kernel
theorem dL_law_188 : decode cL_law 188 = .ok (.lcmp, 1) := by decide +kernel
theorem dL_law_189 : decode cL_law 189 = .ok (.ifCond .ne 17, 3) := by decide +kernel
theorem dL_law_192 : decode cL_law 192 = .ok (.aload_n 1, 1) := by decide +kernel
theorem dL_law_193 : decode cL_law 193 = .ok (.iconst (-1), 1) := by decide +kernel
theorem dL_law_194 : decode cL_law 194 = .ok (.invokevirtual 106, 3) := by decide +kernel
theorem dL_law_197 : decode cL_law 197 = .ok (.lconst 0, 1) := by decide +kernel
theorem dL_law_198 : decode cL_law 198 = .ok (.lcmp, 1) := by decide +kernel
theorem dL_law_199 : decode cL_law 199 = .ok (.ifCond .ne 7, 3) := by decide +kernel
theorem dL_law_202 : decode cL_law 202 = .ok (.iconst 1, 1) := by decide +kernel
theorem dL_law_203 : decode cL_law 203 = .ok (.goto 4, 3) := by decide +kernel
theorem dL_law_206 : decode cL_law 206 = .ok (.iconst 0, 1) := by decide +kernel
theorem dL_law_207 : decode cL_law 207 = .ok (.istore 13, 2) := by decide +kernel
theorem dL_law_209 : decode cL_law 209 = .ok (.iconst 0, 1) := by decide +kernel
theorem dL_law_210 : decode cL_law 210 = .ok (.istore 14, 2) := by decide +kernel
theorem dL_law_212 : decode cL_law 212 = .ok (.iload 14, 2) := by decide +kernel
theorem dL_law_214 : decode cL_law 214 = .ok (.bipush 60, 2) := by decide +kernel
theorem dL_law_216 : decode cL_law 216 = .ok (.if_icmp .ge 1977, 3) := by decide +kernel
theorem dL_law_219 : decode cL_law 219 = .ok (.iload 13, 2) := by decide +kernel
theorem dL_law_221 : decode cL_law 221 = .ok (.ifCond .eq 1972, 3) := by decide +kernel
theorem dL_law_224 : decode cL_law 224 = .ok (.iload 14, 2) := by decide +kernel
theorem dL_law_226 : decode cL_law 226 = .ok (.iconst 2, 1) := by decide +kernel
theorem dL_law_227 : decode cL_law 227 = .ok (.if_icmp .ge 7, 3) := by decide +kernel
theorem dL_law_230 : decode cL_law 230 = .ok (.iconst 1, 1) := by decide +kernel
theorem dL_law_231 : decode cL_law 231 = .ok (.goto 23, 3) := by decide +kernel
theorem dL_law_234 : decode cL_law 234 = .ok (.iload 14, 2) := by decide +kernel
theorem dL_law_236 : decode cL_law 236 = .ok (.iconst 4, 1) := by decide +kernel
theorem dL_law_237 : decode cL_law 237 = .ok (.if_icmp .ge 7, 3) := by decide +kernel
theorem dL_law_240 : decode cL_law 240 = .ok (.iconst 2, 1) := by decide +kernel
theorem dL_law_241 : decode cL_law 241 = .ok (.goto 13, 3) := by decide +kernel
theorem dL_law_244 : decode cL_law 244 = .ok (.aload_n 0, 1) := by decide +kernel
theorem dL_law_245 : decode cL_law 245 = .ok (.iconst 3, 1) := by decide +kernel
theorem dL_law_246 : decode cL_law 246 = .ok (.iload 14, 2) := by decide +kernel
theorem dL_law_248 : decode cL_law 248 = .ok (.imul, 1) := by decide +kernel
theorem dL_law_249 : decode cL_law 249 = .ok (.bipush 32, 2) := by decide +kernel
theorem dL_law_251 : decode cL_law 251 = .ok (.invokestatic 127, 3) := by decide +kernel
theorem dL_law_254 : decode cL_law 254 = .ok (.istore 15, 2) := by decide +kernel
theorem dL_law_256 : decode cL_law 256 = .ok (.aload_n 0, 1) := by decide +kernel
theorem dL_law_257 : decode cL_law 257 = .ok (.iconst 3, 1) := by decide +kernel
theorem dL_law_258 : decode cL_law 258 = .ok (.iload 14, 2) := by decide +kernel
theorem dL_law_260 : decode cL_law 260 = .ok (.imul, 1) := by decide +kernel
theorem dL_law_261 : decode cL_law 261 = .ok (.iconst 1, 1) := by decide +kernel
theorem dL_law_262 : decode cL_law 262 = .ok (.iadd, 1) := by decide +kernel
theorem dL_law_263 : decode cL_law 263 = .ok (.ldc 131, 2) := by decide +kernel
theorem dL_law_265 : decode cL_law 265 = .ok (.invokestatic 127, 3) := by decide +kernel
theorem dL_law_268 : decode cL_law 268 = .ok (.istore 16, 2) := by decide +kernel
theorem dL_law_270 : decode cL_law 270 = .ok (.aload_n 0, 1) := by decide +kernel
theorem dL_law_271 : decode cL_law 271 = .ok (.iconst 3, 1) := by decide +kernel
theorem dL_law_272 : decode cL_law 272 = .ok (.iload 14, 2) := by decide +kernel
theorem dL_law_274 : decode cL_law 274 = .ok (.imul, 1) := by decide +kernel
theorem dL_law_275 : decode cL_law 275 = .ok (.iconst 2, 1) := by decide +kernel
theorem dL_law_276 : decode cL_law 276 = .ok (.iadd, 1) := by decide +kernel
theorem dL_law_277 : decode cL_law 277 = .ok (.ldc 131, 2) := by decide +kernel
theorem dL_law_279 : decode cL_law 279 = .ok (.invokestatic 127, 3) := by decide +kernel
theorem dL_law_282 : decode cL_law 282 = .ok (.istore 17, 2) := by decide +kernel
theorem dL_law_284 : decode cL_law 284 = .ok (.iload 16, 2) := by decide +kernel
theorem dL_law_286 : decode cL_law 286 = .ok (.aload 12, 2) := by decide +kernel
theorem dL_law_288 : decode cL_law 288 = .ok (.iconst 1, 1) := by decide +kernel
theorem dL_law_289 : decode cL_law 289 = .ok (.iaload, 1) := by decide +kernel
theorem dL_law_290 : decode cL_law 290 = .ok (.iconst 1, 1) := by decide +kernel
theorem dL_law_291 : decode cL_law 291 = .ok (.iadd, 1) := by decide +kernel
theorem dL_law_292 : decode cL_law 292 = .ok (.irem, 1) := by decide +kernel
theorem dL_law_293 : decode cL_law 293 = .ok (.istore 18, 2) := by decide +kernel
theorem dL_law_295 : decode cL_law 295 = .ok (.iload 17, 2) := by decide +kernel
theorem dL_law_297 : decode cL_law 297 = .ok (.bipush 7, 2) := by decide +kernel
theorem dL_law_299 : decode cL_law 299 = .ok (.irem, 1) := by decide +kernel
theorem dL_law_300 : decode cL_law 300 = .ok (.istore 19, 2) := by decide +kernel
theorem dL_law_302 : decode cL_law 302 = .ok (.iload 18, 2) := by decide +kernel
theorem dL_law_304 : decode cL_law 304 = .ok (.aload 12, 2) := by decide +kernel
theorem dL_law_306 : decode cL_law 306 = .ok (.iconst 1, 1) := by decide +kernel
theorem dL_law_307 : decode cL_law 307 = .ok (.iaload, 1) := by decide +kernel
theorem dL_law_308 : decode cL_law 308 = .ok (.if_icmp .ge 7, 3) := by decide +kernel
theorem dL_law_311 : decode cL_law 311 = .ok (.iconst 1, 1) := by decide +kernel
theorem dL_law_312 : decode cL_law 312 = .ok (.goto 4, 3) := by decide +kernel
theorem dL_law_315 : decode cL_law 315 = .ok (.iconst 0, 1) := by decide +kernel
theorem dL_law_316 : decode cL_law 316 = .ok (.istore 20, 2) := by decide +kernel
theorem dL_law_318 : decode cL_law 318 = .ok (.iload 20, 2) := by decide +kernel
theorem dL_law_320 : decode cL_law 320 = .ok (.ifCond .eq 14, 3) := by decide +kernel
theorem dL_law_323 : decode cL_law 323 = .ok (.iload 19, 2) := by decide +kernel
theorem dL_law_325 : decode cL_law 325 = .ok (.bipush 6, 2) := by decide +kernel
theorem dL_law_327 : decode cL_law 327 = .ok (.if_icmp .ge 7, 3) := by decide +kernel
theorem dL_law_330 : decode cL_law 330 = .ok (.iconst 1, 1) := by decide +kernel
theorem dL_law_331 : decode cL_law 331 = .ok (.goto 4, 3) := by decide +kernel
theorem dL_law_334 : decode cL_law 334 = .ok (.iconst 0, 1) := by decide +kernel
theorem dL_law_335 : decode cL_law 335 = .ok (.istore 21, 2) := by decide +kernel
theorem dL_law_337 : decode cL_law 337 = .ok (.iload 19, 2) := by decide +kernel
theorem dL_law_339 : decode cL_law 339 = .ok (.bipush 6, 2) := by decide +kernel
theorem dL_law_341 : decode cL_law 341 = .ok (.irem, 1) := by decide +kernel
theorem dL_law_342 : decode cL_law 342 = .ok (.istore 22, 2) := by decide +kernel
theorem dL_law_344 : decode cL_law 344 = .ok (.iload 15, 2) := by decide +kernel
theorem dL_law_346 : decode cL_law 346 = .ok (.ifCond .eq 10, 3) := by decide +kernel
theorem dL_law_349 : decode cL_law 349 = .ok (.iload 15, 2) := by decide +kernel
theorem dL_law_351 : decode cL_law 351 = .ok (.bipush 29, 2) := by decide +kernel
theorem dL_law_353 : decode cL_law 353 = .ok (.if_icmp .le 92, 3) := by decide +kernel
theorem dL_law_356 : decode cL_law 356 = .ok (.iload 16, 2) := by decide +kernel
theorem dL_law_358 : decode cL_law 358 = .ok (.iconst 4, 1) := by decide +kernel
theorem dL_law_359 : decode cL_law 359 = .ok (.irem, 1) := by decide +kernel
theorem dL_law_360 : decode cL_law 360 = .ok (.ifCond .ne 14, 3) := by decide +kernel
theorem dL_law_363 : decode cL_law 363 = .ok (.bipush 10, 2) := by decide +kernel
theorem dL_law_365 : decode cL_law 365 = .ok (.iload 17, 2) := by decide +kernel
theorem dL_law_367 : decode cL_law 367 = .ok (.bipush 16, 2) := by decide +kernel
theorem dL_law_369 : decode cL_law 369 = .ok (.imul, 1) := by decide +kernel
theorem dL_law_370 : decode cL_law 370 = .ok (.iadd, 1) := by decide +kernel
theorem dL_law_371 : decode cL_law 371 = .ok (.goto 33, 3) := by decide +kernel
theorem dL_law_374 : decode cL_law 374 = .ok (.iload 16, 2) := by decide +kernel
theorem dL_law_376 : decode cL_law 376 = .ok (.iconst 4, 1) := by decide +kernel
theorem dL_law_377 : decode cL_law 377 = .ok (.irem, 1) := by decide +kernel
theorem dL_law_378 : decode cL_law 378 = .ok (.iconst 1, 1) := by decide +kernel
theorem dL_law_379 : decode cL_law 379 = .ok (.if_icmp .ne 15, 3) := by decide +kernel
theorem dL_law_382 : decode cL_law 382 = .ok (.bipush 10, 2) := by decide +kernel
theorem dL_law_384 : decode cL_law 384 = .ok (.iload 17, 2) := by decide +kernel
theorem dL_law_386 : decode cL_law 386 = .ok (.sipush 3000, 3) := by decide +kernel
theorem dL_law_389 : decode cL_law 389 = .ok (.irem, 1) := by decide +kernel
theorem dL_law_390 : decode cL_law 390 = .ok (.iadd, 1) := by decide +kernel
theorem dL_law_391 : decode cL_law 391 = .ok (.goto 13, 3) := by decide +kernel
theorem dL_law_394 : decode cL_law 394 = .ok (.sipush 5000, 3) := by decide +kernel
theorem dL_law_397 : decode cL_law 397 = .ok (.iload 17, 2) := by decide +kernel
theorem dL_law_399 : decode cL_law 399 = .ok (.sipush 20000, 3) := by decide +kernel
theorem dL_law_402 : decode cL_law 402 = .ok (.irem, 1) := by decide +kernel
theorem dL_law_403 : decode cL_law 403 = .ok (.iadd, 1) := by decide +kernel
theorem dL_law_404 : decode cL_law 404 = .ok (.istore 23, 2) := by decide +kernel
theorem dL_law_406 : decode cL_law 406 = .ok (.aload_n 2, 1) := by decide +kernel
theorem dL_law_407 : decode cL_law 407 = .ok (.iload 22, 2) := by decide +kernel
theorem dL_law_409 : decode cL_law 409 = .ok (.iaload, 1) := by decide +kernel
theorem dL_law_410 : decode cL_law 410 = .ok (.istore 24, 2) := by decide +kernel
theorem dL_law_412 : decode cL_law 412 = .ok (.aload_n 2, 1) := by decide +kernel
theorem dL_law_413 : decode cL_law 413 = .ok (.iload 22, 2) := by decide +kernel
theorem dL_law_415 : decode cL_law 415 = .ok (.iload 23, 2) := by decide +kernel
theorem dL_law_417 : decode cL_law 417 = .ok (.iastore, 1) := by decide +kernel
theorem dL_law_418 : decode cL_law 418 = .ok (.aload_n 1, 1) := by decide +kernel
theorem dL_law_419 : decode cL_law 419 = .ok (.iconst 0, 1) := by decide +kernel
theorem dL_law_420 : decode cL_law 420 = .ok (.iload 22, 2) := by decide +kernel
theorem dL_law_422 : decode cL_law 422 = .ok (.iload 23, 2) := by decide +kernel
theorem dL_law_424 : decode cL_law 424 = .ok (.iconst 0, 1) := by decide +kernel
theorem dL_law_425 : decode cL_law 425 = .ok (.invokestatic 122, 3) := by decide +kernel
theorem dL_law_428 : decode cL_law 428 = .ok (.iload 24, 2) := by decide +kernel
theorem dL_law_430 : decode cL_law 430 = .ok (.i2l, 1) := by decide +kernel
theorem dL_law_431 : decode cL_law 431 = .ok (.lcmp, 1) := by decide +kernel
theorem dL_law_432 : decode cL_law 432 = .ok (.ifCond .ne 7, 3) := by decide +kernel
theorem dL_law_435 : decode cL_law 435 = .ok (.iconst 1, 1) := by decide +kernel
theorem dL_law_436 : decode cL_law 436 = .ok (.goto 4, 3) := by decide +kernel
theorem dL_law_439 : decode cL_law 439 = .ok (.iconst 0, 1) := by decide +kernel
theorem dL_law_440 : decode cL_law 440 = .ok (.istore 13, 2) := by decide +kernel
theorem dL_law_442 : decode cL_law 442 = .ok (.goto 1704, 3) := by decide +kernel
theorem dL_law_445 : decode cL_law 445 = .ok (.iload 15, 2) := by decide +kernel
theorem dL_law_447 : decode cL_law 447 = .ok (.iconst 1, 1) := by decide +kernel
theorem dL_law_448 : decode cL_law 448 = .ok (.if_icmp .ne 48, 3) := by decide +kernel
theorem dL_law_451 : decode cL_law 451 = .ok (.aload 12, 2) := by decide +kernel
theorem dL_law_453 : decode cL_law 453 = .ok (.iconst 1, 1) := by decide +kernel
theorem dL_law_454 : decode cL_law 454 = .ok (.iaload, 1) := by decide +kernel
theorem dL_law_455 : decode cL_law 455 = .ok (.iconst 3, 1) := by decide +kernel
theorem dL_law_456 : decode cL_law 456 = .ok (.if_icmp .ge 1690, 3) := by decide +kernel
theorem dL_law_459 : decode cL_law 459 = .ok (.aload 12, 2) := by decide +kernel
theorem dL_law_461 : decode cL_law 461 = .ok (.iconst 1, 1) := by decide +kernel
theorem dL_law_462 : decode cL_law 462 = .ok (.dup2, 1) := by decide +kernel
theorem dL_law_463 : decode cL_law 463 = .ok (.iaload, 1) := by decide +kernel
theorem dL_law_464 : decode cL_law 464 = .ok (.iconst 1, 1) := by decide +kernel
theorem dL_law_465 : decode cL_law 465 = .ok (.iadd, 1) := by decide +kernel
theorem dL_law_466 : decode cL_law 466 = .ok (.iastore, 1) := by decide +kernel
theorem dL_law_467 : decode cL_law 467 = .ok (.aload_n 1, 1) := by decide +kernel
theorem dL_law_468 : decode cL_law 468 = .ok (.iconst 1, 1) := by decide +kernel
theorem dL_law_469 : decode cL_law 469 = .ok (.iconst 0, 1) := by decide +kernel
theorem dL_law_470 : decode cL_law 470 = .ok (.iconst 0, 1) := by decide +kernel
theorem dL_law_471 : decode cL_law 471 = .ok (.iconst 0, 1) := by decide +kernel
theorem dL_law_472 : decode cL_law 472 = .ok (.invokestatic 122, 3) := by decide +kernel
theorem dL_law_475 : decode cL_law 475 = .ok (.aload 12, 2) := by decide +kernel
theorem dL_law_477 : decode cL_law 477 = .ok (.iconst 1, 1) := by decide +kernel
theorem dL_law_478 : decode cL_law 478 = .ok (.iaload, 1) := by decide +kernel
theorem dL_law_479 : decode cL_law 479 = .ok (.iconst 1, 1) := by decide +kernel
theorem dL_law_480 : decode cL_law 480 = .ok (.isub, 1) := by decide +kernel
theorem dL_law_481 : decode cL_law 481 = .ok (.i2l, 1) := by decide +kernel
theorem dL_law_482 : decode cL_law 482 = .ok (.lcmp, 1) := by decide +kernel
theorem dL_law_483 : decode cL_law 483 = .ok (.ifCond .ne 7, 3) := by decide +kernel
theorem dL_law_486 : decode cL_law 486 = .ok (.iconst 1, 1) := by decide +kernel
theorem dL_law_487 : decode cL_law 487 = .ok (.goto 4, 3) := by decide +kernel
theorem dL_law_490 : decode cL_law 490 = .ok (.iconst 0, 1) := by decide +kernel
theorem dL_law_491 : decode cL_law 491 = .ok (.istore 13, 2) := by decide +kernel
theorem dL_law_493 : decode cL_law 493 = .ok (.goto 1653, 3) := by decide +kernel
theorem dL_law_496 : decode cL_law 496 = .ok (.iload 15, 2) := by decide +kernel
theorem dL_law_498 : decode cL_law 498 = .ok (.iconst 5, 1) := by decide +kernel
theorem dL_law_499 : decode cL_law 499 = .ok (.if_icmp .ge 146, 3) := by decide +kernel
theorem dL_law_502 : decode cL_law 502 = .ok (.iload 17, 2) := by decide +kernel
theorem dL_law_504 : decode cL_law 504 = .ok (.iconst 3, 1) := by decide +kernel
theorem dL_law_505 : decode cL_law 505 = .ok (.irem, 1) := by decide +kernel
theorem dL_law_506 : decode cL_law 506 = .ok (.ifCond .ne 15, 3) := by decide +kernel
theorem dL_law_509 : decode cL_law 509 = .ok (.iload 17, 2) := by decide +kernel
theorem dL_law_511 : decode cL_law 511 = .ok (.sipush 333, 3) := by decide +kernel
theorem dL_law_514 : decode cL_law 514 = .ok (.imul, 1) := by decide +kernel
theorem dL_law_515 : decode cL_law 515 = .ok (.ldc 132, 2) := by decide +kernel
theorem dL_law_517 : decode cL_law 517 = .ok (.isub, 1) := by decide +kernel
theorem dL_law_518 : decode cL_law 518 = .ok (.goto 8, 3) := by decide +kernel
theorem dL_law_521 : decode cL_law 521 = .ok (.iload 17, 2) := by decide +kernel
theorem dL_law_523 : decode cL_law 523 = .ok (.bipush 15, 2) := by decide +kernel
theorem dL_law_525 : decode cL_law 525 = .ok (.imul, 1) := by decide +kernel
theorem dL_law_526 : decode cL_law 526 = .ok (.istore 23, 2) := by decide +kernel
theorem dL_law_528 : decode cL_law 528 = .ok (.iload 20, 2) := by decide +kernel
theorem dL_law_530 : decode cL_law 530 = .ok (.ifCond .eq 28, 3) := by decide +kernel
theorem dL_law_533 : decode cL_law 533 = .ok (.iload 23, 2) := by decide +kernel
theorem dL_law_535 : decode cL_law 535 = .ok (.ifCond .ge 19, 3) := by decide +kernel
theorem dL_law_538 : decode cL_law 538 = .ok (.aload_n 3, 1) := by decide +kernel
theorem dL_law_539 : decode cL_law 539 = .ok (.bipush 12, 2) := by decide +kernel
theorem dL_law_541 : decode cL_law 541 = .ok (.iload 18, 2) := by decide +kernel
theorem dL_law_543 : decode cL_law 543 = .ok (.iadd, 1) := by decide +kernel
theorem dL_law_544 : decode cL_law 544 = .ok (.laload, 1) := by decide +kernel
theorem dL_law_545 : decode cL_law 545 = .ok (.iload 23, 2) := by decide +kernel
theorem dL_law_547 : decode cL_law 547 = .ok (.i2l, 1) := by decide +kernel
theorem dL_law_548 : decode cL_law 548 = .ok (.ladd, 1) := by decide +kernel
theorem dL_law_549 : decode cL_law 549 = .ok (.lconst 0, 1) := by decide +kernel
theorem dL_law_550 : decode cL_law 550 = .ok (.lcmp, 1) := by decide +kernel
theorem dL_law_551 : decode cL_law 551 = .ok (.ifCond .lt 7, 3) := by decide +kernel
theorem dL_law_554 : decode cL_law 554 = .ok (.iconst 1, 1) := by decide +kernel
theorem dL_law_555 : decode cL_law 555 = .ok (.goto 4, 3) := by decide +kernel
theorem dL_law_558 : decode cL_law 558 = .ok (.iconst 0, 1) := by decide +kernel
theorem dL_law_559 : decode cL_law 559 = .ok (.istore 24, 2) := by decide +kernel
theorem dL_law_561 : decode cL_law 561 = .ok (.aload_n 3, 1) := by decide +kernel
theorem dL_law_562 : decode cL_law 562 = .ok (.bipush 12, 2) := by decide +kernel
theorem dL_law_564 : decode cL_law 564 = .ok (.iload 24, 2) := by decide +kernel
theorem dL_law_566 : decode cL_law 566 = .ok (.ifCond .eq 8, 3) := by decide +kernel
theorem dL_law_569 : decode cL_law 569 = .ok (.iload 18, 2) := by decide +kernel
theorem dL_law_571 : decode cL_law 571 = .ok (.goto 4, 3) := by decide +kernel
theorem dL_law_574 : decode cL_law 574 = .ok (.iconst 0, 1) := by decide +kernel
theorem dL_law_575 : decode cL_law 575 = .ok (.iadd, 1) := by decide +kernel
theorem dL_law_576 : decode cL_law 576 = .ok (.dup2, 1) := by decide +kernel
theorem dL_law_577 : decode cL_law 577 = .ok (.laload, 1) := by decide +kernel
theorem dL_law_578 : decode cL_law 578 = .ok (.iload 24, 2) := by decide +kernel
theorem dL_law_580 : decode cL_law 580 = .ok (.ifCond .eq 9, 3) := by decide +kernel
theorem dL_law_583 : decode cL_law 583 = .ok (.iload 23, 2) := by decide +kernel
theorem dL_law_585 : decode cL_law 585 = .ok (.i2l, 1) := by decide +kernel
theorem dL_law_586 : decode cL_law 586 = .ok (.goto 4, 3) := by decide +kernel
theorem dL_law_589 : decode cL_law 589 = .ok (.lconst 0, 1) := by decide +kernel
theorem dL_law_590 : decode cL_law 590 = .ok (.ladd, 1) := by decide +kernel
theorem dL_law_591 : decode cL_law 591 = .ok (.lastore, 1) := by decide +kernel
theorem dL_law_592 : decode cL_law 592 = .ok (.aload_n 1, 1) := by decide +kernel
theorem dL_law_593 : decode cL_law 593 = .ok (.iconst 2, 1) := by decide +kernel
theorem dL_law_594 : decode cL_law 594 = .ok (.iload 18, 2) := by decide +kernel
theorem dL_law_596 : decode cL_law 596 = .ok (.iload 23, 2) := by decide +kernel
theorem dL_law_598 : decode cL_law 598 = .ok (.iconst 0, 1) := by decide +kernel
theorem dL_law_599 : decode cL_law 599 = .ok (.invokestatic 122, 3) := by decide +kernel
theorem dL_law_602 : decode cL_law 602 = .ok (.iload 20, 2) := by decide +kernel
theorem dL_law_604 : decode cL_law 604 = .ok (.ifCond .ne 9, 3) := by decide +kernel
theorem dL_law_607 : decode cL_law 607 = .ok (.ldc2_w 59, 3) := by decide +kernel
theorem dL_law_610 : decode cL_law 610 = .ok (.goto 21, 3) := by decide +kernel
theorem dL_law_613 : decode cL_law 613 = .ok (.iload 24, 2) := by decide +kernel
theorem dL_law_615 : decode cL_law 615 = .ok (.ifCond .eq 13, 3) := by decide +kernel
theorem dL_law_618 : decode cL_law 618 = .ok (.aload_n 3, 1) := by decide +kernel
theorem dL_law_619 : decode cL_law 619 = .ok (.bipush 12, 2) := by decide +kernel
theorem dL_law_621 : decode cL_law 621 = .ok (.iload 18, 2) := by decide +kernel
theorem dL_law_623 : decode cL_law 623 = .ok (.iadd, 1) := by decide +kernel
theorem dL_law_624 : decode cL_law 624 = .ok (.laload, 1) := by decide +kernel
theorem dL_law_625 : decode cL_law 625 = .ok (.goto 6, 3) := by decide +kernel
theorem dL_law_628 : decode cL_law 628 = .ok (.ldc2_w 67, 3) := by decide +kernel
theorem dL_law_631 : decode cL_law 631 = .ok (.lcmp, 1) := by decide +kernel
theorem dL_law_632 : decode cL_law 632 = .ok (.ifCond .ne 7, 3) := by decide +kernel
theorem dL_law_635 : decode cL_law 635 = .ok (.iconst 1, 1) := by decide +kernel
theorem dL_law_636 : decode cL_law 636 = .ok (.goto 4, 3) := by decide +kernel
theorem dL_law_639 : decode cL_law 639 = .ok (.iconst 0, 1) := by decide +kernel
theorem dL_law_640 : decode cL_law 640 = .ok (.istore 13, 2) := by decide +kernel
theorem dL_law_642 : decode cL_law 642 = .ok (.goto 1504, 3) := by decide +kernel
theorem dL_law_645 : decode cL_law 645 = .ok (.iload 15, 2) := by decide +kernel
theorem dL_law_647 : decode cL_law 647 = .ok (.bipush 8, 2) := by decide +kernel
theorem dL_law_649 : decode cL_law 649 = .ok (.if_icmp .ge 209, 3) := by decide +kernel
theorem dL_law_652 : decode cL_law 652 = .ok (.iload 17, 2) := by decide +kernel
theorem dL_law_654 : decode cL_law 654 = .ok (.bipush 7, 2) := by decide +kernel
theorem dL_law_656 : decode cL_law 656 = .ok (.idiv, 1) := by decide +kernel
theorem dL_law_657 : decode cL_law 657 = .ok (.iconst 3, 1) := by decide +kernel
theorem dL_law_658 : decode cL_law 658 = .ok (.irem, 1) := by decide +kernel
theorem dL_law_659 : decode cL_law 659 = .ok (.ifCond .ne 14, 3) := by decide +kernel
theorem dL_law_662 : decode cL_law 662 = .ok (.iload 17, 2) := by decide +kernel
theorem dL_law_664 : decode cL_law 664 = .ok (.bipush 7, 2) := by decide +kernel
theorem dL_law_666 : decode cL_law 666 = .ok (.idiv, 1) := by decide +kernel
theorem dL_law_667 : decode cL_law 667 = .ok (.bipush 102, 2) := by decide +kernel
theorem dL_law_669 : decode cL_law 669 = .ok (.irem, 1) := by decide +kernel
theorem dL_law_670 : decode cL_law 670 = .ok (.goto 11, 3) := by decide +kernel
theorem dL_law_673 : decode cL_law 673 = .ok (.iload 17, 2) := by decide +kernel
theorem dL_law_675 : decode cL_law 675 = .ok (.bipush 7, 2) := by decide +kernel
theorem dL_law_677 : decode cL_law 677 = .ok (.idiv, 1) := by decide +kernel
theorem dL_law_678 : decode cL_law 678 = .ok (.bipush 40, 2) := by decide +kernel
theorem dL_law_680 : decode cL_law 680 = .ok (.irem, 1) := by decide +kernel
theorem dL_law_681 : decode cL_law 681 = .ok (.istore 23, 2) := by decide +kernel
theorem dL_law_683 : decode cL_law 683 = .ok (.iload 23, 2) := by decide +kernel
theorem dL_law_685 : decode cL_law 685 = .ok (.istore 24, 2) := by decide +kernel
theorem dL_law_687 : decode cL_law 687 = .ok (.iconst 0, 1) := by decide +kernel
theorem dL_law_688 : decode cL_law 688 = .ok (.istore 25, 2) := by decide +kernel
theorem dL_law_690 : decode cL_law 690 = .ok (.iload 25, 2) := by decide +kernel
theorem dL_law_692 : decode cL_law 692 = .ok (.bipush 6, 2) := by decide +kernel
theorem dL_law_694 : decode cL_law 694 = .ok (.if_icmp .ge 41, 3) := by decide +kernel
theorem dL_law_697 : decode cL_law 697 = .ok (.iload 21, 2) := by decide +kernel
theorem dL_law_699 : decode cL_law 699 = .ok (.ifCond .eq 36, 3) := by decide +kernel
theorem dL_law_702 : decode cL_law 702 = .ok (.iload 24, 2) := by decide +kernel
theorem dL_law_704 : decode cL_law 704 = .ok (.iload 25, 2) := by decide +kernel
theorem dL_law_706 : decode cL_law 706 = .ok (.iload 19, 2) := by decide +kernel
theorem dL_law_708 : decode cL_law 708 = .ok (.if_icmp .ne 7, 3) := by decide +kernel
theorem dL_law_711 : decode cL_law 711 = .ok (.iconst 0, 1) := by decide +kernel
theorem dL_law_712 : decode cL_law 712 = .ok (.goto 14, 3) := by decide +kernel
theorem dL_law_715 : decode cL_law 715 = .ok (.aload 5, 2) := by decide +kernel
theorem dL_law_717 : decode cL_law 717 = .ok (.bipush 6, 2) := by decide +kernel
theorem dL_law_719 : decode cL_law 719 = .ok (.iload 18, 2) := by decide +kernel
theorem dL_law_721 : decode cL_law 721 = .ok (.imul, 1) := by decide +kernel
theorem dL_law_722 : decode cL_law 722 = .ok (.iload 25, 2) := by decide +kernel
theorem dL_law_724 : decode cL_law 724 = .ok (.iadd, 1) := by decide +kernel
theorem dL_law_725 : decode cL_law 725 = .ok (.iaload, 1) := by decide +kernel
theorem dL_law_726 : decode cL_law 726 = .ok (.iadd, 1) := by decide +kernel
theorem dL_law_727 : decode cL_law 727 = .ok (.istore 24, 2) := by decide +kernel
theorem dL_law_729 : decode cL_law 729 = .ok (.iinc 25 1, 3) := by decide +kernel
theorem dL_law_732 : decode cL_law 732 = .ok (.goto (-42), 3) := by decide +kernel
theorem dL_law_735 : decode cL_law 735 = .ok (.iload 21, 2) := by decide +kernel
theorem dL_law_737 : decode cL_law 737 = .ok (.ifCond .eq 21, 3) := by decide +kernel
theorem dL_law_740 : decode cL_law 740 = .ok (.iload 23, 2) := by decide +kernel
theorem dL_law_742 : decode cL_law 742 = .ok (.bipush 101, 2) := by decide +kernel
theorem dL_law_744 : decode cL_law 744 = .ok (.if_icmp .ge 14, 3) := by decide +kernel
theorem dL_law_747 : decode cL_law 747 = .ok (.iload 24, 2) := by decide +kernel
theorem dL_law_749 : decode cL_law 749 = .ok (.bipush 101, 2) := by decide +kernel
theorem dL_law_751 : decode cL_law 751 = .ok (.if_icmp .ge 7, 3) := by decide +kernel
theorem dL_law_754 : decode cL_law 754 = .ok (.iconst 1, 1) := by decide +kernel
theorem dL_law_755 : decode cL_law 755 = .ok (.goto 4, 3) := by decide +kernel
theorem dL_law_758 : decode cL_law 758 = .ok (.iconst 0, 1) := by decide +kernel
theorem dL_law_759 : decode cL_law 759 = .ok (.istore 25, 2) := by decide +kernel
theorem dL_law_761 : decode cL_law 761 = .ok (.aload 5, 2) := by decide +kernel
theorem dL_law_763 : decode cL_law 763 = .ok (.iload 25, 2) := by decide +kernel
theorem dL_law_765 : decode cL_law 765 = .ok (.ifCond .eq 14, 3) := by decide +kernel
theorem dL_law_768 : decode cL_law 768 = .ok (.bipush 6, 2) := by decide +kernel
theorem dL_law_770 : decode cL_law 770 = .ok (.iload 18, 2) := by decide +kernel
theorem dL_law_772 : decode cL_law 772 = .ok (.imul, 1) := by decide +kernel
theorem dL_law_773 : decode cL_law 773 = .ok (.iload 19, 2) := by decide +kernel
theorem dL_law_775 : decode cL_law 775 = .ok (.iadd, 1) := by decide +kernel
theorem dL_law_776 : decode cL_law 776 = .ok (.goto 4, 3) := by decide +kernel
theorem dL_law_779 : decode cL_law 779 = .ok (.iconst 0, 1) := by decide +kernel
theorem dL_law_780 : decode cL_law 780 = .ok (.iload 25, 2) := by decide +kernel
theorem dL_law_782 : decode cL_law 782 = .ok (.ifCond .eq 8, 3) := by decide +kernel
theorem dL_law_785 : decode cL_law 785 = .ok (.iload 23, 2) := by decide +kernel
theorem dL_law_787 : decode cL_law 787 = .ok (.goto 7, 3) := by decide +kernel
theorem dL_law_790 : decode cL_law 790 = .ok (.aload 5, 2) := by decide +kernel
theorem dL_law_792 : decode cL_law 792 = .ok (.iconst 0, 1) := by decide +kernel
theorem dL_law_793 : decode cL_law 793 = .ok (.iaload, 1) := by decide +kernel
theorem dL_law_794 : decode cL_law 794 = .ok (.iastore, 1) := by decide +kernel
theorem dL_law_795 : decode cL_law 795 = .ok (.aload_n 1, 1) := by decide +kernel
theorem dL_law_796 : decode cL_law 796 = .ok (.iconst 3, 1) := by decide +kernel
theorem dL_law_797 : decode cL_law 797 = .ok (.iload 18, 2) := by decide +kernel
theorem dL_law_799 : decode cL_law 799 = .ok (.iload 19, 2) := by decide +kernel
theorem dL_law_801 : decode cL_law 801 = .ok (.iload 23, 2) := by decide +kernel
theorem dL_law_803 : decode cL_law 803 = .ok (.invokestatic 122, 3) := by decide +kernel
theorem dL_law_806 : decode cL_law 806 = .ok (.iload 21, 2) := by decide +kernel
theorem dL_law_808 : decode cL_law 808 = .ok (.ifCond .ne 9, 3) := by decide +kernel
theorem dL_law_811 : decode cL_law 811 = .ok (.ldc2_w 59, 3) := by decide +kernel
theorem dL_law_814 : decode cL_law 814 = .ok (.goto 30, 3) := by decide +kernel
theorem dL_law_817 : decode cL_law 817 = .ok (.iload 23, 2) := by decide +kernel
theorem dL_law_819 : decode cL_law 819 = .ok (.bipush 100, 2) := by decide +kernel
theorem dL_law_821 : decode cL_law 821 = .ok (.if_icmp .le 9, 3) := by decide +kernel
theorem dL_law_824 : decode cL_law 824 = .ok (.ldc2_w 63, 3) := by decide +kernel
theorem dL_law_827 : decode cL_law 827 = .ok (.goto 17, 3) := by decide +kernel
theorem dL_law_830 : decode cL_law 830 = .ok (.iload 25, 2) := by decide +kernel
theorem dL_law_832 : decode cL_law 832 = .ok (.ifCond .eq 9, 3) := by decide +kernel
theorem dL_law_835 : decode cL_law 835 = .ok (.iload 24, 2) := by decide +kernel
theorem dL_law_837 : decode cL_law 837 = .ok (.i2l, 1) := by decide +kernel
theorem dL_law_838 : decode cL_law 838 = .ok (.goto 6, 3) := by decide +kernel
theorem dL_law_841 : decode cL_law 841 = .ok (.ldc2_w 67, 3) := by decide +kernel
theorem dL_law_844 : decode cL_law 844 = .ok (.lcmp, 1) := by decide +kernel
theorem dL_law_845 : decode cL_law 845 = .ok (.ifCond .ne 7, 3) := by decide +kernel
theorem dL_law_848 : decode cL_law 848 = .ok (.iconst 1, 1) := by decide +kernel
theorem dL_law_849 : decode cL_law 849 = .ok (.goto 4, 3) := by decide +kernel
theorem dL_law_852 : decode cL_law 852 = .ok (.iconst 0, 1) := by decide +kernel
theorem dL_law_853 : decode cL_law 853 = .ok (.istore 13, 2) := by decide +kernel
theorem dL_law_855 : decode cL_law 855 = .ok (.goto 1291, 3) := by decide +kernel
theorem dL_law_858 : decode cL_law 858 = .ok (.iload 15, 2) := by decide +kernel
theorem dL_law_860 : decode cL_law 860 = .ok (.bipush 14, 2) := by decide +kernel
theorem dL_law_862 : decode cL_law 862 = .ok (.if_icmp .ge 205, 3) := by decide +kernel
theorem dL_law_865 : decode cL_law 865 = .ok (.aload 12, 2) := by decide +kernel
theorem dL_law_867 : decode cL_law 867 = .ok (.iconst 2, 1) := by decide +kernel
theorem dL_law_868 : decode cL_law 868 = .ok (.iaload, 1) := by decide +kernel
theorem dL_law_869 : decode cL_law 869 = .ok (.bipush 18, 2) := by decide +kernel
theorem dL_law_871 : decode cL_law 871 = .ok (.if_icmp .ge 196, 3) := by decide +kernel
theorem dL_law_874 : decode cL_law 874 = .ok (.iload 17, 2) := by decide +kernel
theorem dL_law_876 : decode cL_law 876 = .ok (.bipush 7, 2) := by decide +kernel
theorem dL_law_878 : decode cL_law 878 = .ok (.idiv, 1) := by decide +kernel
theorem dL_law_879 : decode cL_law 879 = .ok (.iconst 3, 1) := by decide +kernel
theorem dL_law_880 : decode cL_law 880 = .ok (.irem, 1) := by decide +kernel
theorem dL_law_881 : decode cL_law 881 = .ok (.ifCond .ne 13, 3) := by decide +kernel
theorem dL_law_884 : decode cL_law 884 = .ok (.iconst 1, 1) := by decide +kernel
theorem dL_law_885 : decode cL_law 885 = .ok (.iload 17, 2) := by decide +kernel
theorem dL_law_887 : decode cL_law 887 = .ok (.bipush 100, 2) := by decide +kernel
theorem dL_law_889 : decode cL_law 889 = .ok (.imul, 1) := by decide +kernel
theorem dL_law_890 : decode cL_law 890 = .ok (.iadd, 1) := by decide +kernel
theorem dL_law_891 : decode cL_law 891 = .ok (.goto 29, 3) := by decide +kernel
theorem dL_law_894 : decode cL_law 894 = .ok (.iload 17, 2) := by decide +kernel
theorem dL_law_896 : decode cL_law 896 = .ok (.bipush 7, 2) := by decide +kernel
theorem dL_law_898 : decode cL_law 898 = .ok (.idiv, 1) := by decide +kernel
theorem dL_law_899 : decode cL_law 899 = .ok (.iconst 3, 1) := by decide +kernel
theorem dL_law_900 : decode cL_law 900 = .ok (.irem, 1) := by decide +kernel
theorem dL_law_901 : decode cL_law 901 = .ok (.iconst 1, 1) := by decide +kernel
theorem dL_law_902 : decode cL_law 902 = .ok (.if_icmp .ne 10, 3) := by decide +kernel
theorem dL_law_905 : decode cL_law 905 = .ok (.iconst 1, 1) := by decide +kernel
theorem dL_law_906 : decode cL_law 906 = .ok (.iload 17, 2) := by decide +kernel
theorem dL_law_908 : decode cL_law 908 = .ok (.iadd, 1) := by decide +kernel
theorem dL_law_909 : decode cL_law 909 = .ok (.goto 11, 3) := by decide +kernel
theorem dL_law_912 : decode cL_law 912 = .ok (.iconst 1, 1) := by decide +kernel
theorem dL_law_913 : decode cL_law 913 = .ok (.iload 17, 2) := by decide +kernel
theorem dL_law_915 : decode cL_law 915 = .ok (.sipush 12000, 3) := by decide +kernel
theorem dL_law_918 : decode cL_law 918 = .ok (.irem, 1) := by decide +kernel
theorem dL_law_919 : decode cL_law 919 = .ok (.iadd, 1) := by decide +kernel
theorem dL_law_920 : decode cL_law 920 = .ok (.istore 23, 2) := by decide +kernel
theorem dL_law_922 : decode cL_law 922 = .ok (.iload 21, 2) := by decide +kernel
theorem dL_law_924 : decode cL_law 924 = .ok (.ifCond .eq 46, 3) := by decide +kernel
theorem dL_law_927 : decode cL_law 927 = .ok (.iload 23, 2) := by decide +kernel
theorem dL_law_929 : decode cL_law 929 = .ok (.i2l, 1) := by decide +kernel
theorem dL_law_930 : decode cL_law 930 = .ok (.ldc2_w 81, 3) := by decide +kernel
theorem dL_law_933 : decode cL_law 933 = .ok (.lmul, 1) := by decide +kernel
theorem dL_law_934 : decode cL_law 934 = .ok (.aload_n 2, 1) := by decide +kernel
theorem dL_law_935 : decode cL_law 935 = .ok (.iload 22, 2) := by decide +kernel
theorem dL_law_937 : decode cL_law 937 = .ok (.iaload, 1) := by decide +kernel
theorem dL_law_938 : decode cL_law 938 = .ok (.i2l, 1) := by decide +kernel
theorem dL_law_939 : decode cL_law 939 = .ok (.ldiv, 1) := by decide +kernel
theorem dL_law_940 : decode cL_law 940 = .ok (.lconst 0, 1) := by decide +kernel
theorem dL_law_941 : decode cL_law 941 = .ok (.lcmp, 1) := by decide +kernel
theorem dL_law_942 : decode cL_law 942 = .ok (.ifCond .le 28, 3) := by decide +kernel
theorem dL_law_945 : decode cL_law 945 = .ok (.iload 23, 2) := by decide +kernel
theorem dL_law_947 : decode cL_law 947 = .ok (.i2l, 1) := by decide +kernel
theorem dL_law_948 : decode cL_law 948 = .ok (.iload 23, 2) := by decide +kernel
theorem dL_law_950 : decode cL_law 950 = .ok (.i2l, 1) := by decide +kernel
theorem dL_law_951 : decode cL_law 951 = .ok (.invokestatic 83, 3) := by decide +kernel
theorem dL_law_954 : decode cL_law 954 = .ok (.ladd, 1) := by decide +kernel
theorem dL_law_955 : decode cL_law 955 = .ok (.aload_n 3, 1) := by decide +kernel
theorem dL_law_956 : decode cL_law 956 = .ok (.bipush 12, 2) := by decide +kernel
theorem dL_law_958 : decode cL_law 958 = .ok (.iload 18, 2) := by decide +kernel
theorem dL_law_960 : decode cL_law 960 = .ok (.iadd, 1) := by decide +kernel
theorem dL_law_961 : decode cL_law 961 = .ok (.laload, 1) := by decide +kernel
theorem dL_law_962 : decode cL_law 962 = .ok (.lcmp, 1) := by decide +kernel
theorem dL_law_963 : decode cL_law 963 = .ok (.ifCond .gt 7, 3) := by decide +kernel
theorem dL_law_966 : decode cL_law 966 = .ok (.iconst 1, 1) := by decide +kernel
theorem dL_law_967 : decode cL_law 967 = .ok (.goto 4, 3) := by decide +kernel
theorem dL_law_970 : decode cL_law 970 = .ok (.iconst 0, 1) := by decide +kernel
theorem dL_law_971 : decode cL_law 971 = .ok (.istore 24, 2) := by decide +kernel
theorem dL_law_973 : decode cL_law 973 = .ok (.iload 24, 2) := by decide +kernel
theorem dL_law_975 : decode cL_law 975 = .ok (.ifCond .eq 38, 3) := by decide +kernel
theorem dL_law_978 : decode cL_law 978 = .ok (.aload_n 2, 1) := by decide +kernel
theorem dL_law_979 : decode cL_law 979 = .ok (.aload_n 3, 1) := by decide +kernel
theorem dL_law_980 : decode cL_law 980 = .ok (.aload 4, 2) := by decide +kernel
theorem dL_law_982 : decode cL_law 982 = .ok (.aload 6, 2) := by decide +kernel
theorem dL_law_984 : decode cL_law 984 = .ok (.aload 7, 2) := by decide +kernel
theorem dL_law_986 : decode cL_law 986 = .ok (.aload 8, 2) := by decide +kernel
theorem dL_law_988 : decode cL_law 988 = .ok (.aload 12, 2) := by decide +kernel
theorem dL_law_990 : decode cL_law 990 = .ok (.iload 18, 2) := by decide +kernel
theorem dL_law_992 : decode cL_law 992 = .ok (.iload 19, 2) := by decide +kernel
theorem dL_law_994 : decode cL_law 994 = .ok (.iload 23, 2) := by decide +kernel
theorem dL_law_996 : decode cL_law 996 = .ok (.i2l, 1) := by decide +kernel
theorem dL_law_997 : decode cL_law 997 = .ok (.ldc2_w 81, 3) := by decide +kernel
theorem dL_law_1000 : decode cL_law 1000 = .ok (.lmul, 1) := by decide +kernel
theorem dL_law_1001 : decode cL_law 1001 = .ok (.aload_n 2, 1) := by decide +kernel
theorem dL_law_1002 : decode cL_law 1002 = .ok (.iload 22, 2) := by decide +kernel
theorem dL_law_1004 : decode cL_law 1004 = .ok (.iaload, 1) := by decide +kernel
theorem dL_law_1005 : decode cL_law 1005 = .ok (.i2l, 1) := by decide +kernel
theorem dL_law_1006 : decode cL_law 1006 = .ok (.ldiv, 1) := by decide +kernel
theorem dL_law_1007 : decode cL_law 1007 = .ok (.iload 23, 2) := by decide +kernel
theorem dL_law_1009 : decode cL_law 1009 = .ok (.i2l, 1) := by decide +kernel
theorem dL_law_1010 : decode cL_law 1010 = .ok (.invokestatic 102, 3) := by decide +kernel
theorem dL_law_1013 : decode cL_law 1013 = .ok (.aload_n 1, 1) := by decide +kernel
theorem dL_law_1014 : decode cL_law 1014 = .ok (.iconst 4, 1) := by decide +kernel
theorem dL_law_1015 : decode cL_law 1015 = .ok (.iload 18, 2) := by decide +kernel
theorem dL_law_1017 : decode cL_law 1017 = .ok (.iload 19, 2) := by decide +kernel
theorem dL_law_1019 : decode cL_law 1019 = .ok (.iload 23, 2) := by decide +kernel
theorem dL_law_1021 : decode cL_law 1021 = .ok (.invokestatic 122, 3) := by decide +kernel
theorem dL_law_1024 : decode cL_law 1024 = .ok (.iload 21, 2) := by decide +kernel
theorem dL_law_1026 : decode cL_law 1026 = .ok (.ifCond .ne 9, 3) := by decide +kernel
theorem dL_law_1029 : decode cL_law 1029 = .ok (.ldc2_w 59, 3) := by decide +kernel
theorem dL_law_1032 : decode cL_law 1032 = .ok (.goto 21, 3) := by decide +kernel
theorem dL_law_1035 : decode cL_law 1035 = .ok (.iload 24, 2) := by decide +kernel
theorem dL_law_1037 : decode cL_law 1037 = .ok (.ifCond .eq 13, 3) := by decide +kernel
theorem dL_law_1040 : decode cL_law 1040 = .ok (.aload 12, 2) := by decide +kernel
theorem dL_law_1042 : decode cL_law 1042 = .ok (.iconst 2, 1) := by decide +kernel
theorem dL_law_1043 : decode cL_law 1043 = .ok (.iaload, 1) := by decide +kernel
theorem dL_law_1044 : decode cL_law 1044 = .ok (.iconst 1, 1) := by decide +kernel
theorem dL_law_1045 : decode cL_law 1045 = .ok (.isub, 1) := by decide +kernel
theorem dL_law_1046 : decode cL_law 1046 = .ok (.i2l, 1) := by decide +kernel
theorem dL_law_1047 : decode cL_law 1047 = .ok (.goto 6, 3) := by decide +kernel
theorem dL_law_1050 : decode cL_law 1050 = .ok (.ldc2_w 67, 3) := by decide +kernel
theorem dL_law_1053 : decode cL_law 1053 = .ok (.lcmp, 1) := by decide +kernel
theorem dL_law_1054 : decode cL_law 1054 = .ok (.ifCond .ne 7, 3) := by decide +kernel
theorem dL_law_1057 : decode cL_law 1057 = .ok (.iconst 1, 1) := by decide +kernel
theorem dL_law_1058 : decode cL_law 1058 = .ok (.goto 4, 3) := by decide +kernel
theorem dL_law_1061 : decode cL_law 1061 = .ok (.iconst 0, 1) := by decide +kernel
theorem dL_law_1062 : decode cL_law 1062 = .ok (.istore 13, 2) := by decide +kernel
theorem dL_law_1064 : decode cL_law 1064 = .ok (.goto 1082, 3) := by decide +kernel
theorem dL_law_1067 : decode cL_law 1067 = .ok (.iload 15, 2) := by decide +kernel
theorem dL_law_1069 : decode cL_law 1069 = .ok (.bipush 20, 2) := by decide +kernel
theorem dL_law_1071 : decode cL_law 1071 = .ok (.if_icmp .ge 227, 3) := by decide +kernel
theorem dL_law_1074 : decode cL_law 1074 = .ok (.aload 12, 2) := by decide +kernel
theorem dL_law_1076 : decode cL_law 1076 = .ok (.iconst 2, 1) := by decide +kernel
theorem dL_law_1077 : decode cL_law 1077 = .ok (.iaload, 1) := by decide +kernel
theorem dL_law_1078 : decode cL_law 1078 = .ok (.bipush 18, 2) := by decide +kernel
theorem dL_law_1080 : decode cL_law 1080 = .ok (.if_icmp .ge 218, 3) := by decide +kernel
theorem dL_law_1083 : decode cL_law 1083 = .ok (.iload 21, 2) := by decide +kernel
theorem dL_law_1085 : decode cL_law 1085 = .ok (.ifCond .eq 17, 3) := by decide +kernel
theorem dL_law_1088 : decode cL_law 1088 = .ok (.aload 4, 2) := by decide +kernel
theorem dL_law_1090 : decode cL_law 1090 = .ok (.bipush 6, 2) := by decide +kernel
theorem dL_law_1092 : decode cL_law 1092 = .ok (.iload 18, 2) := by decide +kernel
theorem dL_law_1094 : decode cL_law 1094 = .ok (.imul, 1) := by decide +kernel
theorem dL_law_1095 : decode cL_law 1095 = .ok (.iload 19, 2) := by decide +kernel
theorem dL_law_1097 : decode cL_law 1097 = .ok (.iadd, 1) := by decide +kernel
theorem dL_law_1098 : decode cL_law 1098 = .ok (.laload, 1) := by decide +kernel
theorem dL_law_1099 : decode cL_law 1099 = .ok (.goto 4, 3) := by decide +kernel
theorem dL_law_1102 : decode cL_law 1102 = .ok (.lconst 0, 1) := by decide +kernel
theorem dL_law_1103 : decode cL_law 1103 = .ok (.lstore 23, 2) := by decide +kernel
theorem dL_law_1105 : decode cL_law 1105 = .ok (.iload 17, 2) := by decide +kernel
theorem dL_law_1107 : decode cL_law 1107 = .ok (.bipush 7, 2) := by decide +kernel
theorem dL_law_1109 : decode cL_law 1109 = .ok (.idiv, 1) := by decide +kernel
theorem dL_law_1110 : decode cL_law 1110 = .ok (.iconst 3, 1) := by decide +kernel
theorem dL_law_1111 : decode cL_law 1111 = .ok (.irem, 1) := by decide +kernel
theorem dL_law_1112 : decode cL_law 1112 = .ok (.ifCond .ne 10, 3) := by decide +kernel
theorem dL_law_1115 : decode cL_law 1115 = .ok (.iconst 1, 1) := by decide +kernel
theorem dL_law_1116 : decode cL_law 1116 = .ok (.iload 17, 2) := by decide +kernel
theorem dL_law_1118 : decode cL_law 1118 = .ok (.iadd, 1) := by decide +kernel
theorem dL_law_1119 : decode cL_law 1119 = .ok (.goto 41, 3) := by decide +kernel
theorem dL_law_1122 : decode cL_law 1122 = .ok (.lload 23, 2) := by decide +kernel
theorem dL_law_1124 : decode cL_law 1124 = .ok (.lconst 0, 1) := by decide +kernel
theorem dL_law_1125 : decode cL_law 1125 = .ok (.lcmp, 1) := by decide +kernel
theorem dL_law_1126 : decode cL_law 1126 = .ok (.ifCond .le 32, 3) := by decide +kernel
theorem dL_law_1129 : decode cL_law 1129 = .ok (.lload 23, 2) := by decide +kernel
theorem dL_law_1131 : decode cL_law 1131 = .ok (.ldc2_w 133, 3) := by decide +kernel
theorem dL_law_1134 : decode cL_law 1134 = .ok (.lcmp, 1) := by decide +kernel
theorem dL_law_1135 : decode cL_law 1135 = .ok (.ifCond .ge 23, 3) := by decide +kernel
theorem dL_law_1138 : decode cL_law 1138 = .ok (.iconst 1, 1) := by decide +kernel
theorem dL_law_1139 : decode cL_law 1139 = .ok (.iload 17, 2) := by decide +kernel
theorem dL_law_1141 : decode cL_law 1141 = .ok (.i2l, 1) := by decide +kernel
theorem dL_law_1142 : decode cL_law 1142 = .ok (.ldc2_w 135, 3) := by decide +kernel
theorem dL_law_1145 : decode cL_law 1145 = .ok (.lmul, 1) := by decide +kernel
theorem dL_law_1146 : decode cL_law 1146 = .ok (.iload 16, 2) := by decide +kernel
theorem dL_law_1148 : decode cL_law 1148 = .ok (.i2l, 1) := by decide +kernel
theorem dL_law_1149 : decode cL_law 1149 = .ok (.ladd, 1) := by decide +kernel
theorem dL_law_1150 : decode cL_law 1150 = .ok (.lload 23, 2) := by decide +kernel
theorem dL_law_1152 : decode cL_law 1152 = .ok (.lrem, 1) := by decide +kernel
theorem dL_law_1153 : decode cL_law 1153 = .ok (.l2i, 1) := by decide +kernel
theorem dL_law_1154 : decode cL_law 1154 = .ok (.iadd, 1) := by decide +kernel
theorem dL_law_1155 : decode cL_law 1155 = .ok (.goto 5, 3) := by decide +kernel
theorem dL_law_1158 : decode cL_law 1158 = .ok (.ldc 137, 2) := by decide +kernel
theorem dL_law_1160 : decode cL_law 1160 = .ok (.istore 25, 2) := by decide +kernel
theorem dL_law_1162 : decode cL_law 1162 = .ok (.iload 25, 2) := by decide +kernel
theorem dL_law_1164 : decode cL_law 1164 = .ok (.i2l, 1) := by decide +kernel
theorem dL_law_1165 : decode cL_law 1165 = .ok (.aload_n 2, 1) := by decide +kernel
theorem dL_law_1166 : decode cL_law 1166 = .ok (.iload 22, 2) := by decide +kernel
theorem dL_law_1168 : decode cL_law 1168 = .ok (.iaload, 1) := by decide +kernel
theorem dL_law_1169 : decode cL_law 1169 = .ok (.i2l, 1) := by decide +kernel
theorem dL_law_1170 : decode cL_law 1170 = .ok (.lmul, 1) := by decide +kernel
theorem dL_law_1171 : decode cL_law 1171 = .ok (.ldc2_w 81, 3) := by decide +kernel
theorem dL_law_1174 : decode cL_law 1174 = .ok (.ldiv, 1) := by decide +kernel
theorem dL_law_1175 : decode cL_law 1175 = .ok (.lstore 26, 2) := by decide +kernel
theorem dL_law_1177 : decode cL_law 1177 = .ok (.iload 21, 2) := by decide +kernel
theorem dL_law_1179 : decode cL_law 1179 = .ok (.ifCond .eq 32, 3) := by decide +kernel
theorem dL_law_1182 : decode cL_law 1182 = .ok (.lload 23, 2) := by decide +kernel
theorem dL_law_1184 : decode cL_law 1184 = .ok (.iload 25, 2) := by decide +kernel
theorem dL_law_1186 : decode cL_law 1186 = .ok (.i2l, 1) := by decide +kernel
theorem dL_law_1187 : decode cL_law 1187 = .ok (.lcmp, 1) := by decide +kernel
theorem dL_law_1188 : decode cL_law 1188 = .ok (.ifCond .lt 23, 3) := by decide +kernel
theorem dL_law_1191 : decode cL_law 1191 = .ok (.lload 26, 2) := by decide +kernel
theorem dL_law_1193 : decode cL_law 1193 = .ok (.lconst 0, 1) := by decide +kernel
theorem dL_law_1194 : decode cL_law 1194 = .ok (.lcmp, 1) := by decide +kernel
theorem dL_law_1195 : decode cL_law 1195 = .ok (.ifCond .le 16, 3) := by decide +kernel
theorem dL_law_1198 : decode cL_law 1198 = .ok (.lload 26, 2) := by decide +kernel
theorem dL_law_1200 : decode cL_law 1200 = .ok (.ldc2_w 133, 3) := by decide +kernel
theorem dL_law_1203 : decode cL_law 1203 = .ok (.lcmp, 1) := by decide +kernel
theorem dL_law_1204 : decode cL_law 1204 = .ok (.ifCond .gt 7, 3) := by decide +kernel
theorem dL_law_1207 : decode cL_law 1207 = .ok (.iconst 1, 1) := by decide +kernel
theorem dL_law_1208 : decode cL_law 1208 = .ok (.goto 4, 3) := by decide +kernel
theorem dL_law_1211 : decode cL_law 1211 = .ok (.iconst 0, 1) := by decide +kernel
theorem dL_law_1212 : decode cL_law 1212 = .ok (.istore 28, 2) := by decide +kernel
theorem dL_law_1214 : decode cL_law 1214 = .ok (.iload 28, 2) := by decide +kernel
theorem dL_law_1216 : decode cL_law 1216 = .ok (.ifCond .eq 28, 3) := by decide +kernel
theorem dL_law_1219 : decode cL_law 1219 = .ok (.aload_n 2, 1) := by decide +kernel
theorem dL_law_1220 : decode cL_law 1220 = .ok (.aload_n 3, 1) := by decide +kernel
theorem dL_law_1221 : decode cL_law 1221 = .ok (.aload 4, 2) := by decide +kernel
theorem dL_law_1223 : decode cL_law 1223 = .ok (.aload 6, 2) := by decide +kernel
theorem dL_law_1225 : decode cL_law 1225 = .ok (.aload 7, 2) := by decide +kernel
theorem dL_law_1227 : decode cL_law 1227 = .ok (.aload 8, 2) := by decide +kernel
theorem dL_law_1229 : decode cL_law 1229 = .ok (.aload 12, 2) := by decide +kernel
theorem dL_law_1231 : decode cL_law 1231 = .ok (.iload 18, 2) := by decide +kernel
theorem dL_law_1233 : decode cL_law 1233 = .ok (.iload 19, 2) := by decide +kernel
theorem dL_law_1235 : decode cL_law 1235 = .ok (.iload 25, 2) := by decide +kernel
theorem dL_law_1237 : decode cL_law 1237 = .ok (.ineg, 1) := by decide +kernel
theorem dL_law_1238 : decode cL_law 1238 = .ok (.i2l, 1) := by decide +kernel
theorem dL_law_1239 : decode cL_law 1239 = .ok (.lload 26, 2) := by decide +kernel
theorem dL_law_1241 : decode cL_law 1241 = .ok (.invokestatic 102, 3) := by decide +kernel
theorem dL_law_1244 : decode cL_law 1244 = .ok (.aload_n 1, 1) := by decide +kernel
theorem dL_law_1245 : decode cL_law 1245 = .ok (.iconst 5, 1) := by decide +kernel
theorem dL_law_1246 : decode cL_law 1246 = .ok (.iload 18, 2) := by decide +kernel
theorem dL_law_1248 : decode cL_law 1248 = .ok (.iload 19, 2) := by decide +kernel
theorem dL_law_1250 : decode cL_law 1250 = .ok (.iload 25, 2) := by decide +kernel
theorem dL_law_1252 : decode cL_law 1252 = .ok (.invokestatic 122, 3) := by decide +kernel
theorem dL_law_1255 : decode cL_law 1255 = .ok (.iload 21, 2) := by decide +kernel
theorem dL_law_1257 : decode cL_law 1257 = .ok (.ifCond .ne 9, 3) := by decide +kernel
theorem dL_law_1260 : decode cL_law 1260 = .ok (.ldc2_w 59, 3) := by decide +kernel
theorem dL_law_1263 : decode cL_law 1263 = .ok (.goto 21, 3) := by decide +kernel
theorem dL_law_1266 : decode cL_law 1266 = .ok (.iload 28, 2) := by decide +kernel
theorem dL_law_1268 : decode cL_law 1268 = .ok (.ifCond .eq 13, 3) := by decide +kernel
theorem dL_law_1271 : decode cL_law 1271 = .ok (.aload 12, 2) := by decide +kernel
theorem dL_law_1273 : decode cL_law 1273 = .ok (.iconst 2, 1) := by decide +kernel
theorem dL_law_1274 : decode cL_law 1274 = .ok (.iaload, 1) := by decide +kernel
theorem dL_law_1275 : decode cL_law 1275 = .ok (.iconst 1, 1) := by decide +kernel
theorem dL_law_1276 : decode cL_law 1276 = .ok (.isub, 1) := by decide +kernel
theorem dL_law_1277 : decode cL_law 1277 = .ok (.i2l, 1) := by decide +kernel
theorem dL_law_1278 : decode cL_law 1278 = .ok (.goto 6, 3) := by decide +kernel
theorem dL_law_1281 : decode cL_law 1281 = .ok (.ldc2_w 67, 3) := by decide +kernel
theorem dL_law_1284 : decode cL_law 1284 = .ok (.lcmp, 1) := by decide +kernel
theorem dL_law_1285 : decode cL_law 1285 = .ok (.ifCond .ne 7, 3) := by decide +kernel
theorem dL_law_1288 : decode cL_law 1288 = .ok (.iconst 1, 1) := by decide +kernel
theorem dL_law_1289 : decode cL_law 1289 = .ok (.goto 4, 3) := by decide +kernel
theorem dL_law_1292 : decode cL_law 1292 = .ok (.iconst 0, 1) := by decide +kernel
theorem dL_law_1293 : decode cL_law 1293 = .ok (.istore 13, 2) := by decide +kernel
theorem dL_law_1295 : decode cL_law 1295 = .ok (.goto 851, 3) := by decide +kernel
theorem dL_law_1298 : decode cL_law 1298 = .ok (.iload 15, 2) := by decide +kernel
theorem dL_law_1300 : decode cL_law 1300 = .ok (.bipush 23, 2) := by decide +kernel
theorem dL_law_1302 : decode cL_law 1302 = .ok (.if_icmp .ge 130, 3) := by decide +kernel
theorem dL_law_1305 : decode cL_law 1305 = .ok (.aload 12, 2) := by decide +kernel
theorem dL_law_1307 : decode cL_law 1307 = .ok (.iconst 2, 1) := by decide +kernel
theorem dL_law_1308 : decode cL_law 1308 = .ok (.iaload, 1) := by decide +kernel
theorem dL_law_1309 : decode cL_law 1309 = .ok (.bipush 18, 2) := by decide +kernel
theorem dL_law_1311 : decode cL_law 1311 = .ok (.if_icmp .ge 121, 3) := by decide +kernel
theorem dL_law_1314 : decode cL_law 1314 = .ok (.iload 20, 2) := by decide +kernel
theorem dL_law_1316 : decode cL_law 1316 = .ok (.ifCond .eq 15, 3) := by decide +kernel
theorem dL_law_1319 : decode cL_law 1319 = .ok (.aload_n 2, 1) := by decide +kernel
theorem dL_law_1320 : decode cL_law 1320 = .ok (.aload_n 3, 1) := by decide +kernel
theorem dL_law_1321 : decode cL_law 1321 = .ok (.aload 4, 2) := by decide +kernel
theorem dL_law_1323 : decode cL_law 1323 = .ok (.iload 18, 2) := by decide +kernel
theorem dL_law_1325 : decode cL_law 1325 = .ok (.invokestatic 98, 3) := by decide +kernel
theorem dL_law_1328 : decode cL_law 1328 = .ok (.goto 4, 3) := by decide +kernel
theorem dL_law_1331 : decode cL_law 1331 = .ok (.lconst 0, 1) := by decide +kernel
theorem dL_law_1332 : decode cL_law 1332 = .ok (.lstore 23, 2) := by decide +kernel
theorem dL_law_1334 : decode cL_law 1334 = .ok (.iload 20, 2) := by decide +kernel
theorem dL_law_1336 : decode cL_law 1336 = .ok (.ifCond .eq 23, 3) := by decide +kernel
theorem dL_law_1339 : decode cL_law 1339 = .ok (.lload 23, 2) := by decide +kernel
theorem dL_law_1341 : decode cL_law 1341 = .ok (.lconst 0, 1) := by decide +kernel
theorem dL_law_1342 : decode cL_law 1342 = .ok (.lcmp, 1) := by decide +kernel
theorem dL_law_1343 : decode cL_law 1343 = .ok (.ifCond .lt 16, 3) := by decide +kernel
theorem dL_law_1346 : decode cL_law 1346 = .ok (.lload 23, 2) := by decide +kernel
theorem dL_law_1348 : decode cL_law 1348 = .ok (.ldc2_w 138, 3) := by decide +kernel
theorem dL_law_1351 : decode cL_law 1351 = .ok (.lcmp, 1) := by decide +kernel
theorem dL_law_1352 : decode cL_law 1352 = .ok (.ifCond .gt 7, 3) := by decide +kernel
theorem dL_law_1355 : decode cL_law 1355 = .ok (.iconst 1, 1) := by decide +kernel
theorem dL_law_1356 : decode cL_law 1356 = .ok (.goto 4, 3) := by decide +kernel
theorem dL_law_1359 : decode cL_law 1359 = .ok (.iconst 0, 1) := by decide +kernel
theorem dL_law_1360 : decode cL_law 1360 = .ok (.istore 25, 2) := by decide +kernel
theorem dL_law_1362 : decode cL_law 1362 = .ok (.aload_n 1, 1) := by decide +kernel
theorem dL_law_1363 : decode cL_law 1363 = .ok (.bipush 6, 2) := by decide +kernel
theorem dL_law_1365 : decode cL_law 1365 = .ok (.iload 18, 2) := by decide +kernel
theorem dL_law_1367 : decode cL_law 1367 = .ok (.iconst 0, 1) := by decide +kernel
theorem dL_law_1368 : decode cL_law 1368 = .ok (.iconst 0, 1) := by decide +kernel
theorem dL_law_1369 : decode cL_law 1369 = .ok (.invokestatic 122, 3) := by decide +kernel
theorem dL_law_1372 : decode cL_law 1372 = .ok (.lstore 26, 2) := by decide +kernel
theorem dL_law_1374 : decode cL_law 1374 = .ok (.lload 26, 2) := by decide +kernel
theorem dL_law_1376 : decode cL_law 1376 = .ok (.iload 20, 2) := by decide +kernel
theorem dL_law_1378 : decode cL_law 1378 = .ok (.ifCond .ne 9, 3) := by decide +kernel
theorem dL_law_1381 : decode cL_law 1381 = .ok (.ldc2_w 59, 3) := by decide +kernel
theorem dL_law_1384 : decode cL_law 1384 = .ok (.goto 34, 3) := by decide +kernel
theorem dL_law_1387 : decode cL_law 1387 = .ok (.iload 25, 2) := by decide +kernel
theorem dL_law_1389 : decode cL_law 1389 = .ok (.ifCond .eq 26, 3) := by decide +kernel
theorem dL_law_1392 : decode cL_law 1392 = .ok (.aload_n 2, 1) := by decide +kernel
theorem dL_law_1393 : decode cL_law 1393 = .ok (.aload_n 3, 1) := by decide +kernel
theorem dL_law_1394 : decode cL_law 1394 = .ok (.aload 4, 2) := by decide +kernel
theorem dL_law_1396 : decode cL_law 1396 = .ok (.aload 5, 2) := by decide +kernel
theorem dL_law_1398 : decode cL_law 1398 = .ok (.aload 6, 2) := by decide +kernel
theorem dL_law_1400 : decode cL_law 1400 = .ok (.aload 7, 2) := by decide +kernel
theorem dL_law_1402 : decode cL_law 1402 = .ok (.aload 8, 2) := by decide +kernel
theorem dL_law_1404 : decode cL_law 1404 = .ok (.aload 12, 2) := by decide +kernel
theorem dL_law_1406 : decode cL_law 1406 = .ok (.iload 18, 2) := by decide +kernel
theorem dL_law_1408 : decode cL_law 1408 = .ok (.invokestatic 140, 3) := by decide +kernel
theorem dL_law_1411 : decode cL_law 1411 = .ok (.i2l, 1) := by decide +kernel
theorem dL_law_1412 : decode cL_law 1412 = .ok (.goto 6, 3) := by decide +kernel
theorem dL_law_1415 : decode cL_law 1415 = .ok (.ldc2_w 67, 3) := by decide +kernel
theorem dL_law_1418 : decode cL_law 1418 = .ok (.lcmp, 1) := by decide +kernel
theorem dL_law_1419 : decode cL_law 1419 = .ok (.ifCond .ne 7, 3) := by decide +kernel
theorem dL_law_1422 : decode cL_law 1422 = .ok (.iconst 1, 1) := by decide +kernel
theorem dL_law_1423 : decode cL_law 1423 = .ok (.goto 4, 3) := by decide +kernel
theorem dL_law_1426 : decode cL_law 1426 = .ok (.iconst 0, 1) := by decide +kernel
theorem dL_law_1427 : decode cL_law 1427 = .ok (.istore 13, 2) := by decide +kernel
theorem dL_law_1429 : decode cL_law 1429 = .ok (.goto 717, 3) := by decide +kernel
theorem dL_law_1432 : decode cL_law 1432 = .ok (.iload 15, 2) := by decide +kernel
theorem dL_law_1434 : decode cL_law 1434 = .ok (.bipush 26, 2) := by decide +kernel
theorem dL_law_1436 : decode cL_law 1436 = .ok (.if_icmp .ge 387, 3) := by decide +kernel
theorem dL_law_1439 : decode cL_law 1439 = .ok (.iload 16, 2) := by decide +kernel
theorem dL_law_1441 : decode cL_law 1441 = .ok (.aload 12, 2) := by decide +kernel
theorem dL_law_1443 : decode cL_law 1443 = .ok (.iconst 2, 1) := by decide +kernel
theorem dL_law_1444 : decode cL_law 1444 = .ok (.iaload, 1) := by decide +kernel
theorem dL_law_1445 : decode cL_law 1445 = .ok (.iconst 1, 1) := by decide +kernel
theorem dL_law_1446 : decode cL_law 1446 = .ok (.iadd, 1) := by decide +kernel
theorem dL_law_1447 : decode cL_law 1447 = .ok (.irem, 1) := by decide +kernel
theorem dL_law_1448 : decode cL_law 1448 = .ok (.istore 23, 2) := by decide +kernel
theorem dL_law_1450 : decode cL_law 1450 = .ok (.iload 23, 2) := by decide +kernel
theorem dL_law_1452 : decode cL_law 1452 = .ok (.aload 12, 2) := by decide +kernel
theorem dL_law_1454 : decode cL_law 1454 = .ok (.iconst 2, 1) := by decide +kernel
theorem dL_law_1455 : decode cL_law 1455 = .ok (.iaload, 1) := by decide +kernel
theorem dL_law_1456 : decode cL_law 1456 = .ok (.if_icmp .ge 30, 3) := by decide +kernel
theorem dL_law_1459 : decode cL_law 1459 = .ok (.aload 6, 2) := by decide +kernel
theorem dL_law_1461 : decode cL_law 1461 = .ok (.iload 23, 2) := by decide +kernel
theorem dL_law_1463 : decode cL_law 1463 = .ok (.aload 12, 2) := by decide +kernel
theorem dL_law_1465 : decode cL_law 1465 = .ok (.iconst 2, 1) := by decide +kernel
theorem dL_law_1466 : decode cL_law 1466 = .ok (.iaload, 1) := by decide +kernel
theorem dL_law_1467 : decode cL_law 1467 = .ok (.if_icmp .ge 8, 3) := by decide +kernel
theorem dL_law_1470 : decode cL_law 1470 = .ok (.iload 23, 2) := by decide +kernel
theorem dL_law_1472 : decode cL_law 1472 = .ok (.goto 4, 3) := by decide +kernel
theorem dL_law_1475 : decode cL_law 1475 = .ok (.iconst 0, 1) := by decide +kernel
theorem dL_law_1476 : decode cL_law 1476 = .ok (.iaload, 1) := by decide +kernel
theorem dL_law_1477 : decode cL_law 1477 = .ok (.ldc 93, 2) := by decide +kernel
theorem dL_law_1479 : decode cL_law 1479 = .ok (.if_icmp .ge 7, 3) := by decide +kernel
theorem dL_law_1482 : decode cL_law 1482 = .ok (.iconst 1, 1) := by decide +kernel
theorem dL_law_1483 : decode cL_law 1483 = .ok (.goto 4, 3) := by decide +kernel
theorem dL_law_1486 : decode cL_law 1486 = .ok (.iconst 0, 1) := by decide +kernel
theorem dL_law_1487 : decode cL_law 1487 = .ok (.istore 24, 2) := by decide +kernel
theorem dL_law_1489 : decode cL_law 1489 = .ok (.iload 24, 2) := by decide +kernel
theorem dL_law_1491 : decode cL_law 1491 = .ok (.ifCond .eq 13, 3) := by decide +kernel
theorem dL_law_1494 : decode cL_law 1494 = .ok (.aload 6, 2) := by decide +kernel
theorem dL_law_1496 : decode cL_law 1496 = .ok (.iload 23, 2) := by decide +kernel
theorem dL_law_1498 : decode cL_law 1498 = .ok (.iaload, 1) := by decide +kernel
theorem dL_law_1499 : decode cL_law 1499 = .ok (.iconst 4, 1) := by decide +kernel
theorem dL_law_1500 : decode cL_law 1500 = .ok (.irem, 1) := by decide +kernel
theorem dL_law_1501 : decode cL_law 1501 = .ok (.goto 4, 3) := by decide +kernel
theorem dL_law_1504 : decode cL_law 1504 = .ok (.iconst 0, 1) := by decide +kernel
theorem dL_law_1505 : decode cL_law 1505 = .ok (.istore 25, 2) := by decide +kernel
theorem dL_law_1507 : decode cL_law 1507 = .ok (.lconst 0, 1) := by decide +kernel
theorem dL_law_1508 : decode cL_law 1508 = .ok (.lstore 26, 2) := by decide +kernel
theorem dL_law_1510 : decode cL_law 1510 = .ok (.iload 24, 2) := by decide +kernel
theorem dL_law_1512 : decode cL_law 1512 = .ok (.istore 28, 2) := by decide +kernel
theorem dL_law_1514 : decode cL_law 1514 = .ok (.iload 24, 2) := by decide +kernel
theorem dL_law_1516 : decode cL_law 1516 = .ok (.ifCond .eq 255, 3) := by decide +kernel
theorem dL_law_1519 : decode cL_law 1519 = .ok (.aload 6, 2) := by decide +kernel
theorem dL_law_1521 : decode cL_law 1521 = .ok (.iload 23, 2) := by decide +kernel
theorem dL_law_1523 : decode cL_law 1523 = .ok (.iaload, 1) := by decide +kernel
theorem dL_law_1524 : decode cL_law 1524 = .ok (.iconst 4, 1) := by decide +kernel
theorem dL_law_1525 : decode cL_law 1525 = .ok (.idiv, 1) := by decide +kernel
theorem dL_law_1526 : decode cL_law 1526 = .ok (.bipush 8, 2) := by decide +kernel
theorem dL_law_1528 : decode cL_law 1528 = .ok (.irem, 1) := by decide +kernel
theorem dL_law_1529 : decode cL_law 1529 = .ok (.istore 29, 2) := by decide +kernel
theorem dL_law_1531 : decode cL_law 1531 = .ok (.aload 6, 2) := by decide +kernel
theorem dL_law_1533 : decode cL_law 1533 = .ok (.iload 23, 2) := by decide +kernel
theorem dL_law_1535 : decode cL_law 1535 = .ok (.dup2, 1) := by decide +kernel
theorem dL_law_1536 : decode cL_law 1536 = .ok (.iaload, 1) := by decide +kernel
theorem dL_law_1537 : decode cL_law 1537 = .ok (.ldc 93, 2) := by decide +kernel
theorem dL_law_1539 : decode cL_law 1539 = .ok (.iadd, 1) := by decide +kernel
theorem dL_law_1540 : decode cL_law 1540 = .ok (.iastore, 1) := by decide +kernel
theorem dL_law_1541 : decode cL_law 1541 = .ok (.aload 6, 2) := by decide +kernel
theorem dL_law_1543 : decode cL_law 1543 = .ok (.aload 7, 2) := by decide +kernel
theorem dL_law_1545 : decode cL_law 1545 = .ok (.aload 8, 2) := by decide +kernel
theorem dL_law_1547 : decode cL_law 1547 = .ok (.aload 12, 2) := by decide +kernel
theorem dL_law_1549 : decode cL_law 1549 = .ok (.aload 10, 2) := by decide +kernel
theorem dL_law_1551 : decode cL_law 1551 = .ok (.aload 11, 2) := by decide +kernel
theorem dL_law_1553 : decode cL_law 1553 = .ok (.iload 25, 2) := by decide +kernel
theorem dL_law_1555 : decode cL_law 1555 = .ok (.iload 29, 2) := by decide +kernel
theorem dL_law_1557 : decode cL_law 1557 = .ok (.invokestatic 94, 3) := by decide +kernel
theorem dL_law_1560 : decode cL_law 1560 = .ok (.istore 28, 2) := by decide +kernel
theorem dL_law_1562 : decode cL_law 1562 = .ok (.aload 6, 2) := by decide +kernel
theorem dL_law_1564 : decode cL_law 1564 = .ok (.iload 23, 2) := by decide +kernel
theorem dL_law_1566 : decode cL_law 1566 = .ok (.dup2, 1) := by decide +kernel
theorem dL_law_1567 : decode cL_law 1567 = .ok (.iaload, 1) := by decide +kernel
theorem dL_law_1568 : decode cL_law 1568 = .ok (.iload 28, 2) := by decide +kernel
theorem dL_law_1570 : decode cL_law 1570 = .ok (.ifCond .eq 7, 3) := by decide +kernel
theorem dL_law_1573 : decode cL_law 1573 = .ok (.iconst 0, 1) := by decide +kernel
theorem dL_law_1574 : decode cL_law 1574 = .ok (.goto 5, 3) := by decide +kernel
theorem dL_law_1577 : decode cL_law 1577 = .ok (.ldc 93, 2) := by decide +kernel
theorem dL_law_1579 : decode cL_law 1579 = .ok (.isub, 1) := by decide +kernel
theorem dL_law_1580 : decode cL_law 1580 = .ok (.iastore, 1) := by decide +kernel
theorem dL_law_1581 : decode cL_law 1581 = .ok (.iload 28, 2) := by decide +kernel
theorem dL_law_1583 : decode cL_law 1583 = .ok (.ifCond .eq 188, 3) := by decide +kernel
theorem dL_law_1586 : decode cL_law 1586 = .ok (.aload 7, 2) := by decide +kernel
theorem dL_law_1588 : decode cL_law 1588 = .ok (.iload 23, 2) := by decide +kernel
theorem dL_law_1590 : decode cL_law 1590 = .ok (.laload, 1) := by decide +kernel
theorem dL_law_1591 : decode cL_law 1591 = .ok (.lconst 0, 1) := by decide +kernel
theorem dL_law_1592 : decode cL_law 1592 = .ok (.lcmp, 1) := by decide +kernel
theorem dL_law_1593 : decode cL_law 1593 = .ok (.ifCond .le 21, 3) := by decide +kernel
theorem dL_law_1596 : decode cL_law 1596 = .ok (.aload 8, 2) := by decide +kernel
theorem dL_law_1598 : decode cL_law 1598 = .ok (.iload 23, 2) := by decide +kernel
theorem dL_law_1600 : decode cL_law 1600 = .ok (.laload, 1) := by decide +kernel
theorem dL_law_1601 : decode cL_law 1601 = .ok (.lneg, 1) := by decide +kernel
theorem dL_law_1602 : decode cL_law 1602 = .ok (.aload 8, 2) := by decide +kernel
theorem dL_law_1604 : decode cL_law 1604 = .ok (.iload 23, 2) := by decide +kernel
theorem dL_law_1606 : decode cL_law 1606 = .ok (.laload, 1) := by decide +kernel
theorem dL_law_1607 : decode cL_law 1607 = .ok (.invokestatic 83, 3) := by decide +kernel
theorem dL_law_1610 : decode cL_law 1610 = .ok (.lsub, 1) := by decide +kernel
theorem dL_law_1611 : decode cL_law 1611 = .ok (.goto 17, 3) := by decide +kernel
theorem dL_law_1614 : decode cL_law 1614 = .ok (.aload 8, 2) := by decide +kernel
theorem dL_law_1616 : decode cL_law 1616 = .ok (.iload 23, 2) := by decide +kernel
theorem dL_law_1618 : decode cL_law 1618 = .ok (.laload, 1) := by decide +kernel
theorem dL_law_1619 : decode cL_law 1619 = .ok (.aload 8, 2) := by decide +kernel
theorem dL_law_1621 : decode cL_law 1621 = .ok (.iload 23, 2) := by decide +kernel
theorem dL_law_1623 : decode cL_law 1623 = .ok (.laload, 1) := by decide +kernel
theorem dL_law_1624 : decode cL_law 1624 = .ok (.invokestatic 83, 3) := by decide +kernel
theorem dL_law_1627 : decode cL_law 1627 = .ok (.lsub, 1) := by decide +kernel
theorem dL_law_1628 : decode cL_law 1628 = .ok (.lstore 30, 2) := by decide +kernel
theorem dL_law_1630 : decode cL_law 1630 = .ok (.aload_n 3, 1) := by decide +kernel
theorem dL_law_1631 : decode cL_law 1631 = .ok (.bipush 12, 2) := by decide +kernel
theorem dL_law_1633 : decode cL_law 1633 = .ok (.iload 25, 2) := by decide +kernel
theorem dL_law_1635 : decode cL_law 1635 = .ok (.iadd, 1) := by decide +kernel
theorem dL_law_1636 : decode cL_law 1636 = .ok (.dup2, 1) := by decide +kernel
theorem dL_law_1637 : decode cL_law 1637 = .ok (.laload, 1) := by decide +kernel
theorem dL_law_1638 : decode cL_law 1638 = .ok (.lload 30, 2) := by decide +kernel
theorem dL_law_1640 : decode cL_law 1640 = .ok (.lsub, 1) := by decide +kernel
theorem dL_law_1641 : decode cL_law 1641 = .ok (.lastore, 1) := by decide +kernel
theorem dL_law_1642 : decode cL_law 1642 = .ok (.aload_n 3, 1) := by decide +kernel
theorem dL_law_1643 : decode cL_law 1643 = .ok (.bipush 15, 2) := by decide +kernel
theorem dL_law_1645 : decode cL_law 1645 = .ok (.dup2, 1) := by decide +kernel
theorem dL_law_1646 : decode cL_law 1646 = .ok (.laload, 1) := by decide +kernel
theorem dL_law_1647 : decode cL_law 1647 = .ok (.lload 30, 2) := by decide +kernel
theorem dL_law_1649 : decode cL_law 1649 = .ok (.ladd, 1) := by decide +kernel
theorem dL_law_1650 : decode cL_law 1650 = .ok (.lastore, 1) := by decide +kernel
theorem dL_law_1651 : decode cL_law 1651 = .ok (.aload_n 2, 1) := by decide +kernel
theorem dL_law_1652 : decode cL_law 1652 = .ok (.aload_n 3, 1) := by decide +kernel
theorem dL_law_1653 : decode cL_law 1653 = .ok (.aload 4, 2) := by decide +kernel
theorem dL_law_1655 : decode cL_law 1655 = .ok (.iload 25, 2) := by decide +kernel
theorem dL_law_1657 : decode cL_law 1657 = .ok (.iload 29, 2) := by decide +kernel
theorem dL_law_1659 : decode cL_law 1659 = .ok (.aload 7, 2) := by decide +kernel
theorem dL_law_1661 : decode cL_law 1661 = .ok (.iload 23, 2) := by decide +kernel
theorem dL_law_1663 : decode cL_law 1663 = .ok (.laload, 1) := by decide +kernel
theorem dL_law_1664 : decode cL_law 1664 = .ok (.lneg, 1) := by decide +kernel
theorem dL_law_1665 : decode cL_law 1665 = .ok (.invokestatic 89, 3) := by decide +kernel
theorem dL_law_1668 : decode cL_law 1668 = .ok (.aload 6, 2) := by decide +kernel
theorem dL_law_1670 : decode cL_law 1670 = .ok (.aload 7, 2) := by decide +kernel
theorem dL_law_1672 : decode cL_law 1672 = .ok (.aload 8, 2) := by decide +kernel
theorem dL_law_1674 : decode cL_law 1674 = .ok (.aload 12, 2) := by decide +kernel
theorem dL_law_1676 : decode cL_law 1676 = .ok (.aload 10, 2) := by decide +kernel
theorem dL_law_1678 : decode cL_law 1678 = .ok (.aload 11, 2) := by decide +kernel
theorem dL_law_1680 : decode cL_law 1680 = .ok (.iload 25, 2) := by decide +kernel
theorem dL_law_1682 : decode cL_law 1682 = .ok (.invokestatic 114, 3) := by decide +kernel
theorem dL_law_1685 : decode cL_law 1685 = .ok (.iconst 0, 1) := by decide +kernel
theorem dL_law_1686 : decode cL_law 1686 = .ok (.istore 32, 2) := by decide +kernel
theorem dL_law_1688 : decode cL_law 1688 = .ok (.iload 32, 2) := by decide +kernel
theorem dL_law_1690 : decode cL_law 1690 = .ok (.aload 12, 2) := by decide +kernel
theorem dL_law_1692 : decode cL_law 1692 = .ok (.iconst 0, 1) := by decide +kernel
theorem dL_law_1693 : decode cL_law 1693 = .ok (.iaload, 1) := by decide +kernel
theorem dL_law_1694 : decode cL_law 1694 = .ok (.sipush 360, 3) := by decide +kernel
theorem dL_law_1697 : decode cL_law 1697 = .ok (.idiv, 1) := by decide +kernel
theorem dL_law_1698 : decode cL_law 1698 = .ok (.if_icmp .ge 61, 3) := by decide +kernel
theorem dL_law_1701 : decode cL_law 1701 = .ok (.lload 26, 2) := by decide +kernel
theorem dL_law_1703 : decode cL_law 1703 = .ok (.aload 9, 2) := by decide +kernel
theorem dL_law_1705 : decode cL_law 1705 = .ok (.bipush 21, 2) := by decide +kernel
theorem dL_law_1707 : decode cL_law 1707 = .ok (.iload 25, 2) := by decide +kernel
theorem dL_law_1709 : decode cL_law 1709 = .ok (.imul, 1) := by decide +kernel
theorem dL_law_1710 : decode cL_law 1710 = .ok (.iload 32, 2) := by decide +kernel
theorem dL_law_1712 : decode cL_law 1712 = .ok (.iadd, 1) := by decide +kernel
theorem dL_law_1713 : decode cL_law 1713 = .ok (.laload, 1) := by decide +kernel
theorem dL_law_1714 : decode cL_law 1714 = .ok (.aload 11, 2) := by decide +kernel
theorem dL_law_1716 : decode cL_law 1716 = .ok (.bipush 22, 2) := by decide +kernel
theorem dL_law_1718 : decode cL_law 1718 = .ok (.iload 32, 2) := by decide +kernel
theorem dL_law_1720 : decode cL_law 1720 = .ok (.iadd, 1) := by decide +kernel
theorem dL_law_1721 : decode cL_law 1721 = .ok (.laload, 1) := by decide +kernel
theorem dL_law_1722 : decode cL_law 1722 = .ok (.ldc2_w 118, 3) := by decide +kernel
theorem dL_law_1725 : decode cL_law 1725 = .ok (.ldiv, 1) := by decide +kernel
theorem dL_law_1726 : decode cL_law 1726 = .ok (.lsub, 1) := by decide +kernel
theorem dL_law_1727 : decode cL_law 1727 = .ok (.ladd, 1) := by decide +kernel
theorem dL_law_1728 : decode cL_law 1728 = .ok (.lstore 26, 2) := by decide +kernel
theorem dL_law_1730 : decode cL_law 1730 = .ok (.aload 9, 2) := by decide +kernel
theorem dL_law_1732 : decode cL_law 1732 = .ok (.bipush 21, 2) := by decide +kernel
theorem dL_law_1734 : decode cL_law 1734 = .ok (.iload 25, 2) := by decide +kernel
theorem dL_law_1736 : decode cL_law 1736 = .ok (.imul, 1) := by decide +kernel
theorem dL_law_1737 : decode cL_law 1737 = .ok (.iload 32, 2) := by decide +kernel
theorem dL_law_1739 : decode cL_law 1739 = .ok (.iadd, 1) := by decide +kernel
theorem dL_law_1740 : decode cL_law 1740 = .ok (.aload 11, 2) := by decide +kernel
theorem dL_law_1742 : decode cL_law 1742 = .ok (.bipush 22, 2) := by decide +kernel
theorem dL_law_1744 : decode cL_law 1744 = .ok (.iload 32, 2) := by decide +kernel
theorem dL_law_1746 : decode cL_law 1746 = .ok (.iadd, 1) := by decide +kernel
theorem dL_law_1747 : decode cL_law 1747 = .ok (.laload, 1) := by decide +kernel
theorem dL_law_1748 : decode cL_law 1748 = .ok (.ldc2_w 118, 3) := by decide +kernel
theorem dL_law_1751 : decode cL_law 1751 = .ok (.ldiv, 1) := by decide +kernel
theorem dL_law_1752 : decode cL_law 1752 = .ok (.lastore, 1) := by decide +kernel
theorem dL_law_1753 : decode cL_law 1753 = .ok (.iinc 32 1, 3) := by decide +kernel
theorem dL_law_1756 : decode cL_law 1756 = .ok (.goto (-68), 3) := by decide +kernel
theorem dL_law_1759 : decode cL_law 1759 = .ok (.aload_n 3, 1) := by decide +kernel
theorem dL_law_1760 : decode cL_law 1760 = .ok (.bipush 12, 2) := by decide +kernel
theorem dL_law_1762 : decode cL_law 1762 = .ok (.iload 25, 2) := by decide +kernel
theorem dL_law_1764 : decode cL_law 1764 = .ok (.iadd, 1) := by decide +kernel
theorem dL_law_1765 : decode cL_law 1765 = .ok (.dup2, 1) := by decide +kernel
theorem dL_law_1766 : decode cL_law 1766 = .ok (.laload, 1) := by decide +kernel
theorem dL_law_1767 : decode cL_law 1767 = .ok (.lload 26, 2) := by decide +kernel
theorem dL_law_1769 : decode cL_law 1769 = .ok (.ladd, 1) := by decide +kernel
theorem dL_law_1770 : decode cL_law 1770 = .ok (.lastore, 1) := by decide +kernel
theorem dL_law_1771 : decode cL_law 1771 = .ok (.aload_n 1, 1) := by decide +kernel
theorem dL_law_1772 : decode cL_law 1772 = .ok (.bipush 7, 2) := by decide +kernel
theorem dL_law_1774 : decode cL_law 1774 = .ok (.iload 23, 2) := by decide +kernel
theorem dL_law_1776 : decode cL_law 1776 = .ok (.iconst 0, 1) := by decide +kernel
theorem dL_law_1777 : decode cL_law 1777 = .ok (.iconst 0, 1) := by decide +kernel
theorem dL_law_1778 : decode cL_law 1778 = .ok (.invokestatic 122, 3) := by decide +kernel
theorem dL_law_1781 : decode cL_law 1781 = .ok (.iload 23, 2) := by decide +kernel
theorem dL_law_1783 : decode cL_law 1783 = .ok (.aload 12, 2) := by decide +kernel
theorem dL_law_1785 : decode cL_law 1785 = .ok (.iconst 2, 1) := by decide +kernel
theorem dL_law_1786 : decode cL_law 1786 = .ok (.iaload, 1) := by decide +kernel
theorem dL_law_1787 : decode cL_law 1787 = .ok (.if_icmp .ne 9, 3) := by decide +kernel
theorem dL_law_1790 : decode cL_law 1790 = .ok (.ldc2_w 59, 3) := by decide +kernel
theorem dL_law_1793 : decode cL_law 1793 = .ok (.goto 16, 3) := by decide +kernel
theorem dL_law_1796 : decode cL_law 1796 = .ok (.iload 28, 2) := by decide +kernel
theorem dL_law_1798 : decode cL_law 1798 = .ok (.ifCond .eq 8, 3) := by decide +kernel
theorem dL_law_1801 : decode cL_law 1801 = .ok (.lload 26, 2) := by decide +kernel
theorem dL_law_1803 : decode cL_law 1803 = .ok (.goto 6, 3) := by decide +kernel
theorem dL_law_1806 : decode cL_law 1806 = .ok (.ldc2_w 67, 3) := by decide +kernel
theorem dL_law_1809 : decode cL_law 1809 = .ok (.lcmp, 1) := by decide +kernel
theorem dL_law_1810 : decode cL_law 1810 = .ok (.ifCond .ne 7, 3) := by decide +kernel
theorem dL_law_1813 : decode cL_law 1813 = .ok (.iconst 1, 1) := by decide +kernel
theorem dL_law_1814 : decode cL_law 1814 = .ok (.goto 4, 3) := by decide +kernel
theorem dL_law_1817 : decode cL_law 1817 = .ok (.iconst 0, 1) := by decide +kernel
theorem dL_law_1818 : decode cL_law 1818 = .ok (.istore 13, 2) := by decide +kernel
theorem dL_law_1820 : decode cL_law 1820 = .ok (.goto 326, 3) := by decide +kernel
theorem dL_law_1823 : decode cL_law 1823 = .ok (.iload 15, 2) := by decide +kernel
theorem dL_law_1825 : decode cL_law 1825 = .ok (.bipush 30, 2) := by decide +kernel
theorem dL_law_1827 : decode cL_law 1827 = .ok (.if_icmp .ge 319, 3) := by decide +kernel
theorem dL_law_1830 : decode cL_law 1830 = .ok (.iload 16, 2) := by decide +kernel
theorem dL_law_1832 : decode cL_law 1832 = .ok (.iconst 3, 1) := by decide +kernel
theorem dL_law_1833 : decode cL_law 1833 = .ok (.irem, 1) := by decide +kernel
theorem dL_law_1834 : decode cL_law 1834 = .ok (.ifCond .ne 14, 3) := by decide +kernel
theorem dL_law_1837 : decode cL_law 1837 = .ok (.iconst 1, 1) := by decide +kernel
theorem dL_law_1838 : decode cL_law 1838 = .ok (.iload 16, 2) := by decide +kernel
theorem dL_law_1840 : decode cL_law 1840 = .ok (.sipush 400, 3) := by decide +kernel
theorem dL_law_1843 : decode cL_law 1843 = .ok (.irem, 1) := by decide +kernel
theorem dL_law_1844 : decode cL_law 1844 = .ok (.iadd, 1) := by decide +kernel
theorem dL_law_1845 : decode cL_law 1845 = .ok (.goto 33, 3) := by decide +kernel
theorem dL_law_1848 : decode cL_law 1848 = .ok (.iload 16, 2) := by decide +kernel
theorem dL_law_1850 : decode cL_law 1850 = .ok (.iconst 3, 1) := by decide +kernel
theorem dL_law_1851 : decode cL_law 1851 = .ok (.irem, 1) := by decide +kernel
theorem dL_law_1852 : decode cL_law 1852 = .ok (.iconst 1, 1) := by decide +kernel
theorem dL_law_1853 : decode cL_law 1853 = .ok (.if_icmp .ne 18, 3) := by decide +kernel
theorem dL_law_1856 : decode cL_law 1856 = .ok (.sipush 360, 3) := by decide +kernel
theorem dL_law_1859 : decode cL_law 1859 = .ok (.aload 12, 2) := by decide +kernel
theorem dL_law_1861 : decode cL_law 1861 = .ok (.iconst 0, 1) := by decide +kernel
theorem dL_law_1862 : decode cL_law 1862 = .ok (.iaload, 1) := by decide +kernel
theorem dL_law_1863 : decode cL_law 1863 = .ok (.sipush 360, 3) := by decide +kernel
theorem dL_law_1866 : decode cL_law 1866 = .ok (.irem, 1) := by decide +kernel
theorem dL_law_1867 : decode cL_law 1867 = .ok (.isub, 1) := by decide +kernel
theorem dL_law_1868 : decode cL_law 1868 = .ok (.goto 10, 3) := by decide +kernel
theorem dL_law_1871 : decode cL_law 1871 = .ok (.iconst 1, 1) := by decide +kernel
theorem dL_law_1872 : decode cL_law 1872 = .ok (.iload 16, 2) := by decide +kernel
theorem dL_law_1874 : decode cL_law 1874 = .ok (.bipush 9, 2) := by decide +kernel
theorem dL_law_1876 : decode cL_law 1876 = .ok (.irem, 1) := by decide +kernel
theorem dL_law_1877 : decode cL_law 1877 = .ok (.iadd, 1) := by decide +kernel
theorem dL_law_1878 : decode cL_law 1878 = .ok (.istore 23, 2) := by decide +kernel
theorem dL_law_1880 : decode cL_law 1880 = .ok (.aload 12, 2) := by decide +kernel
theorem dL_law_1882 : decode cL_law 1882 = .ok (.iconst 0, 1) := by decide +kernel
theorem dL_law_1883 : decode cL_law 1883 = .ok (.iaload, 1) := by decide +kernel
theorem dL_law_1884 : decode cL_law 1884 = .ok (.iload 23, 2) := by decide +kernel
theorem dL_law_1886 : decode cL_law 1886 = .ok (.iadd, 1) := by decide +kernel
theorem dL_law_1887 : decode cL_law 1887 = .ok (.sipush 7200, 3) := by decide +kernel
theorem dL_law_1890 : decode cL_law 1890 = .ok (.if_icmp .gt 7, 3) := by decide +kernel
theorem dL_law_1893 : decode cL_law 1893 = .ok (.iconst 1, 1) := by decide +kernel
theorem dL_law_1894 : decode cL_law 1894 = .ok (.goto 4, 3) := by decide +kernel
theorem dL_law_1897 : decode cL_law 1897 = .ok (.iconst 0, 1) := by decide +kernel
theorem dL_law_1898 : decode cL_law 1898 = .ok (.istore 24, 2) := by decide +kernel
theorem dL_law_1900 : decode cL_law 1900 = .ok (.iconst 0, 1) := by decide +kernel
theorem dL_law_1901 : decode cL_law 1901 = .ok (.istore 25, 2) := by decide +kernel
theorem dL_law_1903 : decode cL_law 1903 = .ok (.iload 25, 2) := by decide +kernel
theorem dL_law_1905 : decode cL_law 1905 = .ok (.iload 23, 2) := by decide +kernel
theorem dL_law_1907 : decode cL_law 1907 = .ok (.if_icmp .ge 202, 3) := by decide +kernel
theorem dL_law_1910 : decode cL_law 1910 = .ok (.iload 24, 2) := by decide +kernel
theorem dL_law_1912 : decode cL_law 1912 = .ok (.ifCond .eq 197, 3) := by decide +kernel
theorem dL_law_1915 : decode cL_law 1915 = .ok (.iconst 0, 1) := by decide +kernel
theorem dL_law_1916 : decode cL_law 1916 = .ok (.istore 26, 2) := by decide +kernel
theorem dL_law_1918 : decode cL_law 1918 = .ok (.iload 26, 2) := by decide +kernel
theorem dL_law_1920 : decode cL_law 1920 = .ok (.bipush 6, 2) := by decide +kernel
theorem dL_law_1922 : decode cL_law 1922 = .ok (.if_icmp .ge 62, 3) := by decide +kernel
theorem dL_law_1925 : decode cL_law 1925 = .ok (.aload_n 3, 1) := by decide +kernel
theorem dL_law_1926 : decode cL_law 1926 = .ok (.bipush 6, 2) := by decide +kernel
theorem dL_law_1928 : decode cL_law 1928 = .ok (.iload 26, 2) := by decide +kernel
theorem dL_law_1930 : decode cL_law 1930 = .ok (.iadd, 1) := by decide +kernel
theorem dL_law_1931 : decode cL_law 1931 = .ok (.laload, 1) := by decide +kernel
theorem dL_law_1932 : decode cL_law 1932 = .ok (.ldc2_w 81, 3) := by decide +kernel
theorem dL_law_1935 : decode cL_law 1935 = .ok (.ldiv, 1) := by decide +kernel
theorem dL_law_1936 : decode cL_law 1936 = .ok (.lstore 27, 2) := by decide +kernel
theorem dL_law_1938 : decode cL_law 1938 = .ok (.aload_n 3, 1) := by decide +kernel
theorem dL_law_1939 : decode cL_law 1939 = .ok (.iload 26, 2) := by decide +kernel
theorem dL_law_1941 : decode cL_law 1941 = .ok (.dup2, 1) := by decide +kernel
theorem dL_law_1942 : decode cL_law 1942 = .ok (.laload, 1) := by decide +kernel
theorem dL_law_1943 : decode cL_law 1943 = .ok (.lload 27, 2) := by decide +kernel
theorem dL_law_1945 : decode cL_law 1945 = .ok (.lsub, 1) := by decide +kernel
theorem dL_law_1946 : decode cL_law 1946 = .ok (.lastore, 1) := by decide +kernel
theorem dL_law_1947 : decode cL_law 1947 = .ok (.aload_n 3, 1) := by decide +kernel
theorem dL_law_1948 : decode cL_law 1948 = .ok (.bipush 6, 2) := by decide +kernel
theorem dL_law_1950 : decode cL_law 1950 = .ok (.iload 26, 2) := by decide +kernel
theorem dL_law_1952 : decode cL_law 1952 = .ok (.iadd, 1) := by decide +kernel
theorem dL_law_1953 : decode cL_law 1953 = .ok (.dup2, 1) := by decide +kernel
theorem dL_law_1954 : decode cL_law 1954 = .ok (.laload, 1) := by decide +kernel
theorem dL_law_1955 : decode cL_law 1955 = .ok (.ldc2_w 81, 3) := by decide +kernel
theorem dL_law_1958 : decode cL_law 1958 = .ok (.lload 27, 2) := by decide +kernel
theorem dL_law_1960 : decode cL_law 1960 = .ok (.lmul, 1) := by decide +kernel
theorem dL_law_1961 : decode cL_law 1961 = .ok (.lsub, 1) := by decide +kernel
theorem dL_law_1962 : decode cL_law 1962 = .ok (.lastore, 1) := by decide +kernel
theorem dL_law_1963 : decode cL_law 1963 = .ok (.aload_n 3, 1) := by decide +kernel
theorem dL_law_1964 : decode cL_law 1964 = .ok (.bipush 15, 2) := by decide +kernel
theorem dL_law_1966 : decode cL_law 1966 = .ok (.dup2, 1) := by decide +kernel
theorem dL_law_1967 : decode cL_law 1967 = .ok (.laload, 1) := by decide +kernel
theorem dL_law_1968 : decode cL_law 1968 = .ok (.lload 27, 2) := by decide +kernel
theorem dL_law_1970 : decode cL_law 1970 = .ok (.aload_n 2, 1) := by decide +kernel
theorem dL_law_1971 : decode cL_law 1971 = .ok (.iload 26, 2) := by decide +kernel
theorem dL_law_1973 : decode cL_law 1973 = .ok (.iaload, 1) := by decide +kernel
theorem dL_law_1974 : decode cL_law 1974 = .ok (.i2l, 1) := by decide +kernel
theorem dL_law_1975 : decode cL_law 1975 = .ok (.lmul, 1) := by decide +kernel
theorem dL_law_1976 : decode cL_law 1976 = .ok (.ladd, 1) := by decide +kernel
theorem dL_law_1977 : decode cL_law 1977 = .ok (.lastore, 1) := by decide +kernel
theorem dL_law_1978 : decode cL_law 1978 = .ok (.iinc 26 1, 3) := by decide +kernel
theorem dL_law_1981 : decode cL_law 1981 = .ok (.goto (-63), 3) := by decide +kernel
theorem dL_law_1984 : decode cL_law 1984 = .ok (.aload 12, 2) := by decide +kernel
theorem dL_law_1986 : decode cL_law 1986 = .ok (.iconst 0, 1) := by decide +kernel
theorem dL_law_1987 : decode cL_law 1987 = .ok (.dup2, 1) := by decide +kernel
theorem dL_law_1988 : decode cL_law 1988 = .ok (.iaload, 1) := by decide +kernel
theorem dL_law_1989 : decode cL_law 1989 = .ok (.iconst 1, 1) := by decide +kernel
theorem dL_law_1990 : decode cL_law 1990 = .ok (.iadd, 1) := by decide +kernel
theorem dL_law_1991 : decode cL_law 1991 = .ok (.iastore, 1) := by decide +kernel
theorem dL_law_1992 : decode cL_law 1992 = .ok (.iconst 0, 1) := by decide +kernel
theorem dL_law_1993 : decode cL_law 1993 = .ok (.istore 26, 2) := by decide +kernel
theorem dL_law_1995 : decode cL_law 1995 = .ok (.iload 26, 2) := by decide +kernel
theorem dL_law_1997 : decode cL_law 1997 = .ok (.aload 12, 2) := by decide +kernel
theorem dL_law_1999 : decode cL_law 1999 = .ok (.iconst 1, 1) := by decide +kernel
theorem dL_law_2000 : decode cL_law 2000 = .ok (.iaload, 1) := by decide +kernel
theorem dL_law_2001 : decode cL_law 2001 = .ok (.if_icmp .ge 102, 3) := by decide +kernel
theorem dL_law_2004 : decode cL_law 2004 = .ok (.aload 12, 2) := by decide +kernel
theorem dL_law_2006 : decode cL_law 2006 = .ok (.iconst 0, 1) := by decide +kernel
theorem dL_law_2007 : decode cL_law 2007 = .ok (.iaload, 1) := by decide +kernel
theorem dL_law_2008 : decode cL_law 2008 = .ok (.sipush 360, 3) := by decide +kernel
theorem dL_law_2011 : decode cL_law 2011 = .ok (.irem, 1) := by decide +kernel
theorem dL_law_2012 : decode cL_law 2012 = .ok (.ifCond .ne 91, 3) := by decide +kernel
theorem dL_law_2015 : decode cL_law 2015 = .ok (.aload 6, 2) := by decide +kernel
theorem dL_law_2017 : decode cL_law 2017 = .ok (.aload 7, 2) := by decide +kernel
theorem dL_law_2019 : decode cL_law 2019 = .ok (.aload 8, 2) := by decide +kernel
theorem dL_law_2021 : decode cL_law 2021 = .ok (.aload 12, 2) := by decide +kernel
theorem dL_law_2023 : decode cL_law 2023 = .ok (.aload 10, 2) := by decide +kernel
theorem dL_law_2025 : decode cL_law 2025 = .ok (.aload 11, 2) := by decide +kernel
theorem dL_law_2027 : decode cL_law 2027 = .ok (.iload 26, 2) := by decide +kernel
theorem dL_law_2029 : decode cL_law 2029 = .ok (.invokestatic 114, 3) := by decide +kernel
theorem dL_law_2032 : decode cL_law 2032 = .ok (.aload 9, 2) := by decide +kernel
theorem dL_law_2034 : decode cL_law 2034 = .ok (.bipush 21, 2) := by decide +kernel
theorem dL_law_2036 : decode cL_law 2036 = .ok (.iload 26, 2) := by decide +kernel
theorem dL_law_2038 : decode cL_law 2038 = .ok (.imul, 1) := by decide +kernel
theorem dL_law_2039 : decode cL_law 2039 = .ok (.aload 12, 2) := by decide +kernel
theorem dL_law_2041 : decode cL_law 2041 = .ok (.iconst 0, 1) := by decide +kernel
theorem dL_law_2042 : decode cL_law 2042 = .ok (.iaload, 1) := by decide +kernel
theorem dL_law_2043 : decode cL_law 2043 = .ok (.sipush 360, 3) := by decide +kernel
theorem dL_law_2046 : decode cL_law 2046 = .ok (.idiv, 1) := by decide +kernel
theorem dL_law_2047 : decode cL_law 2047 = .ok (.iadd, 1) := by decide +kernel
theorem dL_law_2048 : decode cL_law 2048 = .ok (.iconst 1, 1) := by decide +kernel
theorem dL_law_2049 : decode cL_law 2049 = .ok (.isub, 1) := by decide +kernel
theorem dL_law_2050 : decode cL_law 2050 = .ok (.aload 11, 2) := by decide +kernel
theorem dL_law_2052 : decode cL_law 2052 = .ok (.bipush 21, 2) := by decide +kernel
theorem dL_law_2054 : decode cL_law 2054 = .ok (.aload 12, 2) := by decide +kernel
theorem dL_law_2056 : decode cL_law 2056 = .ok (.iconst 0, 1) := by decide +kernel
theorem dL_law_2057 : decode cL_law 2057 = .ok (.iaload, 1) := by decide +kernel
theorem dL_law_2058 : decode cL_law 2058 = .ok (.sipush 360, 3) := by decide +kernel
theorem dL_law_2061 : decode cL_law 2061 = .ok (.idiv, 1) := by decide +kernel
theorem dL_law_2062 : decode cL_law 2062 = .ok (.iadd, 1) := by decide +kernel
theorem dL_law_2063 : decode cL_law 2063 = .ok (.laload, 1) := by decide +kernel
theorem dL_law_2064 : decode cL_law 2064 = .ok (.ldc2_w 118, 3) := by decide +kernel
theorem dL_law_2067 : decode cL_law 2067 = .ok (.ldiv, 1) := by decide +kernel
theorem dL_law_2068 : decode cL_law 2068 = .ok (.lastore, 1) := by decide +kernel
theorem dL_law_2069 : decode cL_law 2069 = .ok (.aload_n 3, 1) := by decide +kernel
theorem dL_law_2070 : decode cL_law 2070 = .ok (.bipush 12, 2) := by decide +kernel
theorem dL_law_2072 : decode cL_law 2072 = .ok (.iload 26, 2) := by decide +kernel
theorem dL_law_2074 : decode cL_law 2074 = .ok (.iadd, 1) := by decide +kernel
theorem dL_law_2075 : decode cL_law 2075 = .ok (.dup2, 1) := by decide +kernel
theorem dL_law_2076 : decode cL_law 2076 = .ok (.laload, 1) := by decide +kernel
theorem dL_law_2077 : decode cL_law 2077 = .ok (.aload 11, 2) := by decide +kernel
theorem dL_law_2079 : decode cL_law 2079 = .ok (.bipush 21, 2) := by decide +kernel
theorem dL_law_2081 : decode cL_law 2081 = .ok (.aload 12, 2) := by decide +kernel
theorem dL_law_2083 : decode cL_law 2083 = .ok (.iconst 0, 1) := by decide +kernel
theorem dL_law_2084 : decode cL_law 2084 = .ok (.iaload, 1) := by decide +kernel
theorem dL_law_2085 : decode cL_law 2085 = .ok (.sipush 360, 3) := by decide +kernel
theorem dL_law_2088 : decode cL_law 2088 = .ok (.idiv, 1) := by decide +kernel
theorem dL_law_2089 : decode cL_law 2089 = .ok (.iadd, 1) := by decide +kernel
theorem dL_law_2090 : decode cL_law 2090 = .ok (.laload, 1) := by decide +kernel
theorem dL_law_2091 : decode cL_law 2091 = .ok (.ldc2_w 118, 3) := by decide +kernel
theorem dL_law_2094 : decode cL_law 2094 = .ok (.ldiv, 1) := by decide +kernel
theorem dL_law_2095 : decode cL_law 2095 = .ok (.lsub, 1) := by decide +kernel
theorem dL_law_2096 : decode cL_law 2096 = .ok (.lastore, 1) := by decide +kernel
theorem dL_law_2097 : decode cL_law 2097 = .ok (.iinc 26 1, 3) := by decide +kernel
theorem dL_law_2100 : decode cL_law 2100 = .ok (.goto (-105), 3) := by decide +kernel
theorem dL_law_2103 : decode cL_law 2103 = .ok (.iinc 25 1, 3) := by decide +kernel
theorem dL_law_2106 : decode cL_law 2106 = .ok (.goto (-203), 3) := by decide +kernel
theorem dL_law_2109 : decode cL_law 2109 = .ok (.aload_n 1, 1) := by decide +kernel
theorem dL_law_2110 : decode cL_law 2110 = .ok (.bipush 8, 2) := by decide +kernel
theorem dL_law_2112 : decode cL_law 2112 = .ok (.iload 23, 2) := by decide +kernel
theorem dL_law_2114 : decode cL_law 2114 = .ok (.iconst 0, 1) := by decide +kernel
theorem dL_law_2115 : decode cL_law 2115 = .ok (.iconst 0, 1) := by decide +kernel
theorem dL_law_2116 : decode cL_law 2116 = .ok (.invokestatic 122, 3) := by decide +kernel
theorem dL_law_2119 : decode cL_law 2119 = .ok (.iload 24, 2) := by decide +kernel
theorem dL_law_2121 : decode cL_law 2121 = .ok (.ifCond .eq 11, 3) := by decide +kernel
theorem dL_law_2124 : decode cL_law 2124 = .ok (.aload 12, 2) := by decide +kernel
theorem dL_law_2126 : decode cL_law 2126 = .ok (.iconst 0, 1) := by decide +kernel
theorem dL_law_2127 : decode cL_law 2127 = .ok (.iaload, 1) := by decide +kernel
theorem dL_law_2128 : decode cL_law 2128 = .ok (.i2l, 1) := by decide +kernel
theorem dL_law_2129 : decode cL_law 2129 = .ok (.goto 6, 3) := by decide +kernel
theorem dL_law_2132 : decode cL_law 2132 = .ok (.ldc2_w 67, 3) := by decide +kernel
theorem dL_law_2135 : decode cL_law 2135 = .ok (.lcmp, 1) := by decide +kernel
theorem dL_law_2136 : decode cL_law 2136 = .ok (.ifCond .ne 7, 3) := by decide +kernel
theorem dL_law_2139 : decode cL_law 2139 = .ok (.iconst 1, 1) := by decide +kernel
theorem dL_law_2140 : decode cL_law 2140 = .ok (.goto 4, 3) := by decide +kernel
theorem dL_law_2143 : decode cL_law 2143 = .ok (.iconst 0, 1) := by decide +kernel
theorem dL_law_2144 : decode cL_law 2144 = .ok (.istore 13, 2) := by decide +kernel
theorem dL_law_2146 : decode cL_law 2146 = .ok (.iload 13, 2) := by decide +kernel
theorem dL_law_2148 : decode cL_law 2148 = .ok (.ifCond .eq 36, 3) := by decide +kernel
theorem dL_law_2151 : decode cL_law 2151 = .ok (.aload_n 1, 1) := by decide +kernel
theorem dL_law_2152 : decode cL_law 2152 = .ok (.aload_n 2, 1) := by decide +kernel
theorem dL_law_2153 : decode cL_law 2153 = .ok (.aload_n 3, 1) := by decide +kernel
theorem dL_law_2154 : decode cL_law 2154 = .ok (.aload 4, 2) := by decide +kernel
theorem dL_law_2156 : decode cL_law 2156 = .ok (.aload 6, 2) := by decide +kernel
theorem dL_law_2158 : decode cL_law 2158 = .ok (.aload 7, 2) := by decide +kernel
theorem dL_law_2160 : decode cL_law 2160 = .ok (.aload 8, 2) := by decide +kernel
theorem dL_law_2162 : decode cL_law 2162 = .ok (.aload 12, 2) := by decide +kernel
theorem dL_law_2164 : decode cL_law 2164 = .ok (.aload 10, 2) := by decide +kernel
theorem dL_law_2166 : decode cL_law 2166 = .ok (.aload 11, 2) := by decide +kernel
theorem dL_law_2168 : decode cL_law 2168 = .ok (.aload 9, 2) := by decide +kernel
theorem dL_law_2170 : decode cL_law 2170 = .ok (.iload 16, 2) := by decide +kernel
theorem dL_law_2172 : decode cL_law 2172 = .ok (.iload 17, 2) := by decide +kernel
theorem dL_law_2174 : decode cL_law 2174 = .ok (.invokestatic 144, 3) := by decide +kernel
theorem dL_law_2177 : decode cL_law 2177 = .ok (.ifCond .eq 7, 3) := by decide +kernel
theorem dL_law_2180 : decode cL_law 2180 = .ok (.iconst 1, 1) := by decide +kernel
theorem dL_law_2181 : decode cL_law 2181 = .ok (.goto 4, 3) := by decide +kernel
theorem dL_law_2184 : decode cL_law 2184 = .ok (.iconst 0, 1) := by decide +kernel
theorem dL_law_2185 : decode cL_law 2185 = .ok (.istore 13, 2) := by decide +kernel
theorem dL_law_2187 : decode cL_law 2187 = .ok (.iinc 14 1, 3) := by decide +kernel
theorem dL_law_2190 : decode cL_law 2190 = .ok (.goto (-1978), 3) := by decide +kernel
theorem dL_law_2193 : decode cL_law 2193 = .ok (.iload 13, 2) := by decide +kernel
theorem dL_law_2195 : decode cL_law 2195 = .ok (.ireturn, 1) := by decide +kernel
abbrev vwCl : List vw_C := [(RJx4a65c, TJx4a65c, 3), (RX0, TX0, 5), (RX1, TX1, 4), (RX2, TX2, 4), (RX3, TX3, 9), (RX4, TX4, 5)]

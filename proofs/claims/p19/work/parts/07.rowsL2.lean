set_option maxRecDepth 20000 in
theorem ggL_isSo_X4_cash : GoodIn wsL_isSo wsX4_cash := goodIn_ca (goodIn_r _ [10, 11, 12, 13, 14, 15, 9, 16, 17, 18, 19, 20, 21, 22, 23, 24, 25, 26, 27, 28, 29, 30, 31, 32, 33, 34, 35, 36, 37, 38, 39, 40, 41, 42, 43, 44, 45, 46, 395, 396, 397, 398, 399, 400, 401, 402, 403, 404, 405, 406, 407] (by decide +kernel) (by decide +kernel)) (goodIn_sub (fun _ h => List.mem_cons_of_mem _ (List.mem_append_left _ (List.mem_append_left _ (List.mem_append_right _ h)))) (by decide +kernel))
set_option maxRecDepth 20000 in
theorem gL_isSo_X4_cash : GoodIn wsL_isSo (wsV RL 106 RX4 yX4_cash wsX4_cash) := goodIn_app (goodIn_of _ (by decide +kernel)) ggL_isSo_X4_cash
set_option maxRecDepth 20000 in
theorem ggL_isSo_X4_parts : GoodIn wsL_isSo wsX4_parts := goodIn_ca (goodIn_r _ [50, 51, 52, 53, 54, 55, 9, 56, 57, 58, 19, 20, 21, 22, 23, 24, 25, 26, 27, 28, 29, 30, 31, 32, 33, 34, 35, 36, 37, 38, 39, 40, 41, 42, 43, 44, 45, 46, 59, 60, 61, 62, 63, 64, 13, 14, 15, 16, 17, 18, 408, 409, 410, 411, 412, 413, 414, 415, 395, 396, 397, 398, 399, 405, 406, 407, 400, 401, 402, 403, 404] (by decide +kernel) (by decide +kernel)) (goodIn_sub (fun _ h => List.mem_cons_of_mem _ (List.mem_append_left _ (List.mem_append_left _ (List.mem_append_right _ h)))) (by decide +kernel))
set_option maxRecDepth 20000 in
theorem gL_isSo_X4_parts : GoodIn wsL_isSo (wsV RL 54 RX4 yX4_parts wsX4_parts) := goodIn_app (goodIn_of _ (by decide +kernel)) ggL_isSo_X4_parts
set_option maxRecDepth 20000 in
theorem ggL_isSo_X4_units : GoodIn wsL_isSo wsX4_units := goodIn_ca (goodIn_r _ [68, 69, 53, 54, 55, 9, 56, 57, 58, 19, 20, 21, 22, 23, 24, 25, 26, 27, 28, 29, 30, 31, 32, 33, 34, 35, 36, 37, 38, 39, 40, 41, 42, 43, 44, 45, 46, 408, 409, 410, 411, 395, 396, 397, 398, 399, 405, 406, 407] (by decide +kernel) (by decide +kernel)) (goodIn_sub (fun _ h => List.mem_cons_of_mem _ (List.mem_append_left _ (List.mem_append_left _ (List.mem_append_right _ h)))) (by decide +kernel))
set_option maxRecDepth 20000 in
theorem gL_isSo_X4_units : GoodIn wsL_isSo (wsV RL 109 RX4 yX4_units wsX4_units) := goodIn_app (goodIn_of _ (by decide +kernel)) ggL_isSo_X4_units
set_option maxRecDepth 20000 in
theorem ggL_isSo_X4_wealth : GoodIn wsL_isSo wsX4_wealth := goodIn_ca (goodIn_r _ [73, 13, 14, 15, 9, 16, 17, 18, 19, 20, 21, 22, 23, 24, 25, 26, 27, 28, 29, 30, 31, 32, 33, 34, 35, 36, 37, 38, 39, 40, 41, 42, 43, 44, 45, 46, 74, 75, 76, 12, 63, 64, 77, 78, 79, 52, 80, 81, 82, 83, 84, 85, 395, 396, 397, 398, 399, 405, 406, 407, 400, 401, 402, 403, 404, 412, 413, 414, 415, 408, 409, 410, 411] (by decide +kernel) (by decide +kernel)) (goodIn_sub (fun _ h => List.mem_cons_of_mem _ (List.mem_append_left _ (List.mem_append_left _ (List.mem_append_right _ h)))) (by decide +kernel))
set_option maxRecDepth 20000 in
theorem gL_isSo_X4_wealth : GoodIn wsL_isSo (wsV RL 112 RX4 yX4_wealth wsX4_wealth) := goodIn_app (goodIn_of _ (by decide +kernel)) ggL_isSo_X4_wealth
set_option maxRecDepth 20000 in
theorem ggL_isSo_L_wealth : GoodIn wsL_isSo wsL_wealth := goodIn_r _ [89, 1] (by decide +kernel) (by decide +kernel)
set_option maxRecDepth 20000 in
theorem gL_isSo_L_wealth : GoodIn wsL_isSo (va_wsS RL 98 yL_wealth wsL_wealth) := goodIn_app (goodIn_of _ (by decide +kernel)) ggL_isSo_L_wealth
set_option maxRecDepth 20000 in
theorem ggL_isSo_X4_tradeOf : GoodIn wsL_isSo wsX4_tradeOf := goodIn_ca (goodIn_ca (goodIn_r _ [93, 94, 95, 96, 80, 97, 98, 99, 100, 101, 102, 103, 104, 105, 9, 106, 107, 108, 19, 20, 21, 22, 23, 24, 25, 26, 27, 28, 29, 30, 31, 32, 33, 34, 35, 36, 37, 38, 39, 40, 41, 42, 43, 44, 45, 46, 109, 110, 111, 112, 113, 416, 417, 418, 419, 420, 421, 422, 423, 424, 412, 413, 414, 415, 400, 401, 402, 403, 404, 408, 409, 410, 411, 395, 396, 397, 398, 399, 405, 406, 407] (by decide +kernel) (by decide +kernel)) (goodIn_sub (fun _ h => List.mem_cons_of_mem _ (List.mem_append_left _ (List.mem_append_left _ (List.mem_append_right _ h)))) (by decide +kernel))) (goodIn_sub (fun _ h => List.mem_cons_of_mem _ (List.mem_append_left _ (List.mem_append_right _ h))) (by decide +kernel))
set_option maxRecDepth 20000 in
theorem gL_isSo_X4_tradeOf : GoodIn wsL_isSo (wsV RL 43 RX4 yX4_tradeOf wsX4_tradeOf) := goodIn_app (goodIn_of _ (by decide +kernel)) ggL_isSo_X4_tradeOf
set_option maxRecDepth 20000 in
theorem ggL_isSo_L_costs : GoodIn wsL_isSo wsL_costs := goodIn_r _ [116, 117, 118, 119, 120, 121] (by decide +kernel) (by decide +kernel)
set_option maxRecDepth 20000 in
theorem gL_isSo_L_costs : GoodIn wsL_isSo (va_wsS RL 83 yL_costs wsL_costs) := goodIn_app (goodIn_of _ (by decide +kernel)) ggL_isSo_L_costs
set_option maxRecDepth 20000 in
theorem ggL_isSo_L_taxes : GoodIn wsL_isSo wsL_taxes := goodIn_r _ [124, 125, 126, 88, 127, 2, 114, 115, 116, 117, 118, 119, 120, 121] (by decide +kernel) (by decide +kernel)
set_option maxRecDepth 20000 in
theorem gL_isSo_L_taxes : GoodIn wsL_isSo (va_wsS RL 114 yL_taxes wsL_taxes) := goodIn_app (goodIn_of _ (by decide +kernel)) ggL_isSo_L_taxes
set_option maxRecDepth 20000 in
theorem ggL_isSo_X4_year : GoodIn wsL_isSo wsX4_year := goodIn_ca (goodIn_ca (goodIn_r _ [131, 132, 133, 134, 13, 14, 15, 9, 16, 17, 18, 19, 20, 21, 22, 23, 24, 25, 26, 27, 28, 29, 30, 31, 32, 33, 34, 35, 36, 37, 38, 39, 40, 41, 42, 43, 44, 45, 46, 109, 110, 111, 112, 113, 135, 136, 137, 138, 139, 140, 141, 142, 143, 144, 400, 401, 402, 403, 404, 395, 396, 397, 398, 399, 405, 406, 407] (by decide +kernel) (by decide +kernel)) (goodIn_sub (fun _ h => List.mem_cons_of_mem _ (List.mem_append_left _ (List.mem_append_left _ (List.mem_append_right _ h)))) (by decide +kernel))) (goodIn_sub (fun _ h => List.mem_cons_of_mem _ (List.mem_append_left _ (List.mem_append_right _ h))) (by decide +kernel))
set_option maxRecDepth 20000 in
theorem gL_isSo_X4_year : GoodIn wsL_isSo (wsV RL 46 RX4 yX4_year wsX4_year) := goodIn_app (goodIn_of _ (by decide +kernel)) ggL_isSo_X4_year
set_option maxRecDepth 20000 in
theorem ggL_isSo_L_goes : GoodIn wsL_isSo wsL_goes := goodIn_r _ [127, 2, 114, 115, 88, 116, 117, 118, 119, 120, 121] (by decide +kernel) (by decide +kernel)
set_option maxRecDepth 20000 in
theorem gL_isSo_L_goes : GoodIn wsL_isSo (va_wsS RL 94 yL_goes wsL_goes) := goodIn_app (goodIn_of _ (by decide +kernel)) ggL_isSo_L_goes
set_option maxRecDepth 20000 in
theorem ggL_isSo_X4_lot : GoodIn wsL_isSo wsX4_lot := goodIn_ca (goodIn_ca (goodIn_r _ [148, 107, 108, 94, 149, 150, 151, 152, 59, 60, 61, 9, 62, 63, 64, 13, 14, 15, 16, 17, 18, 19, 20, 21, 22, 23, 24, 25, 26, 27, 28, 29, 30, 31, 32, 33, 34, 35, 36, 37, 38, 39, 40, 41, 42, 43, 44, 45, 46, 109, 110, 111, 112, 113, 395, 396, 397, 398, 399, 416, 417, 418, 419, 420, 421, 422, 423, 424, 400, 401, 402, 403, 404, 405, 406, 407] (by decide +kernel) (by decide +kernel)) (goodIn_sub (fun _ h => List.mem_cons_of_mem _ (List.mem_append_left _ (List.mem_append_left _ (List.mem_append_right _ h)))) (by decide +kernel))) (goodIn_sub (fun _ h => List.mem_cons_of_mem _ (List.mem_append_left _ (List.mem_append_right _ h))) (by decide +kernel))
set_option maxRecDepth 20000 in
theorem gL_isSo_X4_lot : GoodIn wsL_isSo (wsV RL 50 RX4 yX4_lot wsX4_lot) := goodIn_app (goodIn_of _ (by decide +kernel)) ggL_isSo_X4_lot
set_option maxRecDepth 20000 in
theorem ggL_isSo_L_does : GoodIn wsL_isSo wsL_does := goodIn_ca (goodIn_ca (goodIn_ca (goodIn_r _ [155, 156, 157, 158, 5, 159, 160, 161, 162, 163, 9, 164, 165, 84, 53, 54, 55, 56, 57, 58, 19, 20, 21, 22, 23, 24, 25, 26, 27, 28, 29, 30, 31, 32, 33, 34, 35, 36, 37, 38, 39, 40, 41, 42, 43, 44, 45, 46, 109, 110, 111, 112, 113, 166, 167, 168, 169, 17, 170, 171, 172, 63, 173, 174, 175, 176, 177, 178, 179, 180, 181, 182, 183, 184, 185, 186, 187, 188, 189, 190, 191, 192, 193, 194, 195, 196, 197, 198, 199, 200, 201, 202, 203, 204, 205, 206, 207, 208, 209, 210, 211, 212, 213, 214, 215, 216, 217, 218, 219, 220, 221, 222, 223, 224, 225, 226, 227, 228, 229, 230, 231, 232, 233, 140, 234, 235, 236, 237, 238, 239, 240, 241, 242, 243, 244, 245, 246, 247, 248, 249, 250, 251, 252, 253, 254, 255, 256, 257, 258, 259, 260, 261, 262, 263, 264, 265, 266, 267, 268, 269, 270, 12, 13, 14, 15, 16, 18, 271, 272, 273, 274, 95, 275, 59, 60, 61, 62, 64, 276, 277, 278, 279, 280, 281, 282, 107, 80, 283, 284, 285, 85, 286, 287, 288, 289, 290, 291, 292, 293, 294, 295, 296, 297, 298, 299, 300, 301, 150, 302, 303, 304, 305, 306, 307, 308, 309, 310, 311, 312, 313, 314, 315, 316, 317, 318, 319, 320, 321, 322, 323, 324, 11, 52, 51, 325, 326, 327, 328, 329, 69, 330, 331, 332, 333, 94, 101, 98, 149, 151, 334, 335, 336, 337, 338, 339, 340, 341, 108, 138, 139, 141, 342, 343, 344, 132, 345, 346, 347, 348, 349, 350, 81, 82, 83, 351, 352, 353, 354, 355, 74, 75, 76, 77, 78, 79, 356, 357, 358, 359, 360, 361, 362, 363, 364, 365, 366, 367, 368, 369, 370, 371, 102, 103, 104, 105, 106, 372, 373, 374, 375, 376, 377, 378, 379, 380, 381, 382, 383, 384, 385, 386, 133, 134, 135, 136, 137, 142, 143, 144, 387, 388, 389, 390, 391, 392, 393, 394, 90, 91, 92, 93, 96, 97, 99, 100, 128, 129, 130, 131, 145, 146, 147, 148, 152, 47, 48, 49, 50, 408, 409, 410, 411, 395, 396, 397, 398, 399, 405, 406, 407, 400, 401, 402, 403, 404, 412, 413, 414, 415, 416, 417, 418, 419, 420, 421, 422, 423, 424] (by decide +kernel) (by decide +kernel)) (goodIn_sub (fun _ h => List.mem_cons_of_mem _ (List.mem_append_left _ (List.mem_append_left _ (List.mem_append_right _ h)))) (by decide +kernel))) (goodIn_sub (fun _ h => List.mem_cons_of_mem _ (List.mem_append_left _ (List.mem_append_right _ h))) (by decide +kernel))) (goodIn_sub (fun _ h => List.mem_cons_of_mem _ (List.mem_append_right _ h)) (by decide +kernel))
set_option maxRecDepth 20000 in
theorem gL_isSo_L_does : GoodIn wsL_isSo (va_wsS RL 122 yL_does wsL_does) := goodIn_app (goodIn_of _ (by decide +kernel)) ggL_isSo_L_does
theorem dL_isSo_0 : decode cL_isSo 0 = .ok (.aload_n 0, 1) := by decide +kernel
theorem dL_isSo_1 : decode cL_isSo 1 = .ok (.iconst (-1), 1) := by decide +kernel
theorem dL_isSo_2 : decode cL_isSo 2 = .ok (.invokevirtual 106, 3) := by decide +kernel
theorem dL_isSo_5 : decode cL_isSo 5 = .ok (.aload_n 2, 1) := by decide +kernel
theorem dL_isSo_6 : decode cL_isSo 6 = .ok (.bipush 15, 2) := by decide +kernel
theorem dL_isSo_8 : decode cL_isSo 8 = .ok (.laload, 1) := by decide +kernel
theorem dL_isSo_9 : decode cL_isSo 9 = .ok (.lcmp, 1) := by decide +kernel
theorem dL_isSo_10 : decode cL_isSo 10 = .ok (.ifCond .ne 7, 3) := by decide +kernel
theorem dL_isSo_13 : decode cL_isSo 13 = .ok (.iconst 1, 1) := by decide +kernel
theorem dL_isSo_14 : decode cL_isSo 14 = .ok (.goto 4, 3) := by decide +kernel
theorem dL_isSo_17 : decode cL_isSo 17 = .ok (.iconst 0, 1) := by decide +kernel
theorem dL_isSo_18 : decode cL_isSo 18 = .ok (.istore 13, 2) := by decide +kernel
theorem dL_isSo_20 : decode cL_isSo 20 = .ok (.iconst 0, 1) := by decide +kernel
theorem dL_isSo_21 : decode cL_isSo 21 = .ok (.istore 14, 2) := by decide +kernel
theorem dL_isSo_23 : decode cL_isSo 23 = .ok (.iload 14, 2) := by decide +kernel
theorem dL_isSo_25 : decode cL_isSo 25 = .ok (.bipush 6, 2) := by decide +kernel
theorem dL_isSo_27 : decode cL_isSo 27 = .ok (.if_icmp .ge 148, 3) := by decide +kernel
theorem dL_isSo_30 : decode cL_isSo 30 = .ok (.iload 13, 2) := by decide +kernel
theorem dL_isSo_32 : decode cL_isSo 32 = .ok (.ifCond .eq 143, 3) := by decide +kernel
theorem dL_isSo_35 : decode cL_isSo 35 = .ok (.aload_n 2, 1) := by decide +kernel
theorem dL_isSo_36 : decode cL_isSo 36 = .ok (.bipush 6, 2) := by decide +kernel
theorem dL_isSo_38 : decode cL_isSo 38 = .ok (.iload 14, 2) := by decide +kernel
theorem dL_isSo_40 : decode cL_isSo 40 = .ok (.iadd, 1) := by decide +kernel
theorem dL_isSo_41 : decode cL_isSo 41 = .ok (.laload, 1) := by decide +kernel
theorem dL_isSo_42 : decode cL_isSo 42 = .ok (.lstore 15, 2) := by decide +kernel
theorem dL_isSo_44 : decode cL_isSo 44 = .ok (.iconst 0, 1) := by decide +kernel
theorem dL_isSo_45 : decode cL_isSo 45 = .ok (.istore 17, 2) := by decide +kernel
theorem dL_isSo_47 : decode cL_isSo 47 = .ok (.iload 17, 2) := by decide +kernel
theorem dL_isSo_49 : decode cL_isSo 49 = .ok (.aload 7, 2) := by decide +kernel
theorem dL_isSo_51 : decode cL_isSo 51 = .ok (.iconst 1, 1) := by decide +kernel
theorem dL_isSo_52 : decode cL_isSo 52 = .ok (.iaload, 1) := by decide +kernel
theorem dL_isSo_53 : decode cL_isSo 53 = .ok (.if_icmp .ge 58, 3) := by decide +kernel
theorem dL_isSo_56 : decode cL_isSo 56 = .ok (.iload 13, 2) := by decide +kernel
theorem dL_isSo_58 : decode cL_isSo 58 = .ok (.ifCond .eq 53, 3) := by decide +kernel
theorem dL_isSo_61 : decode cL_isSo 61 = .ok (.lload 15, 2) := by decide +kernel
theorem dL_isSo_63 : decode cL_isSo 63 = .ok (.aload_n 3, 1) := by decide +kernel
theorem dL_isSo_64 : decode cL_isSo 64 = .ok (.bipush 6, 2) := by decide +kernel
theorem dL_isSo_66 : decode cL_isSo 66 = .ok (.iload 17, 2) := by decide +kernel
theorem dL_isSo_68 : decode cL_isSo 68 = .ok (.imul, 1) := by decide +kernel
theorem dL_isSo_69 : decode cL_isSo 69 = .ok (.iload 14, 2) := by decide +kernel
theorem dL_isSo_71 : decode cL_isSo 71 = .ok (.iadd, 1) := by decide +kernel
theorem dL_isSo_72 : decode cL_isSo 72 = .ok (.laload, 1) := by decide +kernel
theorem dL_isSo_73 : decode cL_isSo 73 = .ok (.ladd, 1) := by decide +kernel
theorem dL_isSo_74 : decode cL_isSo 74 = .ok (.lstore 15, 2) := by decide +kernel
theorem dL_isSo_76 : decode cL_isSo 76 = .ok (.aload_n 0, 1) := by decide +kernel
theorem dL_isSo_77 : decode cL_isSo 77 = .ok (.iload 17, 2) := by decide +kernel
theorem dL_isSo_79 : decode cL_isSo 79 = .ok (.iload 14, 2) := by decide +kernel
theorem dL_isSo_81 : decode cL_isSo 81 = .ok (.invokevirtual 54, 3) := by decide +kernel
theorem dL_isSo_84 : decode cL_isSo 84 = .ok (.aload_n 3, 1) := by decide +kernel
theorem dL_isSo_85 : decode cL_isSo 85 = .ok (.bipush 6, 2) := by decide +kernel
theorem dL_isSo_87 : decode cL_isSo 87 = .ok (.iload 17, 2) := by decide +kernel
theorem dL_isSo_89 : decode cL_isSo 89 = .ok (.imul, 1) := by decide +kernel
theorem dL_isSo_90 : decode cL_isSo 90 = .ok (.iload 14, 2) := by decide +kernel
theorem dL_isSo_92 : decode cL_isSo 92 = .ok (.iadd, 1) := by decide +kernel
theorem dL_isSo_93 : decode cL_isSo 93 = .ok (.laload, 1) := by decide +kernel
theorem dL_isSo_94 : decode cL_isSo 94 = .ok (.lcmp, 1) := by decide +kernel
theorem dL_isSo_95 : decode cL_isSo 95 = .ok (.ifCond .ne 7, 3) := by decide +kernel
theorem dL_isSo_98 : decode cL_isSo 98 = .ok (.iconst 1, 1) := by decide +kernel
theorem dL_isSo_99 : decode cL_isSo 99 = .ok (.goto 4, 3) := by decide +kernel
theorem dL_isSo_102 : decode cL_isSo 102 = .ok (.iconst 0, 1) := by decide +kernel
theorem dL_isSo_103 : decode cL_isSo 103 = .ok (.istore 13, 2) := by decide +kernel
theorem dL_isSo_105 : decode cL_isSo 105 = .ok (.iinc 17 1, 3) := by decide +kernel
theorem dL_isSo_108 : decode cL_isSo 108 = .ok (.goto (-61), 3) := by decide +kernel
theorem dL_isSo_111 : decode cL_isSo 111 = .ok (.iload 13, 2) := by decide +kernel
theorem dL_isSo_113 : decode cL_isSo 113 = .ok (.ifCond .eq 53, 3) := by decide +kernel
theorem dL_isSo_116 : decode cL_isSo 116 = .ok (.aload_n 0, 1) := by decide +kernel
theorem dL_isSo_117 : decode cL_isSo 117 = .ok (.iload 14, 2) := by decide +kernel
theorem dL_isSo_119 : decode cL_isSo 119 = .ok (.invokevirtual 109, 3) := by decide +kernel
theorem dL_isSo_122 : decode cL_isSo 122 = .ok (.aload_n 2, 1) := by decide +kernel
theorem dL_isSo_123 : decode cL_isSo 123 = .ok (.iload 14, 2) := by decide +kernel
theorem dL_isSo_125 : decode cL_isSo 125 = .ok (.laload, 1) := by decide +kernel
theorem dL_isSo_126 : decode cL_isSo 126 = .ok (.lcmp, 1) := by decide +kernel
theorem dL_isSo_127 : decode cL_isSo 127 = .ok (.ifCond .ne 39, 3) := by decide +kernel
theorem dL_isSo_130 : decode cL_isSo 130 = .ok (.aload_n 0, 1) := by decide +kernel
theorem dL_isSo_131 : decode cL_isSo 131 = .ok (.iconst (-1), 1) := by decide +kernel
theorem dL_isSo_132 : decode cL_isSo 132 = .ok (.iload 14, 2) := by decide +kernel
theorem dL_isSo_134 : decode cL_isSo 134 = .ok (.invokevirtual 54, 3) := by decide +kernel
theorem dL_isSo_137 : decode cL_isSo 137 = .ok (.aload_n 2, 1) := by decide +kernel
theorem dL_isSo_138 : decode cL_isSo 138 = .ok (.bipush 6, 2) := by decide +kernel
theorem dL_isSo_140 : decode cL_isSo 140 = .ok (.iload 14, 2) := by decide +kernel
theorem dL_isSo_142 : decode cL_isSo 142 = .ok (.iadd, 1) := by decide +kernel
theorem dL_isSo_143 : decode cL_isSo 143 = .ok (.laload, 1) := by decide +kernel
theorem dL_isSo_144 : decode cL_isSo 144 = .ok (.lcmp, 1) := by decide +kernel
theorem dL_isSo_145 : decode cL_isSo 145 = .ok (.ifCond .ne 21, 3) := by decide +kernel
theorem dL_isSo_148 : decode cL_isSo 148 = .ok (.lload 15, 2) := by decide +kernel
theorem dL_isSo_150 : decode cL_isSo 150 = .ok (.ldc2_w 81, 3) := by decide +kernel
theorem dL_isSo_153 : decode cL_isSo 153 = .ok (.aload_n 2, 1) := by decide +kernel
theorem dL_isSo_154 : decode cL_isSo 154 = .ok (.iload 14, 2) := by decide +kernel
theorem dL_isSo_156 : decode cL_isSo 156 = .ok (.laload, 1) := by decide +kernel
theorem dL_isSo_157 : decode cL_isSo 157 = .ok (.lmul, 1) := by decide +kernel
theorem dL_isSo_158 : decode cL_isSo 158 = .ok (.lcmp, 1) := by decide +kernel
theorem dL_isSo_159 : decode cL_isSo 159 = .ok (.ifCond .ne 7, 3) := by decide +kernel
theorem dL_isSo_162 : decode cL_isSo 162 = .ok (.iconst 1, 1) := by decide +kernel
theorem dL_isSo_163 : decode cL_isSo 163 = .ok (.goto 4, 3) := by decide +kernel
theorem dL_isSo_166 : decode cL_isSo 166 = .ok (.iconst 0, 1) := by decide +kernel
theorem dL_isSo_167 : decode cL_isSo 167 = .ok (.istore 13, 2) := by decide +kernel
theorem dL_isSo_169 : decode cL_isSo 169 = .ok (.iinc 14 1, 3) := by decide +kernel
theorem dL_isSo_172 : decode cL_isSo 172 = .ok (.goto (-149), 3) := by decide +kernel
theorem dL_isSo_175 : decode cL_isSo 175 = .ok (.iconst 0, 1) := by decide +kernel
theorem dL_isSo_176 : decode cL_isSo 176 = .ok (.istore 14, 2) := by decide +kernel
theorem dL_isSo_178 : decode cL_isSo 178 = .ok (.iload 14, 2) := by decide +kernel
theorem dL_isSo_180 : decode cL_isSo 180 = .ok (.aload 7, 2) := by decide +kernel
theorem dL_isSo_182 : decode cL_isSo 182 = .ok (.iconst 1, 1) := by decide +kernel
theorem dL_isSo_183 : decode cL_isSo 183 = .ok (.iaload, 1) := by decide +kernel
theorem dL_isSo_184 : decode cL_isSo 184 = .ok (.if_icmp .ge 56, 3) := by decide +kernel
theorem dL_isSo_187 : decode cL_isSo 187 = .ok (.iload 13, 2) := by decide +kernel
theorem dL_isSo_189 : decode cL_isSo 189 = .ok (.ifCond .eq 51, 3) := by decide +kernel
theorem dL_isSo_192 : decode cL_isSo 192 = .ok (.aload_n 0, 1) := by decide +kernel
theorem dL_isSo_193 : decode cL_isSo 193 = .ok (.iload 14, 2) := by decide +kernel
theorem dL_isSo_195 : decode cL_isSo 195 = .ok (.invokevirtual 106, 3) := by decide +kernel
theorem dL_isSo_198 : decode cL_isSo 198 = .ok (.aload_n 2, 1) := by decide +kernel
theorem dL_isSo_199 : decode cL_isSo 199 = .ok (.bipush 12, 2) := by decide +kernel
theorem dL_isSo_201 : decode cL_isSo 201 = .ok (.iload 14, 2) := by decide +kernel
theorem dL_isSo_203 : decode cL_isSo 203 = .ok (.iadd, 1) := by decide +kernel
theorem dL_isSo_204 : decode cL_isSo 204 = .ok (.laload, 1) := by decide +kernel
theorem dL_isSo_205 : decode cL_isSo 205 = .ok (.lcmp, 1) := by decide +kernel
theorem dL_isSo_206 : decode cL_isSo 206 = .ok (.ifCond .ne 25, 3) := by decide +kernel
theorem dL_isSo_209 : decode cL_isSo 209 = .ok (.aload_n 0, 1) := by decide +kernel
theorem dL_isSo_210 : decode cL_isSo 210 = .ok (.iload 14, 2) := by decide +kernel
theorem dL_isSo_212 : decode cL_isSo 212 = .ok (.invokevirtual 112, 3) := by decide +kernel
theorem dL_isSo_215 : decode cL_isSo 215 = .ok (.aload_n 1, 1) := by decide +kernel
theorem dL_isSo_216 : decode cL_isSo 216 = .ok (.aload_n 2, 1) := by decide +kernel
theorem dL_isSo_217 : decode cL_isSo 217 = .ok (.aload_n 3, 1) := by decide +kernel
theorem dL_isSo_218 : decode cL_isSo 218 = .ok (.iload 14, 2) := by decide +kernel
theorem dL_isSo_220 : decode cL_isSo 220 = .ok (.invokestatic 98, 3) := by decide +kernel
theorem dL_isSo_223 : decode cL_isSo 223 = .ok (.lcmp, 1) := by decide +kernel
theorem dL_isSo_224 : decode cL_isSo 224 = .ok (.ifCond .ne 7, 3) := by decide +kernel
theorem dL_isSo_227 : decode cL_isSo 227 = .ok (.iconst 1, 1) := by decide +kernel
theorem dL_isSo_228 : decode cL_isSo 228 = .ok (.goto 4, 3) := by decide +kernel
theorem dL_isSo_231 : decode cL_isSo 231 = .ok (.iconst 0, 1) := by decide +kernel
theorem dL_isSo_232 : decode cL_isSo 232 = .ok (.istore 13, 2) := by decide +kernel
theorem dL_isSo_234 : decode cL_isSo 234 = .ok (.iinc 14 1, 3) := by decide +kernel
theorem dL_isSo_237 : decode cL_isSo 237 = .ok (.goto (-59), 3) := by decide +kernel
theorem dL_isSo_240 : decode cL_isSo 240 = .ok (.iload 12, 2) := by decide +kernel
theorem dL_isSo_242 : decode cL_isSo 242 = .ok (.iconst 4, 1) := by decide +kernel
theorem dL_isSo_243 : decode cL_isSo 243 = .ok (.irem, 1) := by decide +kernel
theorem dL_isSo_244 : decode cL_isSo 244 = .ok (.istore 14, 2) := by decide +kernel
theorem dL_isSo_246 : decode cL_isSo 246 = .ok (.iload 14, 2) := by decide +kernel
theorem dL_isSo_248 : decode cL_isSo 248 = .ok (.aload 7, 2) := by decide +kernel
theorem dL_isSo_250 : decode cL_isSo 250 = .ok (.iconst 2, 1) := by decide +kernel
theorem dL_isSo_251 : decode cL_isSo 251 = .ok (.iaload, 1) := by decide +kernel
theorem dL_isSo_252 : decode cL_isSo 252 = .ok (.if_icmp .ge 164, 3) := by decide +kernel
theorem dL_isSo_255 : decode cL_isSo 255 = .ok (.iload 13, 2) := by decide +kernel
theorem dL_isSo_257 : decode cL_isSo 257 = .ok (.ifCond .eq 159, 3) := by decide +kernel
theorem dL_isSo_260 : decode cL_isSo 260 = .ok (.aload_n 0, 1) := by decide +kernel
theorem dL_isSo_261 : decode cL_isSo 261 = .ok (.iload 14, 2) := by decide +kernel
theorem dL_isSo_263 : decode cL_isSo 263 = .ok (.iconst 0, 1) := by decide +kernel
theorem dL_isSo_264 : decode cL_isSo 264 = .ok (.invokevirtual 43, 3) := by decide +kernel
theorem dL_isSo_267 : decode cL_isSo 267 = .ok (.aload 4, 2) := by decide +kernel
theorem dL_isSo_269 : decode cL_isSo 269 = .ok (.iload 14, 2) := by decide +kernel
theorem dL_isSo_271 : decode cL_isSo 271 = .ok (.iaload, 1) := by decide +kernel
theorem dL_isSo_272 : decode cL_isSo 272 = .ok (.iconst 4, 1) := by decide +kernel
theorem dL_isSo_273 : decode cL_isSo 273 = .ok (.irem, 1) := by decide +kernel
theorem dL_isSo_274 : decode cL_isSo 274 = .ok (.i2l, 1) := by decide +kernel
theorem dL_isSo_275 : decode cL_isSo 275 = .ok (.lcmp, 1) := by decide +kernel
theorem dL_isSo_276 : decode cL_isSo 276 = .ok (.ifCond .ne 131, 3) := by decide +kernel
theorem dL_isSo_279 : decode cL_isSo 279 = .ok (.aload_n 0, 1) := by decide +kernel
theorem dL_isSo_280 : decode cL_isSo 280 = .ok (.iload 14, 2) := by decide +kernel
theorem dL_isSo_282 : decode cL_isSo 282 = .ok (.iconst 1, 1) := by decide +kernel
theorem dL_isSo_283 : decode cL_isSo 283 = .ok (.invokevirtual 43, 3) := by decide +kernel
theorem dL_isSo_286 : decode cL_isSo 286 = .ok (.aload 4, 2) := by decide +kernel
theorem dL_isSo_288 : decode cL_isSo 288 = .ok (.iload 14, 2) := by decide +kernel
theorem dL_isSo_290 : decode cL_isSo 290 = .ok (.iaload, 1) := by decide +kernel
theorem dL_isSo_291 : decode cL_isSo 291 = .ok (.iconst 4, 1) := by decide +kernel
theorem dL_isSo_292 : decode cL_isSo 292 = .ok (.idiv, 1) := by decide +kernel
theorem dL_isSo_293 : decode cL_isSo 293 = .ok (.bipush 8, 2) := by decide +kernel
theorem dL_isSo_295 : decode cL_isSo 295 = .ok (.irem, 1) := by decide +kernel
theorem dL_isSo_296 : decode cL_isSo 296 = .ok (.i2l, 1) := by decide +kernel
theorem dL_isSo_297 : decode cL_isSo 297 = .ok (.lcmp, 1) := by decide +kernel
theorem dL_isSo_298 : decode cL_isSo 298 = .ok (.ifCond .ne 109, 3) := by decide +kernel
theorem dL_isSo_301 : decode cL_isSo 301 = .ok (.aload_n 0, 1) := by decide +kernel
theorem dL_isSo_302 : decode cL_isSo 302 = .ok (.iload 14, 2) := by decide +kernel
theorem dL_isSo_304 : decode cL_isSo 304 = .ok (.iconst 2, 1) := by decide +kernel
theorem dL_isSo_305 : decode cL_isSo 305 = .ok (.invokevirtual 43, 3) := by decide +kernel
theorem dL_isSo_308 : decode cL_isSo 308 = .ok (.aload 5, 2) := by decide +kernel
theorem dL_isSo_310 : decode cL_isSo 310 = .ok (.iload 14, 2) := by decide +kernel
theorem dL_isSo_312 : decode cL_isSo 312 = .ok (.laload, 1) := by decide +kernel
theorem dL_isSo_313 : decode cL_isSo 313 = .ok (.lcmp, 1) := by decide +kernel
theorem dL_isSo_314 : decode cL_isSo 314 = .ok (.ifCond .ne 93, 3) := by decide +kernel
theorem dL_isSo_317 : decode cL_isSo 317 = .ok (.aload_n 0, 1) := by decide +kernel
theorem dL_isSo_318 : decode cL_isSo 318 = .ok (.iload 14, 2) := by decide +kernel
theorem dL_isSo_320 : decode cL_isSo 320 = .ok (.iconst 3, 1) := by decide +kernel
theorem dL_isSo_321 : decode cL_isSo 321 = .ok (.invokevirtual 43, 3) := by decide +kernel
theorem dL_isSo_324 : decode cL_isSo 324 = .ok (.aload 6, 2) := by decide +kernel
theorem dL_isSo_326 : decode cL_isSo 326 = .ok (.iload 14, 2) := by decide +kernel
theorem dL_isSo_328 : decode cL_isSo 328 = .ok (.laload, 1) := by decide +kernel
theorem dL_isSo_329 : decode cL_isSo 329 = .ok (.lcmp, 1) := by decide +kernel
theorem dL_isSo_330 : decode cL_isSo 330 = .ok (.ifCond .ne 77, 3) := by decide +kernel
theorem dL_isSo_333 : decode cL_isSo 333 = .ok (.aload_n 0, 1) := by decide +kernel
theorem dL_isSo_334 : decode cL_isSo 334 = .ok (.iload 14, 2) := by decide +kernel
theorem dL_isSo_336 : decode cL_isSo 336 = .ok (.iconst 4, 1) := by decide +kernel
theorem dL_isSo_337 : decode cL_isSo 337 = .ok (.invokevirtual 43, 3) := by decide +kernel
theorem dL_isSo_340 : decode cL_isSo 340 = .ok (.aload 6, 2) := by decide +kernel
theorem dL_isSo_342 : decode cL_isSo 342 = .ok (.iload 14, 2) := by decide +kernel
theorem dL_isSo_344 : decode cL_isSo 344 = .ok (.laload, 1) := by decide +kernel
theorem dL_isSo_345 : decode cL_isSo 345 = .ok (.invokestatic 83, 3) := by decide +kernel
theorem dL_isSo_348 : decode cL_isSo 348 = .ok (.lcmp, 1) := by decide +kernel
theorem dL_isSo_349 : decode cL_isSo 349 = .ok (.ifCond .ne 58, 3) := by decide +kernel
theorem dL_isSo_352 : decode cL_isSo 352 = .ok (.aload_n 0, 1) := by decide +kernel
theorem dL_isSo_353 : decode cL_isSo 353 = .ok (.iload 14, 2) := by decide +kernel
theorem dL_isSo_355 : decode cL_isSo 355 = .ok (.iconst 5, 1) := by decide +kernel
theorem dL_isSo_356 : decode cL_isSo 356 = .ok (.invokevirtual 43, 3) := by decide +kernel
theorem dL_isSo_359 : decode cL_isSo 359 = .ok (.aload 4, 2) := by decide +kernel
theorem dL_isSo_361 : decode cL_isSo 361 = .ok (.iload 14, 2) := by decide +kernel
theorem dL_isSo_363 : decode cL_isSo 363 = .ok (.iaload, 1) := by decide +kernel
theorem dL_isSo_364 : decode cL_isSo 364 = .ok (.ldc 93, 2) := by decide +kernel
theorem dL_isSo_366 : decode cL_isSo 366 = .ok (.irem, 1) := by decide +kernel
theorem dL_isSo_367 : decode cL_isSo 367 = .ok (.bipush 32, 2) := by decide +kernel
theorem dL_isSo_369 : decode cL_isSo 369 = .ok (.idiv, 1) := by decide +kernel
theorem dL_isSo_370 : decode cL_isSo 370 = .ok (.i2l, 1) := by decide +kernel
theorem dL_isSo_371 : decode cL_isSo 371 = .ok (.lcmp, 1) := by decide +kernel
theorem dL_isSo_372 : decode cL_isSo 372 = .ok (.ifCond .ne 35, 3) := by decide +kernel
theorem dL_isSo_375 : decode cL_isSo 375 = .ok (.aload_n 0, 1) := by decide +kernel
theorem dL_isSo_376 : decode cL_isSo 376 = .ok (.iload 14, 2) := by decide +kernel
theorem dL_isSo_378 : decode cL_isSo 378 = .ok (.bipush 6, 2) := by decide +kernel
theorem dL_isSo_380 : decode cL_isSo 380 = .ok (.invokevirtual 43, 3) := by decide +kernel
theorem dL_isSo_383 : decode cL_isSo 383 = .ok (.aload 4, 2) := by decide +kernel
theorem dL_isSo_385 : decode cL_isSo 385 = .ok (.iload 14, 2) := by decide +kernel
theorem dL_isSo_387 : decode cL_isSo 387 = .ok (.iaload, 1) := by decide +kernel
theorem dL_isSo_388 : decode cL_isSo 388 = .ok (.ldc 93, 2) := by decide +kernel
theorem dL_isSo_390 : decode cL_isSo 390 = .ok (.if_icmp .ge 7, 3) := by decide +kernel
theorem dL_isSo_393 : decode cL_isSo 393 = .ok (.iconst 1, 1) := by decide +kernel
theorem dL_isSo_394 : decode cL_isSo 394 = .ok (.goto 4, 3) := by decide +kernel
theorem dL_isSo_397 : decode cL_isSo 397 = .ok (.iconst 0, 1) := by decide +kernel
theorem dL_isSo_398 : decode cL_isSo 398 = .ok (.i2l, 1) := by decide +kernel
theorem dL_isSo_399 : decode cL_isSo 399 = .ok (.lcmp, 1) := by decide +kernel
theorem dL_isSo_400 : decode cL_isSo 400 = .ok (.ifCond .ne 7, 3) := by decide +kernel
theorem dL_isSo_403 : decode cL_isSo 403 = .ok (.iconst 1, 1) := by decide +kernel
theorem dL_isSo_404 : decode cL_isSo 404 = .ok (.goto 4, 3) := by decide +kernel
theorem dL_isSo_407 : decode cL_isSo 407 = .ok (.iconst 0, 1) := by decide +kernel
theorem dL_isSo_408 : decode cL_isSo 408 = .ok (.istore 13, 2) := by decide +kernel
theorem dL_isSo_410 : decode cL_isSo 410 = .ok (.iinc 14 4, 3) := by decide +kernel
theorem dL_isSo_413 : decode cL_isSo 413 = .ok (.goto (-167), 3) := by decide +kernel
theorem dL_isSo_416 : decode cL_isSo 416 = .ok (.aload 7, 2) := by decide +kernel
theorem dL_isSo_418 : decode cL_isSo 418 = .ok (.iconst 1, 1) := by decide +kernel
theorem dL_isSo_419 : decode cL_isSo 419 = .ok (.iaload, 1) := by decide +kernel
theorem dL_isSo_420 : decode cL_isSo 420 = .ok (.ifCond .ne 7, 3) := by decide +kernel
theorem dL_isSo_423 : decode cL_isSo 423 = .ok (.iconst 0, 1) := by decide +kernel
theorem dL_isSo_424 : decode cL_isSo 424 = .ok (.goto 10, 3) := by decide +kernel
theorem dL_isSo_427 : decode cL_isSo 427 = .ok (.iload 11, 2) := by decide +kernel
theorem dL_isSo_429 : decode cL_isSo 429 = .ok (.aload 7, 2) := by decide +kernel
theorem dL_isSo_431 : decode cL_isSo 431 = .ok (.iconst 1, 1) := by decide +kernel
theorem dL_isSo_432 : decode cL_isSo 432 = .ok (.iaload, 1) := by decide +kernel
theorem dL_isSo_433 : decode cL_isSo 433 = .ok (.irem, 1) := by decide +kernel
theorem dL_isSo_434 : decode cL_isSo 434 = .ok (.istore 14, 2) := by decide +kernel
theorem dL_isSo_436 : decode cL_isSo 436 = .ok (.aload 4, 2) := by decide +kernel
theorem dL_isSo_438 : decode cL_isSo 438 = .ok (.aload 5, 2) := by decide +kernel
theorem dL_isSo_440 : decode cL_isSo 440 = .ok (.aload 6, 2) := by decide +kernel
theorem dL_isSo_442 : decode cL_isSo 442 = .ok (.aload 7, 2) := by decide +kernel
theorem dL_isSo_444 : decode cL_isSo 444 = .ok (.aload 8, 2) := by decide +kernel
theorem dL_isSo_446 : decode cL_isSo 446 = .ok (.aload 9, 2) := by decide +kernel
theorem dL_isSo_448 : decode cL_isSo 448 = .ok (.iload 14, 2) := by decide +kernel
theorem dL_isSo_450 : decode cL_isSo 450 = .ok (.invokestatic 114, 3) := by decide +kernel
theorem dL_isSo_453 : decode cL_isSo 453 = .ok (.iload 13, 2) := by decide +kernel
theorem dL_isSo_455 : decode cL_isSo 455 = .ok (.ifCond .eq 17, 3) := by decide +kernel
theorem dL_isSo_458 : decode cL_isSo 458 = .ok (.aload 9, 2) := by decide +kernel
theorem dL_isSo_460 : decode cL_isSo 460 = .ok (.bipush 63, 2) := by decide +kernel
theorem dL_isSo_462 : decode cL_isSo 462 = .ok (.laload, 1) := by decide +kernel
theorem dL_isSo_463 : decode cL_isSo 463 = .ok (.lconst 0, 1) := by decide +kernel
theorem dL_isSo_464 : decode cL_isSo 464 = .ok (.lcmp, 1) := by decide +kernel
theorem dL_isSo_465 : decode cL_isSo 465 = .ok (.ifCond .ne 7, 3) := by decide +kernel
theorem dL_isSo_468 : decode cL_isSo 468 = .ok (.iconst 1, 1) := by decide +kernel
theorem dL_isSo_469 : decode cL_isSo 469 = .ok (.goto 4, 3) := by decide +kernel
theorem dL_isSo_472 : decode cL_isSo 472 = .ok (.iconst 0, 1) := by decide +kernel
theorem dL_isSo_473 : decode cL_isSo 473 = .ok (.istore 13, 2) := by decide +kernel
theorem dL_isSo_475 : decode cL_isSo 475 = .ok (.iload 12, 2) := by decide +kernel
theorem dL_isSo_477 : decode cL_isSo 477 = .ok (.iconst 2, 1) := by decide +kernel
theorem dL_isSo_478 : decode cL_isSo 478 = .ok (.irem, 1) := by decide +kernel
theorem dL_isSo_479 : decode cL_isSo 479 = .ok (.istore 15, 2) := by decide +kernel
theorem dL_isSo_481 : decode cL_isSo 481 = .ok (.iload 15, 2) := by decide +kernel
theorem dL_isSo_483 : decode cL_isSo 483 = .ok (.bipush 21, 2) := by decide +kernel
theorem dL_isSo_485 : decode cL_isSo 485 = .ok (.if_icmp .ge 116, 3) := by decide +kernel
theorem dL_isSo_488 : decode cL_isSo 488 = .ok (.iload 13, 2) := by decide +kernel
theorem dL_isSo_490 : decode cL_isSo 490 = .ok (.ifCond .eq 111, 3) := by decide +kernel
theorem dL_isSo_493 : decode cL_isSo 493 = .ok (.aload 7, 2) := by decide +kernel
theorem dL_isSo_495 : decode cL_isSo 495 = .ok (.iconst 1, 1) := by decide +kernel
theorem dL_isSo_496 : decode cL_isSo 496 = .ok (.iaload, 1) := by decide +kernel
theorem dL_isSo_497 : decode cL_isSo 497 = .ok (.ifCond .le 104, 3) := by decide +kernel
theorem dL_isSo_500 : decode cL_isSo 500 = .ok (.aload_n 0, 1) := by decide +kernel
theorem dL_isSo_501 : decode cL_isSo 501 = .ok (.iload 14, 2) := by decide +kernel
theorem dL_isSo_503 : decode cL_isSo 503 = .ok (.iload 15, 2) := by decide +kernel
theorem dL_isSo_505 : decode cL_isSo 505 = .ok (.iconst 0, 1) := by decide +kernel
theorem dL_isSo_506 : decode cL_isSo 506 = .ok (.invokevirtual 46, 3) := by decide +kernel
theorem dL_isSo_509 : decode cL_isSo 509 = .ok (.aload 9, 2) := by decide +kernel
theorem dL_isSo_511 : decode cL_isSo 511 = .ok (.iload 15, 2) := by decide +kernel
theorem dL_isSo_513 : decode cL_isSo 513 = .ok (.laload, 1) := by decide +kernel
theorem dL_isSo_514 : decode cL_isSo 514 = .ok (.lcmp, 1) := by decide +kernel
theorem dL_isSo_515 : decode cL_isSo 515 = .ok (.ifCond .ne 77, 3) := by decide +kernel
theorem dL_isSo_518 : decode cL_isSo 518 = .ok (.aload_n 0, 1) := by decide +kernel
theorem dL_isSo_519 : decode cL_isSo 519 = .ok (.iload 14, 2) := by decide +kernel
theorem dL_isSo_521 : decode cL_isSo 521 = .ok (.iload 15, 2) := by decide +kernel
theorem dL_isSo_523 : decode cL_isSo 523 = .ok (.iconst 1, 1) := by decide +kernel
theorem dL_isSo_524 : decode cL_isSo 524 = .ok (.invokevirtual 46, 3) := by decide +kernel
theorem dL_isSo_527 : decode cL_isSo 527 = .ok (.aload 9, 2) := by decide +kernel
theorem dL_isSo_529 : decode cL_isSo 529 = .ok (.bipush 22, 2) := by decide +kernel
theorem dL_isSo_531 : decode cL_isSo 531 = .ok (.iload 15, 2) := by decide +kernel
theorem dL_isSo_533 : decode cL_isSo 533 = .ok (.iadd, 1) := by decide +kernel
theorem dL_isSo_534 : decode cL_isSo 534 = .ok (.laload, 1) := by decide +kernel
theorem dL_isSo_535 : decode cL_isSo 535 = .ok (.lcmp, 1) := by decide +kernel
theorem dL_isSo_536 : decode cL_isSo 536 = .ok (.ifCond .ne 56, 3) := by decide +kernel
theorem dL_isSo_539 : decode cL_isSo 539 = .ok (.aload_n 0, 1) := by decide +kernel
theorem dL_isSo_540 : decode cL_isSo 540 = .ok (.iload 14, 2) := by decide +kernel
theorem dL_isSo_542 : decode cL_isSo 542 = .ok (.iload 15, 2) := by decide +kernel
theorem dL_isSo_544 : decode cL_isSo 544 = .ok (.iconst 2, 1) := by decide +kernel
theorem dL_isSo_545 : decode cL_isSo 545 = .ok (.invokevirtual 46, 3) := by decide +kernel
theorem dL_isSo_548 : decode cL_isSo 548 = .ok (.aload 9, 2) := by decide +kernel
theorem dL_isSo_550 : decode cL_isSo 550 = .ok (.bipush 22, 2) := by decide +kernel
theorem dL_isSo_552 : decode cL_isSo 552 = .ok (.iload 15, 2) := by decide +kernel
theorem dL_isSo_554 : decode cL_isSo 554 = .ok (.iadd, 1) := by decide +kernel
theorem dL_isSo_555 : decode cL_isSo 555 = .ok (.laload, 1) := by decide +kernel
theorem dL_isSo_556 : decode cL_isSo 556 = .ok (.ldc2_w 118, 3) := by decide +kernel
theorem dL_isSo_559 : decode cL_isSo 559 = .ok (.ldiv, 1) := by decide +kernel
theorem dL_isSo_560 : decode cL_isSo 560 = .ok (.lcmp, 1) := by decide +kernel
theorem dL_isSo_561 : decode cL_isSo 561 = .ok (.ifCond .ne 31, 3) := by decide +kernel
theorem dL_isSo_564 : decode cL_isSo 564 = .ok (.aload_n 0, 1) := by decide +kernel
theorem dL_isSo_565 : decode cL_isSo 565 = .ok (.iload 14, 2) := by decide +kernel
theorem dL_isSo_567 : decode cL_isSo 567 = .ok (.iload 15, 2) := by decide +kernel
theorem dL_isSo_569 : decode cL_isSo 569 = .ok (.iconst 3, 1) := by decide +kernel
theorem dL_isSo_570 : decode cL_isSo 570 = .ok (.invokevirtual 46, 3) := by decide +kernel
theorem dL_isSo_573 : decode cL_isSo 573 = .ok (.aload 10, 2) := by decide +kernel
theorem dL_isSo_575 : decode cL_isSo 575 = .ok (.bipush 21, 2) := by decide +kernel
theorem dL_isSo_577 : decode cL_isSo 577 = .ok (.iload 14, 2) := by decide +kernel
theorem dL_isSo_579 : decode cL_isSo 579 = .ok (.imul, 1) := by decide +kernel
theorem dL_isSo_580 : decode cL_isSo 580 = .ok (.iload 15, 2) := by decide +kernel
theorem dL_isSo_582 : decode cL_isSo 582 = .ok (.iadd, 1) := by decide +kernel
theorem dL_isSo_583 : decode cL_isSo 583 = .ok (.laload, 1) := by decide +kernel
theorem dL_isSo_584 : decode cL_isSo 584 = .ok (.lcmp, 1) := by decide +kernel
theorem dL_isSo_585 : decode cL_isSo 585 = .ok (.ifCond .ne 7, 3) := by decide +kernel
theorem dL_isSo_588 : decode cL_isSo 588 = .ok (.iconst 1, 1) := by decide +kernel
theorem dL_isSo_589 : decode cL_isSo 589 = .ok (.goto 4, 3) := by decide +kernel
theorem dL_isSo_592 : decode cL_isSo 592 = .ok (.iconst 0, 1) := by decide +kernel
theorem dL_isSo_593 : decode cL_isSo 593 = .ok (.istore 13, 2) := by decide +kernel
theorem dL_isSo_595 : decode cL_isSo 595 = .ok (.iinc 15 2, 3) := by decide +kernel
theorem dL_isSo_598 : decode cL_isSo 598 = .ok (.goto (-117), 3) := by decide +kernel
theorem dL_isSo_601 : decode cL_isSo 601 = .ok (.iload 12, 2) := by decide +kernel
theorem dL_isSo_603 : decode cL_isSo 603 = .ok (.bipush 6, 2) := by decide +kernel
theorem dL_isSo_605 : decode cL_isSo 605 = .ok (.irem, 1) := by decide +kernel
theorem dL_isSo_606 : decode cL_isSo 606 = .ok (.istore 15, 2) := by decide +kernel
theorem dL_isSo_608 : decode cL_isSo 608 = .ok (.iconst 0, 1) := by decide +kernel
theorem dL_isSo_609 : decode cL_isSo 609 = .ok (.istore 16, 2) := by decide +kernel
theorem dL_isSo_611 : decode cL_isSo 611 = .ok (.aload 4, 2) := by decide +kernel
theorem dL_isSo_613 : decode cL_isSo 613 = .ok (.aload 5, 2) := by decide +kernel
theorem dL_isSo_615 : decode cL_isSo 615 = .ok (.aload 6, 2) := by decide +kernel
theorem dL_isSo_617 : decode cL_isSo 617 = .ok (.aload 7, 2) := by decide +kernel
theorem dL_isSo_619 : decode cL_isSo 619 = .ok (.aload 8, 2) := by decide +kernel
theorem dL_isSo_621 : decode cL_isSo 621 = .ok (.aload 9, 2) := by decide +kernel
theorem dL_isSo_623 : decode cL_isSo 623 = .ok (.iload 14, 2) := by decide +kernel
theorem dL_isSo_625 : decode cL_isSo 625 = .ok (.iload 15, 2) := by decide +kernel
theorem dL_isSo_627 : decode cL_isSo 627 = .ok (.invokestatic 94, 3) := by decide +kernel
theorem dL_isSo_630 : decode cL_isSo 630 = .ok (.istore 17, 2) := by decide +kernel
theorem dL_isSo_632 : decode cL_isSo 632 = .ok (.iconst 0, 1) := by decide +kernel
theorem dL_isSo_633 : decode cL_isSo 633 = .ok (.istore 18, 2) := by decide +kernel
theorem dL_isSo_635 : decode cL_isSo 635 = .ok (.iload 18, 2) := by decide +kernel
theorem dL_isSo_637 : decode cL_isSo 637 = .ok (.aload 7, 2) := by decide +kernel
theorem dL_isSo_639 : decode cL_isSo 639 = .ok (.iconst 2, 1) := by decide +kernel
theorem dL_isSo_640 : decode cL_isSo 640 = .ok (.iaload, 1) := by decide +kernel
theorem dL_isSo_641 : decode cL_isSo 641 = .ok (.if_icmp .ge 102, 3) := by decide +kernel
theorem dL_isSo_644 : decode cL_isSo 644 = .ok (.iload 13, 2) := by decide +kernel
theorem dL_isSo_646 : decode cL_isSo 646 = .ok (.ifCond .eq 97, 3) := by decide +kernel
theorem dL_isSo_649 : decode cL_isSo 649 = .ok (.aload 7, 2) := by decide +kernel
theorem dL_isSo_651 : decode cL_isSo 651 = .ok (.iconst 1, 1) := by decide +kernel
theorem dL_isSo_652 : decode cL_isSo 652 = .ok (.iaload, 1) := by decide +kernel
theorem dL_isSo_653 : decode cL_isSo 653 = .ok (.ifCond .le 90, 3) := by decide +kernel
theorem dL_isSo_656 : decode cL_isSo 656 = .ok (.aload 8, 2) := by decide +kernel
theorem dL_isSo_658 : decode cL_isSo 658 = .ok (.iload 18, 2) := by decide +kernel
theorem dL_isSo_660 : decode cL_isSo 660 = .ok (.laload, 1) := by decide +kernel
theorem dL_isSo_661 : decode cL_isSo 661 = .ok (.lconst 0, 1) := by decide +kernel
theorem dL_isSo_662 : decode cL_isSo 662 = .ok (.lcmp, 1) := by decide +kernel
theorem dL_isSo_663 : decode cL_isSo 663 = .ok (.ifCond .le 74, 3) := by decide +kernel
theorem dL_isSo_666 : decode cL_isSo 666 = .ok (.aload_n 0, 1) := by decide +kernel
theorem dL_isSo_667 : decode cL_isSo 667 = .ok (.iload 14, 2) := by decide +kernel
theorem dL_isSo_669 : decode cL_isSo 669 = .ok (.iload 15, 2) := by decide +kernel
theorem dL_isSo_671 : decode cL_isSo 671 = .ok (.iload 16, 2) := by decide +kernel
theorem dL_isSo_673 : decode cL_isSo 673 = .ok (.iconst 0, 1) := by decide +kernel
theorem dL_isSo_674 : decode cL_isSo 674 = .ok (.invokevirtual 50, 3) := by decide +kernel
theorem dL_isSo_677 : decode cL_isSo 677 = .ok (.iload 18, 2) := by decide +kernel
theorem dL_isSo_679 : decode cL_isSo 679 = .ok (.i2l, 1) := by decide +kernel
theorem dL_isSo_680 : decode cL_isSo 680 = .ok (.lcmp, 1) := by decide +kernel
theorem dL_isSo_681 : decode cL_isSo 681 = .ok (.ifCond .ne 50, 3) := by decide +kernel
theorem dL_isSo_684 : decode cL_isSo 684 = .ok (.aload_n 0, 1) := by decide +kernel
theorem dL_isSo_685 : decode cL_isSo 685 = .ok (.iload 14, 2) := by decide +kernel
theorem dL_isSo_687 : decode cL_isSo 687 = .ok (.iload 15, 2) := by decide +kernel
theorem dL_isSo_689 : decode cL_isSo 689 = .ok (.iload 16, 2) := by decide +kernel
theorem dL_isSo_691 : decode cL_isSo 691 = .ok (.iconst 1, 1) := by decide +kernel
theorem dL_isSo_692 : decode cL_isSo 692 = .ok (.invokevirtual 50, 3) := by decide +kernel
theorem dL_isSo_695 : decode cL_isSo 695 = .ok (.aload 8, 2) := by decide +kernel
theorem dL_isSo_697 : decode cL_isSo 697 = .ok (.iload 18, 2) := by decide +kernel
theorem dL_isSo_699 : decode cL_isSo 699 = .ok (.laload, 1) := by decide +kernel
theorem dL_isSo_700 : decode cL_isSo 700 = .ok (.lcmp, 1) := by decide +kernel
theorem dL_isSo_701 : decode cL_isSo 701 = .ok (.ifCond .ne 30, 3) := by decide +kernel
theorem dL_isSo_704 : decode cL_isSo 704 = .ok (.aload_n 0, 1) := by decide +kernel
theorem dL_isSo_705 : decode cL_isSo 705 = .ok (.iload 14, 2) := by decide +kernel
theorem dL_isSo_707 : decode cL_isSo 707 = .ok (.iload 15, 2) := by decide +kernel
theorem dL_isSo_709 : decode cL_isSo 709 = .ok (.iload 16, 2) := by decide +kernel
theorem dL_isSo_711 : decode cL_isSo 711 = .ok (.iconst 2, 1) := by decide +kernel
theorem dL_isSo_712 : decode cL_isSo 712 = .ok (.invokevirtual 50, 3) := by decide +kernel
theorem dL_isSo_715 : decode cL_isSo 715 = .ok (.aload 8, 2) := by decide +kernel
theorem dL_isSo_717 : decode cL_isSo 717 = .ok (.bipush 30, 2) := by decide +kernel
theorem dL_isSo_719 : decode cL_isSo 719 = .ok (.iload 18, 2) := by decide +kernel
theorem dL_isSo_721 : decode cL_isSo 721 = .ok (.iadd, 1) := by decide +kernel
theorem dL_isSo_722 : decode cL_isSo 722 = .ok (.laload, 1) := by decide +kernel
theorem dL_isSo_723 : decode cL_isSo 723 = .ok (.lcmp, 1) := by decide +kernel
theorem dL_isSo_724 : decode cL_isSo 724 = .ok (.ifCond .ne 7, 3) := by decide +kernel
theorem dL_isSo_727 : decode cL_isSo 727 = .ok (.iconst 1, 1) := by decide +kernel
theorem dL_isSo_728 : decode cL_isSo 728 = .ok (.goto 4, 3) := by decide +kernel
theorem dL_isSo_731 : decode cL_isSo 731 = .ok (.iconst 0, 1) := by decide +kernel
theorem dL_isSo_732 : decode cL_isSo 732 = .ok (.istore 13, 2) := by decide +kernel
theorem dL_isSo_734 : decode cL_isSo 734 = .ok (.iinc 16 1, 3) := by decide +kernel
theorem dL_isSo_737 : decode cL_isSo 737 = .ok (.iinc 18 1, 3) := by decide +kernel
theorem dL_isSo_740 : decode cL_isSo 740 = .ok (.goto (-105), 3) := by decide +kernel
theorem dL_isSo_743 : decode cL_isSo 743 = .ok (.iload 13, 2) := by decide +kernel
theorem dL_isSo_745 : decode cL_isSo 745 = .ok (.ifCond .eq 56, 3) := by decide +kernel
theorem dL_isSo_748 : decode cL_isSo 748 = .ok (.iload 17, 2) := by decide +kernel
theorem dL_isSo_750 : decode cL_isSo 750 = .ok (.ifCond .eq 51, 3) := by decide +kernel
theorem dL_isSo_753 : decode cL_isSo 753 = .ok (.aload 7, 2) := by decide +kernel
theorem dL_isSo_755 : decode cL_isSo 755 = .ok (.iconst 1, 1) := by decide +kernel
theorem dL_isSo_756 : decode cL_isSo 756 = .ok (.iaload, 1) := by decide +kernel
theorem dL_isSo_757 : decode cL_isSo 757 = .ok (.ifCond .eq 21, 3) := by decide +kernel
theorem dL_isSo_760 : decode cL_isSo 760 = .ok (.aload_n 0, 1) := by decide +kernel
theorem dL_isSo_761 : decode cL_isSo 761 = .ok (.iload 14, 2) := by decide +kernel
theorem dL_isSo_763 : decode cL_isSo 763 = .ok (.iload 15, 2) := by decide +kernel
theorem dL_isSo_765 : decode cL_isSo 765 = .ok (.iload 16, 2) := by decide +kernel
theorem dL_isSo_767 : decode cL_isSo 767 = .ok (.iconst 1, 1) := by decide +kernel
theorem dL_isSo_768 : decode cL_isSo 768 = .ok (.invokevirtual 50, 3) := by decide +kernel
theorem dL_isSo_771 : decode cL_isSo 771 = .ok (.ldc2_w 120, 3) := by decide +kernel
theorem dL_isSo_774 : decode cL_isSo 774 = .ok (.lcmp, 1) := by decide +kernel
theorem dL_isSo_775 : decode cL_isSo 775 = .ok (.ifCond .ne 26, 3) := by decide +kernel
theorem dL_isSo_778 : decode cL_isSo 778 = .ok (.aload_n 0, 1) := by decide +kernel
theorem dL_isSo_779 : decode cL_isSo 779 = .ok (.bipush 9, 2) := by decide +kernel
theorem dL_isSo_781 : decode cL_isSo 781 = .ok (.aload 7, 2) := by decide +kernel
theorem dL_isSo_783 : decode cL_isSo 783 = .ok (.iconst 2, 1) := by decide +kernel
theorem dL_isSo_784 : decode cL_isSo 784 = .ok (.iaload, 1) := by decide +kernel
theorem dL_isSo_785 : decode cL_isSo 785 = .ok (.iconst 0, 1) := by decide +kernel
theorem dL_isSo_786 : decode cL_isSo 786 = .ok (.iconst 0, 1) := by decide +kernel
theorem dL_isSo_787 : decode cL_isSo 787 = .ok (.invokestatic 122, 3) := by decide +kernel
theorem dL_isSo_790 : decode cL_isSo 790 = .ok (.ldc2_w 59, 3) := by decide +kernel
theorem dL_isSo_793 : decode cL_isSo 793 = .ok (.lcmp, 1) := by decide +kernel
theorem dL_isSo_794 : decode cL_isSo 794 = .ok (.ifCond .ne 7, 3) := by decide +kernel
theorem dL_isSo_797 : decode cL_isSo 797 = .ok (.iconst 1, 1) := by decide +kernel
theorem dL_isSo_798 : decode cL_isSo 798 = .ok (.goto 4, 3) := by decide +kernel
theorem dL_isSo_801 : decode cL_isSo 801 = .ok (.iconst 0, 1) := by decide +kernel
theorem dL_isSo_802 : decode cL_isSo 802 = .ok (.ireturn, 1) := by decide +kernel

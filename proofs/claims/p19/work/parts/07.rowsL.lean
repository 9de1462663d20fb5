set_option maxRecDepth 20000 in
theorem ggL_does_X4_price : GoodIn wsL_does wsX4_price := goodIn_ca (goodIn_ca (goodIn_r _ [11, 12, 13, 14, 15, 16, 10, 17, 18, 19, 20, 21, 22, 23, 24, 25, 26, 27, 28, 29, 30, 31, 32, 33, 34, 35, 36, 37, 38, 39, 40, 41, 42, 43, 44, 45, 46, 47, 48, 49, 50, 51, 52, 358, 359, 360, 361, 362, 363, 364, 365, 366, 367, 368, 369] (by decide +kernel) (by decide +kernel)) (goodIn_sub (fun _ h => List.mem_cons_of_mem _ (List.mem_append_left _ (List.mem_append_left _ (List.mem_append_right _ h)))) (by decide +kernel))) (goodIn_sub (fun _ h => List.mem_cons_of_mem _ (List.mem_append_left _ (List.mem_append_right _ h))) (by decide +kernel))
set_option maxRecDepth 20000 in
theorem gL_does_X4_price : GoodIn wsL_does (wsV RL 8 RX4 yX4_price wsX4_price) := goodIn_app (goodIn_of _ (by decide +kernel)) ggL_does_X4_price
set_option maxRecDepth 20000 in
theorem ggL_does_X4_client : GoodIn wsL_does wsX4_client := goodIn_ca (goodIn_r _ [56, 57, 58, 59, 60, 18, 61, 62, 63, 64, 19, 20, 21, 22, 23, 24, 25, 65, 66, 10, 67, 68, 69, 70, 71, 72, 73, 74, 75, 76, 77, 78, 79, 80, 81, 82, 83, 84, 85, 86, 47, 87, 88, 89, 90, 91, 92, 93, 94, 95, 96, 31, 32, 33, 34, 35, 36, 37, 38, 39, 40, 41, 42, 43, 44, 45, 46, 97, 98, 99, 100, 101, 102, 103, 104, 105, 106, 107, 108, 109, 110, 111, 112, 113, 114, 115, 116, 117, 118, 119, 120, 121, 122, 123, 124, 125, 126, 127, 128, 129, 130, 131, 132, 133, 134, 135, 136, 137, 138, 139, 140, 141, 142, 143, 144, 145, 146, 147, 148, 149, 150, 151, 152, 153, 154, 362, 363, 364, 365, 366, 370, 371, 372, 373, 374, 375, 376, 377, 378, 367, 368, 369] (by decide +kernel) (by decide +kernel)) (goodIn_sub (fun _ h => List.mem_cons_of_mem _ (List.mem_append_right _ h)) (by decide +kernel))
set_option maxRecDepth 20000 in
theorem gL_does_X4_client : GoodIn wsL_does (wsV RL 14 RX4 yX4_client wsX4_client) := goodIn_app (goodIn_of _ (by decide +kernel)) ggL_does_X4_client
set_option maxRecDepth 20000 in
theorem ggL_does_X4_pay : GoodIn wsL_does wsX4_pay := goodIn_ca (goodIn_ca (goodIn_ca (goodIn_r _ [158, 159, 160, 161, 162, 163, 164, 10, 165, 57, 166, 20, 21, 22, 23, 24, 25, 26, 27, 28, 29, 30, 31, 32, 33, 34, 35, 36, 37, 38, 39, 40, 41, 42, 43, 44, 45, 46, 47, 48, 49, 50, 51, 52, 65, 66, 67, 68, 69, 370, 371, 372, 373, 374, 362, 363, 364, 365, 366, 367, 368, 369] (by decide +kernel) (by decide +kernel)) (goodIn_sub (fun _ h => List.mem_cons_of_mem _ (List.mem_append_left _ (List.mem_append_left _ (List.mem_append_right _ h)))) (by decide +kernel))) (goodIn_sub (fun _ h => List.mem_cons_of_mem _ (List.mem_append_left _ (List.mem_append_right _ h))) (by decide +kernel))) (goodIn_sub (fun _ h => List.mem_cons_of_mem _ (List.mem_append_right _ h)) (by decide +kernel))
set_option maxRecDepth 20000 in
theorem gL_does_X4_pay : GoodIn wsL_does (wsV RL 18 RX4 yX4_pay wsX4_pay) := goodIn_app (goodIn_of _ (by decide +kernel)) ggL_does_X4_pay
set_option maxRecDepth 20000 in
theorem ggL_does_X4_goal : GoodIn wsL_does wsX4_goal := goodIn_ca (goodIn_ca (goodIn_ca (goodIn_r _ [170, 171, 172, 173, 174, 175, 10, 176, 61, 177, 162, 163, 164, 165, 57, 166, 20, 21, 22, 23, 24, 25, 26, 27, 28, 29, 30, 31, 32, 33, 34, 35, 36, 37, 38, 39, 40, 41, 42, 43, 44, 45, 46, 47, 48, 49, 50, 51, 52, 178, 179, 180, 65, 66, 67, 68, 69, 375, 376, 377, 378, 370, 371, 372, 373, 374, 362, 363, 364, 365, 366, 367, 368, 369] (by decide +kernel) (by decide +kernel)) (goodIn_sub (fun _ h => List.mem_cons_of_mem _ (List.mem_append_left _ (List.mem_append_left _ (List.mem_append_right _ h)))) (by decide +kernel))) (goodIn_sub (fun _ h => List.mem_cons_of_mem _ (List.mem_append_left _ (List.mem_append_right _ h))) (by decide +kernel))) (goodIn_sub (fun _ h => List.mem_cons_of_mem _ (List.mem_append_right _ h)) (by decide +kernel))
set_option maxRecDepth 20000 in
theorem gL_does_X4_goal : GoodIn wsL_does (wsV RL 22 RX4 yX4_goal wsX4_goal) := goodIn_app (goodIn_of _ (by decide +kernel)) ggL_does_X4_goal
set_option maxRecDepth 20000 in
theorem ggL_does_X4_buy : GoodIn wsL_does wsX4_buy := goodIn_ca (goodIn_ca (goodIn_ca (goodIn_r _ [184, 160, 185, 186, 171, 161, 173, 174, 175, 10, 176, 61, 177, 162, 163, 164, 165, 57, 166, 20, 21, 22, 23, 24, 25, 26, 27, 28, 29, 30, 31, 32, 33, 34, 35, 36, 37, 38, 39, 40, 41, 42, 43, 44, 45, 46, 47, 48, 49, 50, 51, 52, 65, 66, 67, 68, 69, 187, 188, 189, 190, 13, 191, 192, 193, 194, 195, 196, 197, 198, 199, 200, 201, 202, 203, 204, 205, 206, 207, 208, 209, 210, 211, 74, 75, 212, 213, 214, 215, 216, 217, 218, 103, 104, 105, 106, 107, 108, 109, 110, 111, 112, 113, 114, 115, 116, 117, 118, 119, 120, 86, 121, 122, 123, 124, 125, 126, 127, 128, 129, 130, 131, 132, 133, 134, 135, 136, 137, 138, 139, 140, 141, 142, 143, 144, 145, 146, 147, 148, 149, 150, 151, 152, 153, 154, 219, 220, 221, 222, 223, 224, 225, 226, 227, 228, 229, 230, 231, 232, 233, 234, 235, 236, 237, 238, 239, 240, 241, 242, 243, 244, 245, 246, 247, 248, 249, 250, 251, 252, 253, 254, 255, 256, 257, 258, 259, 260, 261, 262, 263, 264, 362, 363, 364, 365, 366, 375, 376, 377, 378, 370, 371, 372, 373, 374, 367, 368, 369, 358, 359, 360, 361, 379, 380, 381, 382, 383, 384, 385, 386, 387] (by decide +kernel) (by decide +kernel)) (goodIn_sub (fun _ h => List.mem_cons_of_mem _ (List.mem_append_left _ (List.mem_append_left _ (List.mem_append_right _ h)))) (by decide +kernel))) (goodIn_sub (fun _ h => List.mem_cons_of_mem _ (List.mem_append_left _ (List.mem_append_right _ h))) (by decide +kernel))) (goodIn_sub (fun _ h => List.mem_cons_of_mem _ (List.mem_append_right _ h)) (by decide +kernel))
set_option maxRecDepth 20000 in
theorem gL_does_X4_buy : GoodIn wsL_does (wsV RL 26 RX4 yX4_buy wsX4_buy) := goodIn_app (goodIn_of _ (by decide +kernel)) ggL_does_X4_buy
set_option maxRecDepth 20000 in
theorem ggL_does_X4_sell : GoodIn wsL_does wsX4_sell := goodIn_ca (goodIn_ca (goodIn_ca (goodIn_r _ [268, 269, 185, 232, 186, 270, 173, 174, 175, 10, 176, 61, 177, 162, 163, 164, 165, 57, 166, 20, 21, 22, 23, 24, 25, 26, 27, 28, 29, 30, 31, 32, 33, 34, 35, 36, 37, 38, 39, 40, 41, 42, 43, 44, 45, 46, 47, 48, 49, 50, 51, 52, 65, 66, 67, 68, 69, 271, 272, 273, 13, 190, 199, 200, 201, 202, 203, 204, 205, 206, 207, 194, 195, 196, 197, 198, 208, 209, 210, 211, 74, 75, 212, 213, 214, 215, 216, 217, 218, 103, 104, 105, 106, 107, 108, 109, 110, 111, 112, 113, 114, 115, 116, 117, 118, 119, 120, 86, 121, 122, 123, 124, 125, 126, 127, 128, 129, 130, 131, 132, 133, 134, 135, 136, 137, 138, 139, 140, 141, 142, 143, 144, 145, 146, 147, 148, 149, 150, 151, 152, 153, 154, 219, 220, 221, 222, 223, 224, 225, 226, 227, 228, 229, 230, 171, 161, 231, 233, 234, 235, 236, 237, 238, 239, 240, 241, 242, 243, 244, 245, 246, 247, 248, 249, 250, 251, 252, 253, 254, 255, 256, 257, 258, 259, 260, 191, 192, 193, 261, 262, 263, 264, 362, 363, 364, 365, 366, 375, 376, 377, 378, 370, 371, 372, 373, 374, 367, 368, 369, 358, 359, 360, 361, 379, 380, 381, 382, 383, 384, 385, 386, 387] (by decide +kernel) (by decide +kernel)) (goodIn_sub (fun _ h => List.mem_cons_of_mem _ (List.mem_append_left _ (List.mem_append_left _ (List.mem_append_right _ h)))) (by decide +kernel))) (goodIn_sub (fun _ h => List.mem_cons_of_mem _ (List.mem_append_left _ (List.mem_append_right _ h))) (by decide +kernel))) (goodIn_sub (fun _ h => List.mem_cons_of_mem _ (List.mem_append_right _ h)) (by decide +kernel))
set_option maxRecDepth 20000 in
theorem gL_does_X4_sell : GoodIn wsL_does (wsV RL 29 RX4 yX4_sell wsX4_sell) := goodIn_app (goodIn_of _ (by decide +kernel)) ggL_does_X4_sell
set_option maxRecDepth 20000 in
theorem ggL_does_X4_balance : GoodIn wsL_does wsX4_balance := goodIn_ca (goodIn_ca (goodIn_r _ [277, 185, 278, 61, 177, 162, 163, 164, 10, 165, 57, 166, 20, 21, 22, 23, 24, 25, 26, 27, 28, 29, 30, 31, 32, 33, 34, 35, 36, 37, 38, 39, 40, 41, 42, 43, 44, 45, 46, 47, 65, 66, 67, 68, 69, 279, 280, 281, 161, 282, 283, 284, 232, 186, 271, 272, 273, 13, 190, 285, 286, 287, 288, 289, 290, 291, 172, 292, 187, 188, 189, 191, 192, 193, 199, 200, 201, 202, 203, 204, 205, 206, 207, 194, 195, 196, 197, 198, 208, 209, 210, 211, 74, 75, 212, 213, 214, 215, 216, 217, 218, 103, 104, 105, 106, 107, 108, 109, 110, 111, 112, 113, 114, 115, 116, 117, 118, 119, 120, 86, 121, 122, 123, 124, 125, 126, 127, 128, 129, 130, 131, 132, 133, 134, 135, 136, 137, 138, 139, 140, 141, 142, 143, 144, 145, 146, 147, 148, 149, 150, 151, 152, 153, 154, 219, 220, 221, 222, 223, 224, 225, 226, 227, 228, 229, 230, 171, 231, 233, 234, 235, 236, 237, 238, 239, 240, 241, 242, 243, 244, 245, 246, 247, 248, 249, 250, 251, 252, 253, 254, 255, 256, 257, 258, 259, 260, 261, 262, 263, 264, 293, 294, 295, 296, 362, 363, 364, 365, 366, 370, 371, 372, 373, 374, 367, 368, 369, 375, 376, 377, 378, 358, 359, 360, 361, 379, 380, 381, 382, 383, 384, 385, 386, 387] (by decide +kernel) (by decide +kernel)) (goodIn_sub (fun _ h => List.mem_cons_of_mem _ (List.mem_append_left _ (List.mem_append_left _ (List.mem_append_right _ h)))) (by decide +kernel))) (goodIn_sub (fun _ h => List.mem_cons_of_mem _ (List.mem_append_right _ h)) (by decide +kernel))
set_option maxRecDepth 20000 in
theorem gL_does_X4_balance : GoodIn wsL_does (wsV RL 32 RX4 yX4_balance wsX4_balance) := goodIn_app (goodIn_of _ (by decide +kernel)) ggL_does_X4_balance
set_option maxRecDepth 20000 in
theorem ggL_does_X4_complain : GoodIn wsL_does wsX4_complain := goodIn_ca (goodIn_ca (goodIn_r _ [300, 301, 244, 171, 246, 302, 303, 304, 10, 305, 185, 257, 20, 21, 22, 23, 24, 25, 26, 27, 28, 29, 30, 31, 32, 33, 34, 35, 36, 37, 38, 39, 40, 41, 42, 43, 44, 45, 46, 47, 306, 307, 308, 309, 65, 66, 67, 68, 69, 219, 220, 221, 205, 222, 217, 216, 223, 224, 225, 226, 215, 227, 228, 229, 230, 186, 161, 231, 232, 233, 234, 190, 235, 236, 237, 238, 239, 13, 310, 311, 312, 313, 264, 247, 248, 314, 315, 137, 316, 240, 241, 242, 243, 245, 249, 250, 251, 252, 253, 254, 255, 256, 207, 258, 259, 123, 260, 191, 192, 193, 261, 262, 263, 317, 318, 319, 320, 206, 321, 322, 323, 324, 325, 326, 327, 328, 379, 380, 381, 382, 383, 384, 385, 386, 387, 375, 376, 377, 378, 362, 363, 364, 365, 366, 367, 368, 369, 370, 371, 372, 373, 374, 358, 359, 360, 361] (by decide +kernel) (by decide +kernel)) (goodIn_sub (fun _ h => List.mem_cons_of_mem _ (List.mem_append_left _ (List.mem_append_left _ (List.mem_append_right _ h)))) (by decide +kernel))) (goodIn_sub (fun _ h => List.mem_cons_of_mem _ (List.mem_append_right _ h)) (by decide +kernel))
set_option maxRecDepth 20000 in
theorem gL_does_X4_complain : GoodIn wsL_does (wsV RL 36 RX4 yX4_complain wsX4_complain) := goodIn_app (goodIn_of _ (by decide +kernel)) ggL_does_X4_complain
set_option maxRecDepth 20000 in
theorem ggL_does_X4_pass : GoodIn wsL_does wsX4_pass := goodIn_ca (goodIn_ca (goodIn_r _ [332, 206, 48, 49, 10, 50, 51, 52, 65, 66, 67, 68, 69, 333, 334, 335, 336, 18, 19, 233, 190, 57, 166, 20, 21, 22, 23, 24, 25, 31, 32, 33, 34, 35, 36, 37, 38, 39, 40, 41, 42, 43, 44, 45, 46, 47, 235, 236, 237, 238, 239, 231, 13, 317, 318, 319, 320, 321, 322, 161, 250, 251, 252, 323, 324, 325, 264, 258, 259, 123, 260, 326, 327, 328, 362, 363, 364, 365, 366, 358, 359, 360, 361, 367, 368, 369, 370, 371, 372, 373, 374] (by decide +kernel) (by decide +kernel)) (goodIn_sub (fun _ h => List.mem_cons_of_mem _ (List.mem_append_left _ (List.mem_append_right _ h))) (by decide +kernel))) (goodIn_sub (fun _ h => List.mem_cons_of_mem _ (List.mem_append_right _ h)) (by decide +kernel))
set_option maxRecDepth 20000 in
theorem gL_does_X4_pass : GoodIn wsL_does (wsV RL 40 RX4 yX4_pass wsX4_pass) := goodIn_app (goodIn_of _ (by decide +kernel)) ggL_does_X4_pass
set_option maxRecDepth 20000 in
theorem ggL_does_X4_tradeOf : GoodIn wsL_does wsX4_tradeOf := goodIn_ca (goodIn_ca (goodIn_r _ [340, 244, 171, 341, 186, 342, 246, 343, 344, 245, 301, 302, 303, 304, 10, 305, 185, 257, 20, 21, 22, 23, 24, 25, 26, 27, 28, 29, 30, 31, 32, 33, 34, 35, 36, 37, 38, 39, 40, 41, 42, 43, 44, 45, 46, 47, 48, 49, 50, 51, 52, 379, 380, 381, 382, 383, 384, 385, 386, 387, 375, 376, 377, 378, 370, 371, 372, 373, 374, 358, 359, 360, 361, 362, 363, 364, 365, 366, 367, 368, 369] (by decide +kernel) (by decide +kernel)) (goodIn_sub (fun _ h => List.mem_cons_of_mem _ (List.mem_append_left _ (List.mem_append_left _ (List.mem_append_right _ h)))) (by decide +kernel))) (goodIn_sub (fun _ h => List.mem_cons_of_mem _ (List.mem_append_left _ (List.mem_append_right _ h))) (by decide +kernel))
set_option maxRecDepth 20000 in
theorem gL_does_X4_tradeOf : GoodIn wsL_does (wsV RL 43 RX4 yX4_tradeOf wsX4_tradeOf) := goodIn_app (goodIn_of _ (by decide +kernel)) ggL_does_X4_tradeOf
set_option maxRecDepth 20000 in
theorem ggL_does_X4_year : GoodIn wsL_does wsX4_year := goodIn_ca (goodIn_ca (goodIn_r _ [348, 264, 321, 322, 162, 163, 164, 10, 165, 57, 166, 20, 21, 22, 23, 24, 25, 26, 27, 28, 29, 30, 31, 32, 33, 34, 35, 36, 37, 38, 39, 40, 41, 42, 43, 44, 45, 46, 47, 48, 49, 50, 51, 52, 323, 324, 325, 258, 259, 123, 260, 326, 327, 328, 370, 371, 372, 373, 374, 362, 363, 364, 365, 366, 367, 368, 369] (by decide +kernel) (by decide +kernel)) (goodIn_sub (fun _ h => List.mem_cons_of_mem _ (List.mem_append_left _ (List.mem_append_left _ (List.mem_append_right _ h)))) (by decide +kernel))) (goodIn_sub (fun _ h => List.mem_cons_of_mem _ (List.mem_append_left _ (List.mem_append_right _ h))) (by decide +kernel))
set_option maxRecDepth 20000 in
theorem gL_does_X4_year : GoodIn wsL_does (wsV RL 46 RX4 yX4_year wsX4_year) := goodIn_app (goodIn_of _ (by decide +kernel)) ggL_does_X4_year
set_option maxRecDepth 20000 in
theorem ggL_does_X4_lot : GoodIn wsL_does wsX4_lot := goodIn_ca (goodIn_ca (goodIn_r _ [352, 185, 257, 244, 247, 207, 248, 353, 173, 174, 175, 10, 176, 61, 177, 162, 163, 164, 165, 57, 166, 20, 21, 22, 23, 24, 25, 26, 27, 28, 29, 30, 31, 32, 33, 34, 35, 36, 37, 38, 39, 40, 41, 42, 43, 44, 45, 46, 47, 48, 49, 50, 51, 52, 362, 363, 364, 365, 366, 379, 380, 381, 382, 383, 384, 385, 386, 387, 370, 371, 372, 373, 374, 367, 368, 369] (by decide +kernel) (by decide +kernel)) (goodIn_sub (fun _ h => List.mem_cons_of_mem _ (List.mem_append_left _ (List.mem_append_left _ (List.mem_append_right _ h)))) (by decide +kernel))) (goodIn_sub (fun _ h => List.mem_cons_of_mem _ (List.mem_append_left _ (List.mem_append_right _ h))) (by decide +kernel))
set_option maxRecDepth 20000 in
theorem gL_does_X4_lot : GoodIn wsL_does (wsV RL 50 RX4 yX4_lot wsX4_lot) := goodIn_app (goodIn_of _ (by decide +kernel)) ggL_does_X4_lot
set_option maxRecDepth 20000 in
theorem ggL_does_X4_parts : GoodIn wsL_does wsX4_parts := goodIn_ca (goodIn_r _ [357, 233, 232, 14, 15, 16, 10, 17, 18, 19, 20, 21, 22, 23, 24, 25, 26, 27, 28, 29, 30, 31, 32, 33, 34, 35, 36, 37, 38, 39, 40, 41, 42, 43, 44, 45, 46, 47, 173, 174, 175, 176, 61, 177, 162, 163, 164, 165, 57, 166, 358, 359, 360, 361, 375, 376, 377, 378, 362, 363, 364, 365, 366, 367, 368, 369, 370, 371, 372, 373, 374] (by decide +kernel) (by decide +kernel)) (goodIn_sub (fun _ h => List.mem_cons_of_mem _ (List.mem_append_left _ (List.mem_append_left _ (List.mem_append_right _ h)))) (by decide +kernel))
set_option maxRecDepth 20000 in
theorem gL_does_X4_parts : GoodIn wsL_does (wsV RL 54 RX4 yX4_parts wsX4_parts) := goodIn_app (goodIn_of _ (by decide +kernel)) ggL_does_X4_parts
theorem dL_does_0 : decode cL_does 0 = .ok (.iload_n 1, 1) := by decide +kernel
theorem dL_does_1 : decode cL_does 1 = .ok (.ifCond .ne 13, 3) := by decide +kernel
theorem dL_does_4 : decode cL_does 4 = .ok (.aload_n 0, 1) := by decide +kernel
theorem dL_does_5 : decode cL_does 5 = .ok (.iload_n 2, 1) := by decide +kernel
theorem dL_does_6 : decode cL_does 6 = .ok (.iload_n 3, 1) := by decide +kernel
theorem dL_does_7 : decode cL_does 7 = .ok (.invokevirtual 8, 3) := by decide +kernel
theorem dL_does_10 : decode cL_does 10 = .ok (.i2l, 1) := by decide +kernel
theorem dL_does_11 : decode cL_does 11 = .ok (.goto 181, 3) := by decide +kernel
theorem dL_does_14 : decode cL_does 14 = .ok (.iload_n 1, 1) := by decide +kernel
theorem dL_does_15 : decode cL_does 15 = .ok (.iconst 1, 1) := by decide +kernel
theorem dL_does_16 : decode cL_does 16 = .ok (.if_icmp .ne 11, 3) := by decide +kernel
theorem dL_does_19 : decode cL_does 19 = .ok (.aload_n 0, 1) := by decide +kernel
theorem dL_does_20 : decode cL_does 20 = .ok (.invokevirtual 14, 3) := by decide +kernel
theorem dL_does_23 : decode cL_does 23 = .ok (.i2l, 1) := by decide +kernel
theorem dL_does_24 : decode cL_does 24 = .ok (.goto 168, 3) := by decide +kernel
theorem dL_does_27 : decode cL_does 27 = .ok (.iload_n 1, 1) := by decide +kernel
theorem dL_does_28 : decode cL_does 28 = .ok (.iconst 2, 1) := by decide +kernel
theorem dL_does_29 : decode cL_does 29 = .ok (.if_icmp .ne 12, 3) := by decide +kernel
theorem dL_does_32 : decode cL_does 32 = .ok (.aload_n 0, 1) := by decide +kernel
theorem dL_does_33 : decode cL_does 33 = .ok (.iload_n 2, 1) := by decide +kernel
theorem dL_does_34 : decode cL_does 34 = .ok (.iload_n 3, 1) := by decide +kernel
theorem dL_does_35 : decode cL_does 35 = .ok (.invokevirtual 18, 3) := by decide +kernel
theorem dL_does_38 : decode cL_does 38 = .ok (.goto 154, 3) := by decide +kernel
theorem dL_does_41 : decode cL_does 41 = .ok (.iload_n 1, 1) := by decide +kernel
theorem dL_does_42 : decode cL_does 42 = .ok (.iconst 3, 1) := by decide +kernel
theorem dL_does_43 : decode cL_does 43 = .ok (.if_icmp .ne 15, 3) := by decide +kernel
theorem dL_does_46 : decode cL_does 46 = .ok (.aload_n 0, 1) := by decide +kernel
theorem dL_does_47 : decode cL_does 47 = .ok (.iload_n 2, 1) := by decide +kernel
theorem dL_does_48 : decode cL_does 48 = .ok (.iload_n 3, 1) := by decide +kernel
theorem dL_does_49 : decode cL_does 49 = .ok (.iload 4, 2) := by decide +kernel
theorem dL_does_51 : decode cL_does 51 = .ok (.invokevirtual 22, 3) := by decide +kernel
theorem dL_does_54 : decode cL_does 54 = .ok (.i2l, 1) := by decide +kernel
theorem dL_does_55 : decode cL_does 55 = .ok (.goto 137, 3) := by decide +kernel
theorem dL_does_58 : decode cL_does 58 = .ok (.iload_n 1, 1) := by decide +kernel
theorem dL_does_59 : decode cL_does 59 = .ok (.iconst 4, 1) := by decide +kernel
theorem dL_does_60 : decode cL_does 60 = .ok (.if_icmp .ne 15, 3) := by decide +kernel
theorem dL_does_63 : decode cL_does 63 = .ok (.aload_n 0, 1) := by decide +kernel
theorem dL_does_64 : decode cL_does 64 = .ok (.iload_n 2, 1) := by decide +kernel
theorem dL_does_65 : decode cL_does 65 = .ok (.iload_n 3, 1) := by decide +kernel
theorem dL_does_66 : decode cL_does 66 = .ok (.iload 4, 2) := by decide +kernel
theorem dL_does_68 : decode cL_does 68 = .ok (.invokevirtual 26, 3) := by decide +kernel
theorem dL_does_71 : decode cL_does 71 = .ok (.i2l, 1) := by decide +kernel
theorem dL_does_72 : decode cL_does 72 = .ok (.goto 120, 3) := by decide +kernel
theorem dL_does_75 : decode cL_does 75 = .ok (.iload_n 1, 1) := by decide +kernel
theorem dL_does_76 : decode cL_does 76 = .ok (.iconst 5, 1) := by decide +kernel
theorem dL_does_77 : decode cL_does 77 = .ok (.if_icmp .ne 15, 3) := by decide +kernel
theorem dL_does_80 : decode cL_does 80 = .ok (.aload_n 0, 1) := by decide +kernel
theorem dL_does_81 : decode cL_does 81 = .ok (.iload_n 2, 1) := by decide +kernel
theorem dL_does_82 : decode cL_does 82 = .ok (.iload_n 3, 1) := by decide +kernel
theorem dL_does_83 : decode cL_does 83 = .ok (.iload 4, 2) := by decide +kernel
theorem dL_does_85 : decode cL_does 85 = .ok (.invokevirtual 29, 3) := by decide +kernel
theorem dL_does_88 : decode cL_does 88 = .ok (.i2l, 1) := by decide +kernel
theorem dL_does_89 : decode cL_does 89 = .ok (.goto 103, 3) := by decide +kernel
theorem dL_does_92 : decode cL_does 92 = .ok (.iload_n 1, 1) := by decide +kernel
theorem dL_does_93 : decode cL_does 93 = .ok (.bipush 6, 2) := by decide +kernel
theorem dL_does_95 : decode cL_does 95 = .ok (.if_icmp .ne 12, 3) := by decide +kernel
theorem dL_does_98 : decode cL_does 98 = .ok (.aload_n 0, 1) := by decide +kernel
theorem dL_does_99 : decode cL_does 99 = .ok (.iload_n 2, 1) := by decide +kernel
theorem dL_does_100 : decode cL_does 100 = .ok (.invokevirtual 32, 3) := by decide +kernel
theorem dL_does_103 : decode cL_does 103 = .ok (.i2l, 1) := by decide +kernel
theorem dL_does_104 : decode cL_does 104 = .ok (.goto 88, 3) := by decide +kernel
theorem dL_does_107 : decode cL_does 107 = .ok (.iload_n 1, 1) := by decide +kernel
theorem dL_does_108 : decode cL_does 108 = .ok (.bipush 7, 2) := by decide +kernel
theorem dL_does_110 : decode cL_does 110 = .ok (.if_icmp .ne 11, 3) := by decide +kernel
theorem dL_does_113 : decode cL_does 113 = .ok (.aload_n 0, 1) := by decide +kernel
theorem dL_does_114 : decode cL_does 114 = .ok (.iload_n 2, 1) := by decide +kernel
theorem dL_does_115 : decode cL_does 115 = .ok (.invokevirtual 36, 3) := by decide +kernel
theorem dL_does_118 : decode cL_does 118 = .ok (.goto 74, 3) := by decide +kernel
theorem dL_does_121 : decode cL_does 121 = .ok (.iload_n 1, 1) := by decide +kernel
theorem dL_does_122 : decode cL_does 122 = .ok (.bipush 8, 2) := by decide +kernel
theorem dL_does_124 : decode cL_does 124 = .ok (.if_icmp .ne 12, 3) := by decide +kernel
theorem dL_does_127 : decode cL_does 127 = .ok (.aload_n 0, 1) := by decide +kernel
theorem dL_does_128 : decode cL_does 128 = .ok (.iload_n 2, 1) := by decide +kernel
theorem dL_does_129 : decode cL_does 129 = .ok (.invokevirtual 40, 3) := by decide +kernel
theorem dL_does_132 : decode cL_does 132 = .ok (.i2l, 1) := by decide +kernel
theorem dL_does_133 : decode cL_does 133 = .ok (.goto 59, 3) := by decide +kernel
theorem dL_does_136 : decode cL_does 136 = .ok (.iload_n 1, 1) := by decide +kernel
theorem dL_does_137 : decode cL_does 137 = .ok (.bipush 9, 2) := by decide +kernel
theorem dL_does_139 : decode cL_does 139 = .ok (.if_icmp .ne 12, 3) := by decide +kernel
theorem dL_does_142 : decode cL_does 142 = .ok (.aload_n 0, 1) := by decide +kernel
theorem dL_does_143 : decode cL_does 143 = .ok (.iload_n 2, 1) := by decide +kernel
theorem dL_does_144 : decode cL_does 144 = .ok (.iload_n 3, 1) := by decide +kernel
theorem dL_does_145 : decode cL_does 145 = .ok (.invokevirtual 43, 3) := by decide +kernel
theorem dL_does_148 : decode cL_does 148 = .ok (.goto 44, 3) := by decide +kernel
theorem dL_does_151 : decode cL_does 151 = .ok (.iload_n 1, 1) := by decide +kernel
theorem dL_does_152 : decode cL_does 152 = .ok (.bipush 10, 2) := by decide +kernel
theorem dL_does_154 : decode cL_does 154 = .ok (.if_icmp .ne 14, 3) := by decide +kernel
theorem dL_does_157 : decode cL_does 157 = .ok (.aload_n 0, 1) := by decide +kernel
theorem dL_does_158 : decode cL_does 158 = .ok (.iload_n 2, 1) := by decide +kernel
theorem dL_does_159 : decode cL_does 159 = .ok (.iload_n 3, 1) := by decide +kernel
theorem dL_does_160 : decode cL_does 160 = .ok (.iload 4, 2) := by decide +kernel
theorem dL_does_162 : decode cL_does 162 = .ok (.invokevirtual 46, 3) := by decide +kernel
theorem dL_does_165 : decode cL_does 165 = .ok (.goto 27, 3) := by decide +kernel
theorem dL_does_168 : decode cL_does 168 = .ok (.iload_n 1, 1) := by decide +kernel
theorem dL_does_169 : decode cL_does 169 = .ok (.bipush 11, 2) := by decide +kernel
theorem dL_does_171 : decode cL_does 171 = .ok (.if_icmp .ne 15, 3) := by decide +kernel
theorem dL_does_174 : decode cL_does 174 = .ok (.aload_n 0, 1) := by decide +kernel
theorem dL_does_175 : decode cL_does 175 = .ok (.iload_n 2, 1) := by decide +kernel
theorem dL_does_176 : decode cL_does 176 = .ok (.iload_n 3, 1) := by decide +kernel
theorem dL_does_177 : decode cL_does 177 = .ok (.iload 4, 2) := by decide +kernel
theorem dL_does_179 : decode cL_does 179 = .ok (.iconst 0, 1) := by decide +kernel
theorem dL_does_180 : decode cL_does 180 = .ok (.invokevirtual 50, 3) := by decide +kernel
theorem dL_does_183 : decode cL_does 183 = .ok (.goto 9, 3) := by decide +kernel
theorem dL_does_186 : decode cL_does 186 = .ok (.aload_n 0, 1) := by decide +kernel
theorem dL_does_187 : decode cL_does 187 = .ok (.iload_n 2, 1) := by decide +kernel
theorem dL_does_188 : decode cL_does 188 = .ok (.iload_n 3, 1) := by decide +kernel
theorem dL_does_189 : decode cL_does 189 = .ok (.invokevirtual 54, 3) := by decide +kernel
theorem dL_does_192 : decode cL_does 192 = .ok (.lreturn, 1) := by decide +kernel
theorem dL_does_193 : decode cL_does 193 = .ok (.astore 5, 2) := by decide +kernel
theorem dL_does_195 : decode cL_does 195 = .ok (.ldc2_w 59, 3) := by decide +kernel
theorem dL_does_198 : decode cL_does 198 = .ok (.lreturn, 1) := by decide +kernel
theorem dL_does_199 : decode cL_does 199 = .ok (.astore 5, 2) := by decide +kernel
theorem dL_does_201 : decode cL_does 201 = .ok (.ldc2_w 63, 3) := by decide +kernel
theorem dL_does_204 : decode cL_does 204 = .ok (.lreturn, 1) := by decide +kernel
theorem dL_does_205 : decode cL_does 205 = .ok (.astore 5, 2) := by decide +kernel
theorem dL_does_207 : decode cL_does 207 = .ok (.ldc2_w 67, 3) := by decide +kernel
theorem dL_does_210 : decode cL_does 210 = .ok (.lreturn, 1) := by decide +kernel
theorem dL_costs_0 : decode cL_costs 0 = .ok (.lload_n 0, 1) := by decide +kernel
theorem dL_costs_1 : decode cL_costs 1 = .ok (.ldc2_w 69, 3) := by decide +kernel
theorem dL_costs_4 : decode cL_costs 4 = .ok (.lcmp, 1) := by decide +kernel
theorem dL_costs_5 : decode cL_costs 5 = .ok (.ifCond .ge 11, 3) := by decide +kernel
theorem dL_costs_8 : decode cL_costs 8 = .ok (.lload_n 0, 1) := by decide +kernel
theorem dL_costs_9 : decode cL_costs 9 = .ok (.ldc2_w 71, 3) := by decide +kernel
theorem dL_costs_12 : decode cL_costs 12 = .ok (.ldiv, 1) := by decide +kernel
theorem dL_costs_13 : decode cL_costs 13 = .ok (.goto 24, 3) := by decide +kernel
theorem dL_costs_16 : decode cL_costs 16 = .ok (.lload_n 0, 1) := by decide +kernel
theorem dL_costs_17 : decode cL_costs 17 = .ok (.ldc2_w 73, 3) := by decide +kernel
theorem dL_costs_20 : decode cL_costs 20 = .ok (.lcmp, 1) := by decide +kernel
theorem dL_costs_21 : decode cL_costs 21 = .ok (.ifCond .ge 11, 3) := by decide +kernel
theorem dL_costs_24 : decode cL_costs 24 = .ok (.lload_n 0, 1) := by decide +kernel
theorem dL_costs_25 : decode cL_costs 25 = .ok (.ldc2_w 75, 3) := by decide +kernel
theorem dL_costs_28 : decode cL_costs 28 = .ok (.ldiv, 1) := by decide +kernel
theorem dL_costs_29 : decode cL_costs 29 = .ok (.goto 8, 3) := by decide +kernel
theorem dL_costs_32 : decode cL_costs 32 = .ok (.lload_n 0, 1) := by decide +kernel
theorem dL_costs_33 : decode cL_costs 33 = .ok (.ldc2_w 77, 3) := by decide +kernel
theorem dL_costs_36 : decode cL_costs 36 = .ok (.ldiv, 1) := by decide +kernel
theorem dL_costs_37 : decode cL_costs 37 = .ok (.lreturn, 1) := by decide +kernel
theorem dL_moves_0 : decode cL_moves 0 = .ok (.lload 5, 2) := by decide +kernel
theorem dL_moves_2 : decode cL_moves 2 = .ok (.aload_n 1, 1) := by decide +kernel
theorem dL_moves_3 : decode cL_moves 3 = .ok (.bipush 6, 2) := by decide +kernel
theorem dL_moves_5 : decode cL_moves 5 = .ok (.iload 4, 2) := by decide +kernel
theorem dL_moves_7 : decode cL_moves 7 = .ok (.iadd, 1) := by decide +kernel
theorem dL_moves_8 : decode cL_moves 8 = .ok (.laload, 1) := by decide +kernel
theorem dL_moves_9 : decode cL_moves 9 = .ok (.lsub, 1) := by decide +kernel
theorem dL_moves_10 : decode cL_moves 10 = .ok (.lstore 7, 2) := by decide +kernel
theorem dL_moves_12 : decode cL_moves 12 = .ok (.lload 7, 2) := by decide +kernel
theorem dL_moves_14 : decode cL_moves 14 = .ok (.lconst 0, 1) := by decide +kernel
theorem dL_moves_15 : decode cL_moves 15 = .ok (.lcmp, 1) := by decide +kernel
theorem dL_moves_16 : decode cL_moves 16 = .ok (.ifCond .le 16, 3) := by decide +kernel
theorem dL_moves_19 : decode cL_moves 19 = .ok (.lload 7, 2) := by decide +kernel
theorem dL_moves_21 : decode cL_moves 21 = .ok (.ldc2_w 79, 3) := by decide +kernel
theorem dL_moves_24 : decode cL_moves 24 = .ok (.ladd, 1) := by decide +kernel
theorem dL_moves_25 : decode cL_moves 25 = .ok (.ldc2_w 81, 3) := by decide +kernel
theorem dL_moves_28 : decode cL_moves 28 = .ok (.ldiv, 1) := by decide +kernel
theorem dL_moves_29 : decode cL_moves 29 = .ok (.goto 4, 3) := by decide +kernel
theorem dL_moves_32 : decode cL_moves 32 = .ok (.lconst 0, 1) := by decide +kernel
theorem dL_moves_33 : decode cL_moves 33 = .ok (.lstore 9, 2) := by decide +kernel
theorem dL_moves_35 : decode cL_moves 35 = .ok (.aload_n 1, 1) := by decide +kernel
theorem dL_moves_36 : decode cL_moves 36 = .ok (.iload 4, 2) := by decide +kernel
theorem dL_moves_38 : decode cL_moves 38 = .ok (.dup2, 1) := by decide +kernel
theorem dL_moves_39 : decode cL_moves 39 = .ok (.laload, 1) := by decide +kernel
theorem dL_moves_40 : decode cL_moves 40 = .ok (.lload 9, 2) := by decide +kernel
theorem dL_moves_42 : decode cL_moves 42 = .ok (.ladd, 1) := by decide +kernel
theorem dL_moves_43 : decode cL_moves 43 = .ok (.lastore, 1) := by decide +kernel
theorem dL_moves_44 : decode cL_moves 44 = .ok (.aload_n 1, 1) := by decide +kernel
theorem dL_moves_45 : decode cL_moves 45 = .ok (.bipush 15, 2) := by decide +kernel
theorem dL_moves_47 : decode cL_moves 47 = .ok (.dup2, 1) := by decide +kernel
theorem dL_moves_48 : decode cL_moves 48 = .ok (.laload, 1) := by decide +kernel
theorem dL_moves_49 : decode cL_moves 49 = .ok (.lload 9, 2) := by decide +kernel
theorem dL_moves_51 : decode cL_moves 51 = .ok (.aload_n 0, 1) := by decide +kernel
theorem dL_moves_52 : decode cL_moves 52 = .ok (.iload 4, 2) := by decide +kernel
theorem dL_moves_54 : decode cL_moves 54 = .ok (.iaload, 1) := by decide +kernel
theorem dL_moves_55 : decode cL_moves 55 = .ok (.i2l, 1) := by decide +kernel
theorem dL_moves_56 : decode cL_moves 56 = .ok (.lmul, 1) := by decide +kernel
theorem dL_moves_57 : decode cL_moves 57 = .ok (.lsub, 1) := by decide +kernel
theorem dL_moves_58 : decode cL_moves 58 = .ok (.lastore, 1) := by decide +kernel
theorem dL_moves_59 : decode cL_moves 59 = .ok (.aload_n 1, 1) := by decide +kernel
theorem dL_moves_60 : decode cL_moves 60 = .ok (.bipush 6, 2) := by decide +kernel
theorem dL_moves_62 : decode cL_moves 62 = .ok (.iload 4, 2) := by decide +kernel
theorem dL_moves_64 : decode cL_moves 64 = .ok (.iadd, 1) := by decide +kernel
theorem dL_moves_65 : decode cL_moves 65 = .ok (.dup2, 1) := by decide +kernel
theorem dL_moves_66 : decode cL_moves 66 = .ok (.laload, 1) := by decide +kernel
theorem dL_moves_67 : decode cL_moves 67 = .ok (.ldc2_w 81, 3) := by decide +kernel
theorem dL_moves_70 : decode cL_moves 70 = .ok (.lload 9, 2) := by decide +kernel
theorem dL_moves_72 : decode cL_moves 72 = .ok (.lmul, 1) := by decide +kernel
theorem dL_moves_73 : decode cL_moves 73 = .ok (.lload 5, 2) := by decide +kernel
theorem dL_moves_75 : decode cL_moves 75 = .ok (.lsub, 1) := by decide +kernel
theorem dL_moves_76 : decode cL_moves 76 = .ok (.ladd, 1) := by decide +kernel
theorem dL_moves_77 : decode cL_moves 77 = .ok (.lastore, 1) := by decide +kernel
theorem dL_moves_78 : decode cL_moves 78 = .ok (.aload_n 2, 1) := by decide +kernel
theorem dL_moves_79 : decode cL_moves 79 = .ok (.bipush 6, 2) := by decide +kernel
theorem dL_moves_81 : decode cL_moves 81 = .ok (.iload_n 3, 1) := by decide +kernel
theorem dL_moves_82 : decode cL_moves 82 = .ok (.imul, 1) := by decide +kernel
theorem dL_moves_83 : decode cL_moves 83 = .ok (.iload 4, 2) := by decide +kernel
theorem dL_moves_85 : decode cL_moves 85 = .ok (.iadd, 1) := by decide +kernel
theorem dL_moves_86 : decode cL_moves 86 = .ok (.dup2, 1) := by decide +kernel
theorem dL_moves_87 : decode cL_moves 87 = .ok (.laload, 1) := by decide +kernel
theorem dL_moves_88 : decode cL_moves 88 = .ok (.lload 5, 2) := by decide +kernel
theorem dL_moves_90 : decode cL_moves 90 = .ok (.ladd, 1) := by decide +kernel
theorem dL_moves_91 : decode cL_moves 91 = .ok (.lastore, 1) := by decide +kernel
theorem dL_moves_92 : decode cL_moves 92 = .ok (.return_, 1) := by decide +kernel
set_option maxRecDepth 20000 in
theorem ggL_trades_L_costs : GoodIn wsL_trades wsL_costs := goodIn_r _ [4, 5, 6, 7, 8, 9] (by decide +kernel) (by decide +kernel)
set_option maxRecDepth 20000 in
theorem gL_trades_L_costs : GoodIn wsL_trades (va_wsS RL 83 yL_costs wsL_costs) := goodIn_app (goodIn_of _ (by decide +kernel)) ggL_trades_L_costs
set_option maxRecDepth 20000 in
theorem ggL_trades_L_moves : GoodIn wsL_trades wsL_moves := goodIn_r _ [12, 13, 14] (by decide +kernel) (by decide +kernel)
set_option maxRecDepth 20000 in
theorem gL_trades_L_moves : GoodIn wsL_trades (va_wsS RL 89 yL_moves wsL_moves) := goodIn_app (goodIn_of _ (by decide +kernel)) ggL_trades_L_moves
theorem dL_trades_0 : decode cL_trades 0 = .ok (.lload 9, 2) := by decide +kernel
theorem dL_trades_2 : decode cL_trades 2 = .ok (.lconst 0, 1) := by decide +kernel
theorem dL_trades_3 : decode cL_trades 3 = .ok (.lcmp, 1) := by decide +kernel
theorem dL_trades_4 : decode cL_trades 4 = .ok (.ifCond .le 14, 3) := by decide +kernel
theorem dL_trades_7 : decode cL_trades 7 = .ok (.lload 11, 2) := by decide +kernel
theorem dL_trades_9 : decode cL_trades 9 = .ok (.lload 11, 2) := by decide +kernel
theorem dL_trades_11 : decode cL_trades 11 = .ok (.invokestatic 83, 3) := by decide +kernel
theorem dL_trades_14 : decode cL_trades 14 = .ok (.ladd, 1) := by decide +kernel
theorem dL_trades_15 : decode cL_trades 15 = .ok (.goto 11, 3) := by decide +kernel
theorem dL_trades_18 : decode cL_trades 18 = .ok (.lload 11, 2) := by decide +kernel
theorem dL_trades_20 : decode cL_trades 20 = .ok (.invokestatic 83, 3) := by decide +kernel
theorem dL_trades_23 : decode cL_trades 23 = .ok (.lload 11, 2) := by decide +kernel
theorem dL_trades_25 : decode cL_trades 25 = .ok (.lsub, 1) := by decide +kernel
theorem dL_trades_26 : decode cL_trades 26 = .ok (.lstore 13, 2) := by decide +kernel
theorem dL_trades_28 : decode cL_trades 28 = .ok (.aload_n 3, 1) := by decide +kernel
theorem dL_trades_29 : decode cL_trades 29 = .ok (.aload 6, 2) := by decide +kernel
theorem dL_trades_31 : decode cL_trades 31 = .ok (.iconst 2, 1) := by decide +kernel
theorem dL_trades_32 : decode cL_trades 32 = .ok (.iaload, 1) := by decide +kernel
theorem dL_trades_33 : decode cL_trades 33 = .ok (.iload 7, 2) := by decide +kernel
theorem dL_trades_35 : decode cL_trades 35 = .ok (.iconst 4, 1) := by decide +kernel
theorem dL_trades_36 : decode cL_trades 36 = .ok (.iload 8, 2) := by decide +kernel
theorem dL_trades_38 : decode cL_trades 38 = .ok (.imul, 1) := by decide +kernel
theorem dL_trades_39 : decode cL_trades 39 = .ok (.iadd, 1) := by decide +kernel
theorem dL_trades_40 : decode cL_trades 40 = .ok (.bipush 32, 2) := by decide +kernel
theorem dL_trades_42 : decode cL_trades 42 = .ok (.aload 6, 2) := by decide +kernel
theorem dL_trades_44 : decode cL_trades 44 = .ok (.iconst 0, 1) := by decide +kernel
theorem dL_trades_45 : decode cL_trades 45 = .ok (.iaload, 1) := by decide +kernel
theorem dL_trades_46 : decode cL_trades 46 = .ok (.imul, 1) := by decide +kernel
theorem dL_trades_47 : decode cL_trades 47 = .ok (.iadd, 1) := by decide +kernel
theorem dL_trades_48 : decode cL_trades 48 = .ok (.iastore, 1) := by decide +kernel
theorem dL_trades_49 : decode cL_trades 49 = .ok (.aload 4, 2) := by decide +kernel
theorem dL_trades_51 : decode cL_trades 51 = .ok (.aload 6, 2) := by decide +kernel
theorem dL_trades_53 : decode cL_trades 53 = .ok (.iconst 2, 1) := by decide +kernel
theorem dL_trades_54 : decode cL_trades 54 = .ok (.iaload, 1) := by decide +kernel
theorem dL_trades_55 : decode cL_trades 55 = .ok (.lload 9, 2) := by decide +kernel
theorem dL_trades_57 : decode cL_trades 57 = .ok (.lastore, 1) := by decide +kernel
theorem dL_trades_58 : decode cL_trades 58 = .ok (.aload 5, 2) := by decide +kernel
theorem dL_trades_60 : decode cL_trades 60 = .ok (.aload 6, 2) := by decide +kernel
theorem dL_trades_62 : decode cL_trades 62 = .ok (.iconst 2, 1) := by decide +kernel
theorem dL_trades_63 : decode cL_trades 63 = .ok (.iaload, 1) := by decide +kernel
theorem dL_trades_64 : decode cL_trades 64 = .ok (.lload 11, 2) := by decide +kernel
theorem dL_trades_66 : decode cL_trades 66 = .ok (.lastore, 1) := by decide +kernel
theorem dL_trades_67 : decode cL_trades 67 = .ok (.aload 6, 2) := by decide +kernel
theorem dL_trades_69 : decode cL_trades 69 = .ok (.iconst 2, 1) := by decide +kernel
theorem dL_trades_70 : decode cL_trades 70 = .ok (.dup2, 1) := by decide +kernel
theorem dL_trades_71 : decode cL_trades 71 = .ok (.iaload, 1) := by decide +kernel
theorem dL_trades_72 : decode cL_trades 72 = .ok (.iconst 1, 1) := by decide +kernel
theorem dL_trades_73 : decode cL_trades 73 = .ok (.iadd, 1) := by decide +kernel
theorem dL_trades_74 : decode cL_trades 74 = .ok (.iastore, 1) := by decide +kernel
theorem dL_trades_75 : decode cL_trades 75 = .ok (.aload_n 1, 1) := by decide +kernel
theorem dL_trades_76 : decode cL_trades 76 = .ok (.bipush 12, 2) := by decide +kernel
theorem dL_trades_78 : decode cL_trades 78 = .ok (.iload 7, 2) := by decide +kernel
theorem dL_trades_80 : decode cL_trades 80 = .ok (.iadd, 1) := by decide +kernel
theorem dL_trades_81 : decode cL_trades 81 = .ok (.dup2, 1) := by decide +kernel
theorem dL_trades_82 : decode cL_trades 82 = .ok (.laload, 1) := by decide +kernel
theorem dL_trades_83 : decode cL_trades 83 = .ok (.lload 13, 2) := by decide +kernel
theorem dL_trades_85 : decode cL_trades 85 = .ok (.lsub, 1) := by decide +kernel
theorem dL_trades_86 : decode cL_trades 86 = .ok (.lastore, 1) := by decide +kernel
theorem dL_trades_87 : decode cL_trades 87 = .ok (.aload_n 1, 1) := by decide +kernel
theorem dL_trades_88 : decode cL_trades 88 = .ok (.bipush 15, 2) := by decide +kernel
theorem dL_trades_90 : decode cL_trades 90 = .ok (.dup2, 1) := by decide +kernel
theorem dL_trades_91 : decode cL_trades 91 = .ok (.laload, 1) := by decide +kernel
theorem dL_trades_92 : decode cL_trades 92 = .ok (.lload 13, 2) := by decide +kernel
theorem dL_trades_94 : decode cL_trades 94 = .ok (.ladd, 1) := by decide +kernel
theorem dL_trades_95 : decode cL_trades 95 = .ok (.lastore, 1) := by decide +kernel
theorem dL_trades_96 : decode cL_trades 96 = .ok (.aload_n 0, 1) := by decide +kernel
theorem dL_trades_97 : decode cL_trades 97 = .ok (.aload_n 1, 1) := by decide +kernel
theorem dL_trades_98 : decode cL_trades 98 = .ok (.aload_n 2, 1) := by decide +kernel
theorem dL_trades_99 : decode cL_trades 99 = .ok (.iload 7, 2) := by decide +kernel
theorem dL_trades_101 : decode cL_trades 101 = .ok (.iload 8, 2) := by decide +kernel
theorem dL_trades_103 : decode cL_trades 103 = .ok (.lload 9, 2) := by decide +kernel
theorem dL_trades_105 : decode cL_trades 105 = .ok (.invokestatic 89, 3) := by decide +kernel
theorem dL_trades_108 : decode cL_trades 108 = .ok (.return_, 1) := by decide +kernel
set_option maxRecDepth 20000 in
theorem ggL_goes_L_costs : GoodIn wsL_goes wsL_costs := goodIn_r _ [5, 6, 7, 8, 9, 10] (by decide +kernel) (by decide +kernel)
set_option maxRecDepth 20000 in
theorem gL_goes_L_costs : GoodIn wsL_goes (va_wsS RL 83 yL_costs wsL_costs) := goodIn_app (goodIn_of _ (by decide +kernel)) ggL_goes_L_costs
theorem dL_goes_0 : decode cL_goes 0 = .ok (.iconst 0, 1) := by decide +kernel
theorem dL_goes_1 : decode cL_goes 1 = .ok (.istore 8, 2) := by decide +kernel
theorem dL_goes_3 : decode cL_goes 3 = .ok (.iload 8, 2) := by decide +kernel
theorem dL_goes_5 : decode cL_goes 5 = .ok (.aload_n 3, 1) := by decide +kernel
theorem dL_goes_6 : decode cL_goes 6 = .ok (.iconst 2, 1) := by decide +kernel
theorem dL_goes_7 : decode cL_goes 7 = .ok (.iaload, 1) := by decide +kernel
theorem dL_goes_8 : decode cL_goes 8 = .ok (.if_icmp .ge 338, 3) := by decide +kernel
theorem dL_goes_11 : decode cL_goes 11 = .ok (.aload_n 0, 1) := by decide +kernel
theorem dL_goes_12 : decode cL_goes 12 = .ok (.iload 8, 2) := by decide +kernel
theorem dL_goes_14 : decode cL_goes 14 = .ok (.iaload, 1) := by decide +kernel
theorem dL_goes_15 : decode cL_goes 15 = .ok (.ldc 93, 2) := by decide +kernel
theorem dL_goes_17 : decode cL_goes 17 = .ok (.if_icmp .ge 32, 3) := by decide +kernel
theorem dL_goes_20 : decode cL_goes 20 = .ok (.aload_n 0, 1) := by decide +kernel
theorem dL_goes_21 : decode cL_goes 21 = .ok (.iload 8, 2) := by decide +kernel
theorem dL_goes_23 : decode cL_goes 23 = .ok (.iaload, 1) := by decide +kernel
theorem dL_goes_24 : decode cL_goes 24 = .ok (.iconst 4, 1) := by decide +kernel
theorem dL_goes_25 : decode cL_goes 25 = .ok (.irem, 1) := by decide +kernel
theorem dL_goes_26 : decode cL_goes 26 = .ok (.iload 6, 2) := by decide +kernel
theorem dL_goes_28 : decode cL_goes 28 = .ok (.if_icmp .ne 21, 3) := by decide +kernel
theorem dL_goes_31 : decode cL_goes 31 = .ok (.aload_n 0, 1) := by decide +kernel
theorem dL_goes_32 : decode cL_goes 32 = .ok (.iload 8, 2) := by decide +kernel
theorem dL_goes_34 : decode cL_goes 34 = .ok (.iaload, 1) := by decide +kernel
theorem dL_goes_35 : decode cL_goes 35 = .ok (.iconst 4, 1) := by decide +kernel
theorem dL_goes_36 : decode cL_goes 36 = .ok (.idiv, 1) := by decide +kernel
theorem dL_goes_37 : decode cL_goes 37 = .ok (.bipush 8, 2) := by decide +kernel
theorem dL_goes_39 : decode cL_goes 39 = .ok (.irem, 1) := by decide +kernel
theorem dL_goes_40 : decode cL_goes 40 = .ok (.iload 7, 2) := by decide +kernel
theorem dL_goes_42 : decode cL_goes 42 = .ok (.if_icmp .ne 7, 3) := by decide +kernel
theorem dL_goes_45 : decode cL_goes 45 = .ok (.iconst 1, 1) := by decide +kernel
theorem dL_goes_46 : decode cL_goes 46 = .ok (.goto 4, 3) := by decide +kernel
theorem dL_goes_49 : decode cL_goes 49 = .ok (.iconst 0, 1) := by decide +kernel
theorem dL_goes_50 : decode cL_goes 50 = .ok (.istore 9, 2) := by decide +kernel
theorem dL_goes_52 : decode cL_goes 52 = .ok (.aload 4, 2) := by decide +kernel
theorem dL_goes_54 : decode cL_goes 54 = .ok (.iload 8, 2) := by decide +kernel
theorem dL_goes_56 : decode cL_goes 56 = .ok (.iload 9, 2) := by decide +kernel
theorem dL_goes_58 : decode cL_goes 58 = .ok (.ifCond .eq 19, 3) := by decide +kernel
theorem dL_goes_61 : decode cL_goes 61 = .ok (.aload_n 1, 1) := by decide +kernel
theorem dL_goes_62 : decode cL_goes 62 = .ok (.iload 8, 2) := by decide +kernel
theorem dL_goes_64 : decode cL_goes 64 = .ok (.laload, 1) := by decide +kernel
theorem dL_goes_65 : decode cL_goes 65 = .ok (.lconst 0, 1) := by decide +kernel
theorem dL_goes_66 : decode cL_goes 66 = .ok (.lcmp, 1) := by decide +kernel
theorem dL_goes_67 : decode cL_goes 67 = .ok (.ifCond .le 10, 3) := by decide +kernel
theorem dL_goes_70 : decode cL_goes 70 = .ok (.aload_n 1, 1) := by decide +kernel
theorem dL_goes_71 : decode cL_goes 71 = .ok (.iload 8, 2) := by decide +kernel
theorem dL_goes_73 : decode cL_goes 73 = .ok (.laload, 1) := by decide +kernel
theorem dL_goes_74 : decode cL_goes 74 = .ok (.goto 4, 3) := by decide +kernel
theorem dL_goes_77 : decode cL_goes 77 = .ok (.lconst 0, 1) := by decide +kernel
theorem dL_goes_78 : decode cL_goes 78 = .ok (.lastore, 1) := by decide +kernel
theorem dL_goes_79 : decode cL_goes 79 = .ok (.aload 4, 2) := by decide +kernel
theorem dL_goes_81 : decode cL_goes 81 = .ok (.bipush 30, 2) := by decide +kernel
theorem dL_goes_83 : decode cL_goes 83 = .ok (.iload 8, 2) := by decide +kernel
theorem dL_goes_85 : decode cL_goes 85 = .ok (.iadd, 1) := by decide +kernel
theorem dL_goes_86 : decode cL_goes 86 = .ok (.iload 9, 2) := by decide +kernel
theorem dL_goes_88 : decode cL_goes 88 = .ok (.ifCond .eq 27, 3) := by decide +kernel
theorem dL_goes_91 : decode cL_goes 91 = .ok (.aload_n 1, 1) := by decide +kernel
theorem dL_goes_92 : decode cL_goes 92 = .ok (.iload 8, 2) := by decide +kernel
theorem dL_goes_94 : decode cL_goes 94 = .ok (.laload, 1) := by decide +kernel
theorem dL_goes_95 : decode cL_goes 95 = .ok (.lconst 0, 1) := by decide +kernel
theorem dL_goes_96 : decode cL_goes 96 = .ok (.lcmp, 1) := by decide +kernel
theorem dL_goes_97 : decode cL_goes 97 = .ok (.ifCond .le 18, 3) := by decide +kernel
theorem dL_goes_100 : decode cL_goes 100 = .ok (.aload_n 2, 1) := by decide +kernel
theorem dL_goes_101 : decode cL_goes 101 = .ok (.iload 8, 2) := by decide +kernel
theorem dL_goes_103 : decode cL_goes 103 = .ok (.laload, 1) := by decide +kernel
theorem dL_goes_104 : decode cL_goes 104 = .ok (.aload_n 2, 1) := by decide +kernel
theorem dL_goes_105 : decode cL_goes 105 = .ok (.iload 8, 2) := by decide +kernel
theorem dL_goes_107 : decode cL_goes 107 = .ok (.laload, 1) := by decide +kernel
theorem dL_goes_108 : decode cL_goes 108 = .ok (.invokestatic 83, 3) := by decide +kernel
theorem dL_goes_111 : decode cL_goes 111 = .ok (.ladd, 1) := by decide +kernel
theorem dL_goes_112 : decode cL_goes 112 = .ok (.goto 4, 3) := by decide +kernel
theorem dL_goes_115 : decode cL_goes 115 = .ok (.lconst 0, 1) := by decide +kernel
theorem dL_goes_116 : decode cL_goes 116 = .ok (.lastore, 1) := by decide +kernel
theorem dL_goes_117 : decode cL_goes 117 = .ok (.iload 9, 2) := by decide +kernel
theorem dL_goes_119 : decode cL_goes 119 = .ok (.ifCond .eq 20, 3) := by decide +kernel
theorem dL_goes_122 : decode cL_goes 122 = .ok (.aload_n 1, 1) := by decide +kernel
theorem dL_goes_123 : decode cL_goes 123 = .ok (.iload 8, 2) := by decide +kernel
theorem dL_goes_125 : decode cL_goes 125 = .ok (.laload, 1) := by decide +kernel
theorem dL_goes_126 : decode cL_goes 126 = .ok (.lconst 0, 1) := by decide +kernel
theorem dL_goes_127 : decode cL_goes 127 = .ok (.lcmp, 1) := by decide +kernel
theorem dL_goes_128 : decode cL_goes 128 = .ok (.ifCond .ge 11, 3) := by decide +kernel
theorem dL_goes_131 : decode cL_goes 131 = .ok (.aload_n 1, 1) := by decide +kernel
theorem dL_goes_132 : decode cL_goes 132 = .ok (.iload 8, 2) := by decide +kernel
theorem dL_goes_134 : decode cL_goes 134 = .ok (.laload, 1) := by decide +kernel
theorem dL_goes_135 : decode cL_goes 135 = .ok (.lneg, 1) := by decide +kernel
theorem dL_goes_136 : decode cL_goes 136 = .ok (.goto 4, 3) := by decide +kernel
theorem dL_goes_139 : decode cL_goes 139 = .ok (.lconst 0, 1) := by decide +kernel
theorem dL_goes_140 : decode cL_goes 140 = .ok (.lstore 10, 2) := by decide +kernel
theorem dL_goes_142 : decode cL_goes 142 = .ok (.lconst 0, 1) := by decide +kernel
theorem dL_goes_143 : decode cL_goes 143 = .ok (.lstore 12, 2) := by decide +kernel
theorem dL_goes_145 : decode cL_goes 145 = .ok (.iconst 0, 1) := by decide +kernel
theorem dL_goes_146 : decode cL_goes 146 = .ok (.istore 14, 2) := by decide +kernel
theorem dL_goes_148 : decode cL_goes 148 = .ok (.iload 14, 2) := by decide +kernel
theorem dL_goes_150 : decode cL_goes 150 = .ok (.iload 8, 2) := by decide +kernel
theorem dL_goes_152 : decode cL_goes 152 = .ok (.if_icmp .ge 128, 3) := by decide +kernel
theorem dL_goes_155 : decode cL_goes 155 = .ok (.lload 10, 2) := by decide +kernel
theorem dL_goes_157 : decode cL_goes 157 = .ok (.lconst 0, 1) := by decide +kernel
theorem dL_goes_158 : decode cL_goes 158 = .ok (.lcmp, 1) := by decide +kernel
theorem dL_goes_159 : decode cL_goes 159 = .ok (.ifCond .le 121, 3) := by decide +kernel
theorem dL_goes_162 : decode cL_goes 162 = .ok (.lload 10, 2) := by decide +kernel
theorem dL_goes_164 : decode cL_goes 164 = .ok (.aload 4, 2) := by decide +kernel
theorem dL_goes_166 : decode cL_goes 166 = .ok (.iload 14, 2) := by decide +kernel
theorem dL_goes_168 : decode cL_goes 168 = .ok (.laload, 1) := by decide +kernel
theorem dL_goes_169 : decode cL_goes 169 = .ok (.lcmp, 1) := by decide +kernel
theorem dL_goes_170 : decode cL_goes 170 = .ok (.ifCond .ge 8, 3) := by decide +kernel
theorem dL_goes_173 : decode cL_goes 173 = .ok (.lload 10, 2) := by decide +kernel
theorem dL_goes_175 : decode cL_goes 175 = .ok (.goto 8, 3) := by decide +kernel
theorem dL_goes_178 : decode cL_goes 178 = .ok (.aload 4, 2) := by decide +kernel
theorem dL_goes_180 : decode cL_goes 180 = .ok (.iload 14, 2) := by decide +kernel
theorem dL_goes_182 : decode cL_goes 182 = .ok (.laload, 1) := by decide +kernel
theorem dL_goes_183 : decode cL_goes 183 = .ok (.lstore 15, 2) := by decide +kernel
theorem dL_goes_185 : decode cL_goes 185 = .ok (.lload 15, 2) := by decide +kernel
theorem dL_goes_187 : decode cL_goes 187 = .ok (.lconst 0, 1) := by decide +kernel
theorem dL_goes_188 : decode cL_goes 188 = .ok (.lcmp, 1) := by decide +kernel
theorem dL_goes_189 : decode cL_goes 189 = .ok (.ifCond .ne 7, 3) := by decide +kernel
theorem dL_goes_192 : decode cL_goes 192 = .ok (.lconst 0, 1) := by decide +kernel
theorem dL_goes_193 : decode cL_goes 193 = .ok (.goto 42, 3) := by decide +kernel
theorem dL_goes_196 : decode cL_goes 196 = .ok (.lload 15, 2) := by decide +kernel
theorem dL_goes_198 : decode cL_goes 198 = .ok (.aload 4, 2) := by decide +kernel
theorem dL_goes_200 : decode cL_goes 200 = .ok (.iload 14, 2) := by decide +kernel
theorem dL_goes_202 : decode cL_goes 202 = .ok (.laload, 1) := by decide +kernel
theorem dL_goes_203 : decode cL_goes 203 = .ok (.lcmp, 1) := by decide +kernel
theorem dL_goes_204 : decode cL_goes 204 = .ok (.ifCond .ne 14, 3) := by decide +kernel
theorem dL_goes_207 : decode cL_goes 207 = .ok (.aload 4, 2) := by decide +kernel
theorem dL_goes_209 : decode cL_goes 209 = .ok (.bipush 30, 2) := by decide +kernel
theorem dL_goes_211 : decode cL_goes 211 = .ok (.iload 14, 2) := by decide +kernel
theorem dL_goes_213 : decode cL_goes 213 = .ok (.iadd, 1) := by decide +kernel
theorem dL_goes_214 : decode cL_goes 214 = .ok (.laload, 1) := by decide +kernel
theorem dL_goes_215 : decode cL_goes 215 = .ok (.goto 20, 3) := by decide +kernel
theorem dL_goes_218 : decode cL_goes 218 = .ok (.aload 4, 2) := by decide +kernel
theorem dL_goes_220 : decode cL_goes 220 = .ok (.bipush 30, 2) := by decide +kernel
theorem dL_goes_222 : decode cL_goes 222 = .ok (.iload 14, 2) := by decide +kernel
theorem dL_goes_224 : decode cL_goes 224 = .ok (.iadd, 1) := by decide +kernel
theorem dL_goes_225 : decode cL_goes 225 = .ok (.laload, 1) := by decide +kernel
theorem dL_goes_226 : decode cL_goes 226 = .ok (.lload 15, 2) := by decide +kernel
theorem dL_goes_228 : decode cL_goes 228 = .ok (.lmul, 1) := by decide +kernel
theorem dL_goes_229 : decode cL_goes 229 = .ok (.aload 4, 2) := by decide +kernel
theorem dL_goes_231 : decode cL_goes 231 = .ok (.iload 14, 2) := by decide +kernel
theorem dL_goes_233 : decode cL_goes 233 = .ok (.laload, 1) := by decide +kernel
theorem dL_goes_234 : decode cL_goes 234 = .ok (.ldiv, 1) := by decide +kernel
theorem dL_goes_235 : decode cL_goes 235 = .ok (.lstore 17, 2) := by decide +kernel
theorem dL_goes_237 : decode cL_goes 237 = .ok (.aload 4, 2) := by decide +kernel
theorem dL_goes_239 : decode cL_goes 239 = .ok (.iload 14, 2) := by decide +kernel
theorem dL_goes_241 : decode cL_goes 241 = .ok (.dup2, 1) := by decide +kernel
theorem dL_goes_242 : decode cL_goes 242 = .ok (.laload, 1) := by decide +kernel
theorem dL_goes_243 : decode cL_goes 243 = .ok (.lload 15, 2) := by decide +kernel
theorem dL_goes_245 : decode cL_goes 245 = .ok (.lsub, 1) := by decide +kernel
theorem dL_goes_246 : decode cL_goes 246 = .ok (.lastore, 1) := by decide +kernel
theorem dL_goes_247 : decode cL_goes 247 = .ok (.aload 4, 2) := by decide +kernel
theorem dL_goes_249 : decode cL_goes 249 = .ok (.bipush 30, 2) := by decide +kernel
theorem dL_goes_251 : decode cL_goes 251 = .ok (.iload 14, 2) := by decide +kernel
theorem dL_goes_253 : decode cL_goes 253 = .ok (.iadd, 1) := by decide +kernel
theorem dL_goes_254 : decode cL_goes 254 = .ok (.dup2, 1) := by decide +kernel
theorem dL_goes_255 : decode cL_goes 255 = .ok (.laload, 1) := by decide +kernel
theorem dL_goes_256 : decode cL_goes 256 = .ok (.lload 17, 2) := by decide +kernel
theorem dL_goes_258 : decode cL_goes 258 = .ok (.lsub, 1) := by decide +kernel
theorem dL_goes_259 : decode cL_goes 259 = .ok (.lastore, 1) := by decide +kernel
theorem dL_goes_260 : decode cL_goes 260 = .ok (.lload 12, 2) := by decide +kernel
theorem dL_goes_262 : decode cL_goes 262 = .ok (.lload 17, 2) := by decide +kernel
theorem dL_goes_264 : decode cL_goes 264 = .ok (.ladd, 1) := by decide +kernel
theorem dL_goes_265 : decode cL_goes 265 = .ok (.lstore 12, 2) := by decide +kernel
theorem dL_goes_267 : decode cL_goes 267 = .ok (.lload 10, 2) := by decide +kernel
theorem dL_goes_269 : decode cL_goes 269 = .ok (.lload 15, 2) := by decide +kernel
theorem dL_goes_271 : decode cL_goes 271 = .ok (.lsub, 1) := by decide +kernel
theorem dL_goes_272 : decode cL_goes 272 = .ok (.lstore 10, 2) := by decide +kernel
theorem dL_goes_274 : decode cL_goes 274 = .ok (.iinc 14 1, 3) := by decide +kernel
theorem dL_goes_277 : decode cL_goes 277 = .ok (.goto (-129), 3) := by decide +kernel
theorem dL_goes_280 : decode cL_goes 280 = .ok (.lload 10, 2) := by decide +kernel
theorem dL_goes_282 : decode cL_goes 282 = .ok (.lconst 0, 1) := by decide +kernel
theorem dL_goes_283 : decode cL_goes 283 = .ok (.lcmp, 1) := by decide +kernel
theorem dL_goes_284 : decode cL_goes 284 = .ok (.ifCond .le 5, 3) := by decide +kernel
theorem dL_goes_287 : decode cL_goes 287 = .ok (.iconst 0, 1) := by decide +kernel
theorem dL_goes_288 : decode cL_goes 288 = .ok (.ireturn, 1) := by decide +kernel
theorem dL_goes_289 : decode cL_goes 289 = .ok (.aload 5, 2) := by decide +kernel
theorem dL_goes_291 : decode cL_goes 291 = .ok (.iload 9, 2) := by decide +kernel
theorem dL_goes_293 : decode cL_goes 293 = .ok (.ifCond .eq 26, 3) := by decide +kernel
theorem dL_goes_296 : decode cL_goes 296 = .ok (.aload_n 1, 1) := by decide +kernel
theorem dL_goes_297 : decode cL_goes 297 = .ok (.iload 8, 2) := by decide +kernel
theorem dL_goes_299 : decode cL_goes 299 = .ok (.laload, 1) := by decide +kernel
theorem dL_goes_300 : decode cL_goes 300 = .ok (.lconst 0, 1) := by decide +kernel
theorem dL_goes_301 : decode cL_goes 301 = .ok (.lcmp, 1) := by decide +kernel
theorem dL_goes_302 : decode cL_goes 302 = .ok (.ifCond .ge 17, 3) := by decide +kernel
theorem dL_goes_305 : decode cL_goes 305 = .ok (.aload_n 0, 1) := by decide +kernel
theorem dL_goes_306 : decode cL_goes 306 = .ok (.iload 8, 2) := by decide +kernel
theorem dL_goes_308 : decode cL_goes 308 = .ok (.iaload, 1) := by decide +kernel
theorem dL_goes_309 : decode cL_goes 309 = .ok (.bipush 32, 2) := by decide +kernel
theorem dL_goes_311 : decode cL_goes 311 = .ok (.idiv, 1) := by decide +kernel
theorem dL_goes_312 : decode cL_goes 312 = .ok (.sipush 360, 3) := by decide +kernel
theorem dL_goes_315 : decode cL_goes 315 = .ok (.idiv, 1) := by decide +kernel
theorem dL_goes_316 : decode cL_goes 316 = .ok (.goto 5, 3) := by decide +kernel
theorem dL_goes_319 : decode cL_goes 319 = .ok (.bipush 21, 2) := by decide +kernel
theorem dL_goes_321 : decode cL_goes 321 = .ok (.dup2, 1) := by decide +kernel
theorem dL_goes_322 : decode cL_goes 322 = .ok (.laload, 1) := by decide +kernel
theorem dL_goes_323 : decode cL_goes 323 = .ok (.aload_n 2, 1) := by decide +kernel
theorem dL_goes_324 : decode cL_goes 324 = .ok (.iload 8, 2) := by decide +kernel
theorem dL_goes_326 : decode cL_goes 326 = .ok (.laload, 1) := by decide +kernel
theorem dL_goes_327 : decode cL_goes 327 = .ok (.aload_n 2, 1) := by decide +kernel
theorem dL_goes_328 : decode cL_goes 328 = .ok (.iload 8, 2) := by decide +kernel
theorem dL_goes_330 : decode cL_goes 330 = .ok (.laload, 1) := by decide +kernel
theorem dL_goes_331 : decode cL_goes 331 = .ok (.invokestatic 83, 3) := by decide +kernel
theorem dL_goes_334 : decode cL_goes 334 = .ok (.lsub, 1) := by decide +kernel
theorem dL_goes_335 : decode cL_goes 335 = .ok (.lload 12, 2) := by decide +kernel
theorem dL_goes_337 : decode cL_goes 337 = .ok (.lsub, 1) := by decide +kernel
theorem dL_goes_338 : decode cL_goes 338 = .ok (.ladd, 1) := by decide +kernel
theorem dL_goes_339 : decode cL_goes 339 = .ok (.lastore, 1) := by decide +kernel
theorem dL_goes_340 : decode cL_goes 340 = .ok (.iinc 8 1, 3) := by decide +kernel
theorem dL_goes_343 : decode cL_goes 343 = .ok (.goto (-340), 3) := by decide +kernel
theorem dL_goes_346 : decode cL_goes 346 = .ok (.iconst 1, 1) := by decide +kernel
theorem dL_goes_347 : decode cL_goes 347 = .ok (.ireturn, 1) := by decide +kernel
set_option maxRecDepth 20000 in
theorem ggL_taxes_L_goes : GoodIn wsL_taxes wsL_goes := goodIn_r _ [4, 5, 6, 7, 3, 8, 9, 10, 11, 12, 13] (by decide +kernel) (by decide +kernel)
set_option maxRecDepth 20000 in
theorem gL_taxes_L_goes : GoodIn wsL_taxes (va_wsS RL 94 yL_goes wsL_goes) := goodIn_app (goodIn_of _ (by decide +kernel)) ggL_taxes_L_goes
theorem dL_taxes_0 : decode cL_taxes 0 = .ok (.iconst 0, 1) := by decide +kernel
theorem dL_taxes_1 : decode cL_taxes 1 = .ok (.istore 7, 2) := by decide +kernel
theorem dL_taxes_3 : decode cL_taxes 3 = .ok (.iload 7, 2) := by decide +kernel
theorem dL_taxes_5 : decode cL_taxes 5 = .ok (.bipush 64, 2) := by decide +kernel
theorem dL_taxes_7 : decode cL_taxes 7 = .ok (.if_icmp .ge 15, 3) := by decide +kernel
theorem dL_taxes_10 : decode cL_taxes 10 = .ok (.aload 5, 2) := by decide +kernel
theorem dL_taxes_12 : decode cL_taxes 12 = .ok (.iload 7, 2) := by decide +kernel
theorem dL_taxes_14 : decode cL_taxes 14 = .ok (.lconst 0, 1) := by decide +kernel
theorem dL_taxes_15 : decode cL_taxes 15 = .ok (.lastore, 1) := by decide +kernel
theorem dL_taxes_16 : decode cL_taxes 16 = .ok (.iinc 7 1, 3) := by decide +kernel
theorem dL_taxes_19 : decode cL_taxes 19 = .ok (.goto (-16), 3) := by decide +kernel
theorem dL_taxes_22 : decode cL_taxes 22 = .ok (.iconst 0, 1) := by decide +kernel
theorem dL_taxes_23 : decode cL_taxes 23 = .ok (.istore 7, 2) := by decide +kernel
theorem dL_taxes_25 : decode cL_taxes 25 = .ok (.iload 7, 2) := by decide +kernel
theorem dL_taxes_27 : decode cL_taxes 27 = .ok (.bipush 6, 2) := by decide +kernel
theorem dL_taxes_29 : decode cL_taxes 29 = .ok (.if_icmp .ge 44, 3) := by decide +kernel
theorem dL_taxes_32 : decode cL_taxes 32 = .ok (.aload_n 0, 1) := by decide +kernel
theorem dL_taxes_33 : decode cL_taxes 33 = .ok (.aload_n 1, 1) := by decide +kernel
theorem dL_taxes_34 : decode cL_taxes 34 = .ok (.aload_n 2, 1) := by decide +kernel
theorem dL_taxes_35 : decode cL_taxes 35 = .ok (.aload_n 3, 1) := by decide +kernel
theorem dL_taxes_36 : decode cL_taxes 36 = .ok (.aload 4, 2) := by decide +kernel
theorem dL_taxes_38 : decode cL_taxes 38 = .ok (.aload 5, 2) := by decide +kernel
theorem dL_taxes_40 : decode cL_taxes 40 = .ok (.iload 6, 2) := by decide +kernel
theorem dL_taxes_42 : decode cL_taxes 42 = .ok (.iload 7, 2) := by decide +kernel
theorem dL_taxes_44 : decode cL_taxes 44 = .ok (.invokestatic 94, 3) := by decide +kernel
theorem dL_taxes_47 : decode cL_taxes 47 = .ok (.istore 8, 2) := by decide +kernel
theorem dL_taxes_49 : decode cL_taxes 49 = .ok (.aload 5, 2) := by decide +kernel
theorem dL_taxes_51 : decode cL_taxes 51 = .ok (.bipush 63, 2) := by decide +kernel
theorem dL_taxes_53 : decode cL_taxes 53 = .ok (.dup2, 1) := by decide +kernel
theorem dL_taxes_54 : decode cL_taxes 54 = .ok (.laload, 1) := by decide +kernel
theorem dL_taxes_55 : decode cL_taxes 55 = .ok (.iload 8, 2) := by decide +kernel
theorem dL_taxes_57 : decode cL_taxes 57 = .ok (.ifCond .eq 7, 3) := by decide +kernel
theorem dL_taxes_60 : decode cL_taxes 60 = .ok (.lconst 0, 1) := by decide +kernel
theorem dL_taxes_61 : decode cL_taxes 61 = .ok (.goto 4, 3) := by decide +kernel
theorem dL_taxes_64 : decode cL_taxes 64 = .ok (.lconst 1, 1) := by decide +kernel
theorem dL_taxes_65 : decode cL_taxes 65 = .ok (.ladd, 1) := by decide +kernel
theorem dL_taxes_66 : decode cL_taxes 66 = .ok (.lastore, 1) := by decide +kernel
theorem dL_taxes_67 : decode cL_taxes 67 = .ok (.iinc 7 1, 3) := by decide +kernel
theorem dL_taxes_70 : decode cL_taxes 70 = .ok (.goto (-45), 3) := by decide +kernel
theorem dL_taxes_73 : decode cL_taxes 73 = .ok (.lconst 0, 1) := by decide +kernel
theorem dL_taxes_74 : decode cL_taxes 74 = .ok (.lstore 7, 2) := by decide +kernel
theorem dL_taxes_76 : decode cL_taxes 76 = .ok (.iconst 0, 1) := by decide +kernel
theorem dL_taxes_77 : decode cL_taxes 77 = .ok (.istore 9, 2) := by decide +kernel
theorem dL_taxes_79 : decode cL_taxes 79 = .ok (.iload 9, 2) := by decide +kernel
theorem dL_taxes_81 : decode cL_taxes 81 = .ok (.bipush 21, 2) := by decide +kernel
theorem dL_taxes_83 : decode cL_taxes 83 = .ok (.if_icmp .ge 55, 3) := by decide +kernel
theorem dL_taxes_86 : decode cL_taxes 86 = .ok (.aload 5, 2) := by decide +kernel
theorem dL_taxes_88 : decode cL_taxes 88 = .ok (.iload 9, 2) := by decide +kernel
theorem dL_taxes_90 : decode cL_taxes 90 = .ok (.laload, 1) := by decide +kernel
theorem dL_taxes_91 : decode cL_taxes 91 = .ok (.lload 7, 2) := by decide +kernel
theorem dL_taxes_93 : decode cL_taxes 93 = .ok (.ladd, 1) := by decide +kernel
theorem dL_taxes_94 : decode cL_taxes 94 = .ok (.lstore 10, 2) := by decide +kernel
theorem dL_taxes_96 : decode cL_taxes 96 = .ok (.aload 5, 2) := by decide +kernel
theorem dL_taxes_98 : decode cL_taxes 98 = .ok (.bipush 22, 2) := by decide +kernel
theorem dL_taxes_100 : decode cL_taxes 100 = .ok (.iload 9, 2) := by decide +kernel
theorem dL_taxes_102 : decode cL_taxes 102 = .ok (.iadd, 1) := by decide +kernel
theorem dL_taxes_103 : decode cL_taxes 103 = .ok (.lload 10, 2) := by decide +kernel
theorem dL_taxes_105 : decode cL_taxes 105 = .ok (.lconst 0, 1) := by decide +kernel
theorem dL_taxes_106 : decode cL_taxes 106 = .ok (.lcmp, 1) := by decide +kernel
theorem dL_taxes_107 : decode cL_taxes 107 = .ok (.ifCond .ge 7, 3) := by decide +kernel
theorem dL_taxes_110 : decode cL_taxes 110 = .ok (.lconst 0, 1) := by decide +kernel
theorem dL_taxes_111 : decode cL_taxes 111 = .ok (.goto 5, 3) := by decide +kernel
theorem dL_taxes_114 : decode cL_taxes 114 = .ok (.lload 10, 2) := by decide +kernel
theorem dL_taxes_116 : decode cL_taxes 116 = .ok (.lastore, 1) := by decide +kernel
theorem dL_taxes_117 : decode cL_taxes 117 = .ok (.lload 10, 2) := by decide +kernel
theorem dL_taxes_119 : decode cL_taxes 119 = .ok (.lconst 0, 1) := by decide +kernel
theorem dL_taxes_120 : decode cL_taxes 120 = .ok (.lcmp, 1) := by decide +kernel
theorem dL_taxes_121 : decode cL_taxes 121 = .ok (.ifCond .ge 8, 3) := by decide +kernel
theorem dL_taxes_124 : decode cL_taxes 124 = .ok (.lload 10, 2) := by decide +kernel
theorem dL_taxes_126 : decode cL_taxes 126 = .ok (.goto 4, 3) := by decide +kernel
theorem dL_taxes_129 : decode cL_taxes 129 = .ok (.lconst 0, 1) := by decide +kernel
theorem dL_taxes_130 : decode cL_taxes 130 = .ok (.lstore 7, 2) := by decide +kernel
theorem dL_taxes_132 : decode cL_taxes 132 = .ok (.iinc 9 1, 3) := by decide +kernel
theorem dL_taxes_135 : decode cL_taxes 135 = .ok (.goto (-56), 3) := by decide +kernel
theorem dL_taxes_138 : decode cL_taxes 138 = .ok (.return_, 1) := by decide +kernel
theorem dL_wealth_0 : decode cL_wealth 0 = .ok (.aload_n 1, 1) := by decide +kernel
theorem dL_wealth_1 : decode cL_wealth 1 = .ok (.bipush 12, 2) := by decide +kernel
theorem dL_wealth_3 : decode cL_wealth 3 = .ok (.iload_n 3, 1) := by decide +kernel
theorem dL_wealth_4 : decode cL_wealth 4 = .ok (.iadd, 1) := by decide +kernel
theorem dL_wealth_5 : decode cL_wealth 5 = .ok (.laload, 1) := by decide +kernel
theorem dL_wealth_6 : decode cL_wealth 6 = .ok (.lstore 4, 2) := by decide +kernel
theorem dL_wealth_8 : decode cL_wealth 8 = .ok (.iconst 0, 1) := by decide +kernel
theorem dL_wealth_9 : decode cL_wealth 9 = .ok (.istore 6, 2) := by decide +kernel
theorem dL_wealth_11 : decode cL_wealth 11 = .ok (.iload 6, 2) := by decide +kernel
theorem dL_wealth_13 : decode cL_wealth 13 = .ok (.bipush 6, 2) := by decide +kernel
theorem dL_wealth_15 : decode cL_wealth 15 = .ok (.if_icmp .ge 33, 3) := by decide +kernel
theorem dL_wealth_18 : decode cL_wealth 18 = .ok (.lload 4, 2) := by decide +kernel
theorem dL_wealth_20 : decode cL_wealth 20 = .ok (.aload_n 2, 1) := by decide +kernel
theorem dL_wealth_21 : decode cL_wealth 21 = .ok (.bipush 6, 2) := by decide +kernel
theorem dL_wealth_23 : decode cL_wealth 23 = .ok (.iload_n 3, 1) := by decide +kernel
theorem dL_wealth_24 : decode cL_wealth 24 = .ok (.imul, 1) := by decide +kernel
theorem dL_wealth_25 : decode cL_wealth 25 = .ok (.iload 6, 2) := by decide +kernel
theorem dL_wealth_27 : decode cL_wealth 27 = .ok (.iadd, 1) := by decide +kernel
theorem dL_wealth_28 : decode cL_wealth 28 = .ok (.laload, 1) := by decide +kernel
theorem dL_wealth_29 : decode cL_wealth 29 = .ok (.aload_n 0, 1) := by decide +kernel
theorem dL_wealth_30 : decode cL_wealth 30 = .ok (.iload 6, 2) := by decide +kernel
theorem dL_wealth_32 : decode cL_wealth 32 = .ok (.iaload, 1) := by decide +kernel
theorem dL_wealth_33 : decode cL_wealth 33 = .ok (.i2l, 1) := by decide +kernel
theorem dL_wealth_34 : decode cL_wealth 34 = .ok (.lmul, 1) := by decide +kernel
theorem dL_wealth_35 : decode cL_wealth 35 = .ok (.ldc2_w 81, 3) := by decide +kernel
theorem dL_wealth_38 : decode cL_wealth 38 = .ok (.ldiv, 1) := by decide +kernel
theorem dL_wealth_39 : decode cL_wealth 39 = .ok (.ladd, 1) := by decide +kernel
theorem dL_wealth_40 : decode cL_wealth 40 = .ok (.lstore 4, 2) := by decide +kernel
theorem dL_wealth_42 : decode cL_wealth 42 = .ok (.iinc 6 1, 3) := by decide +kernel
theorem dL_wealth_45 : decode cL_wealth 45 = .ok (.goto (-34), 3) := by decide +kernel
theorem dL_wealth_48 : decode cL_wealth 48 = .ok (.lload 4, 2) := by decide +kernel
theorem dL_wealth_50 : decode cL_wealth 50 = .ok (.lreturn, 1) := by decide +kernel
set_option maxRecDepth 20000 in
theorem ggL_balances_L_wealth : GoodIn wsL_balances wsL_wealth := goodIn_r _ [6, 2] (by decide +kernel) (by decide +kernel)
set_option maxRecDepth 20000 in
theorem gL_balances_L_wealth : GoodIn wsL_balances (va_wsS RL 98 yL_wealth wsL_wealth) := goodIn_app (goodIn_of _ (by decide +kernel)) ggL_balances_L_wealth
set_option maxRecDepth 20000 in
theorem ggL_balances_L_trades : GoodIn wsL_balances wsL_trades := goodIn_r _ [9, 10, 11, 5, 12, 13, 1, 14, 15, 16, 17, 18, 19, 20, 2] (by decide +kernel) (by decide +kernel)
set_option maxRecDepth 20000 in
theorem gL_balances_L_trades : GoodIn wsL_balances (va_wsS RL 102 yL_trades wsL_trades) := goodIn_app (goodIn_of _ (by decide +kernel)) ggL_balances_L_trades
theorem dL_balances_0 : decode cL_balances 0 = .ok (.aload 7, 2) := by decide +kernel
theorem dL_balances_2 : decode cL_balances 2 = .ok (.iconst 2, 1) := by decide +kernel
theorem dL_balances_3 : decode cL_balances 3 = .ok (.iaload, 1) := by decide +kernel
theorem dL_balances_4 : decode cL_balances 4 = .ok (.istore 9, 2) := by decide +kernel
theorem dL_balances_6 : decode cL_balances 6 = .ok (.aload_n 0, 1) := by decide +kernel
theorem dL_balances_7 : decode cL_balances 7 = .ok (.aload_n 1, 1) := by decide +kernel
theorem dL_balances_8 : decode cL_balances 8 = .ok (.aload_n 2, 1) := by decide +kernel
theorem dL_balances_9 : decode cL_balances 9 = .ok (.iload 8, 2) := by decide +kernel
theorem dL_balances_11 : decode cL_balances 11 = .ok (.invokestatic 98, 3) := by decide +kernel
theorem dL_balances_14 : decode cL_balances 14 = .ok (.lstore 10, 2) := by decide +kernel
theorem dL_balances_16 : decode cL_balances 16 = .ok (.iconst 0, 1) := by decide +kernel
theorem dL_balances_17 : decode cL_balances 17 = .ok (.istore 12, 2) := by decide +kernel
theorem dL_balances_19 : decode cL_balances 19 = .ok (.iload 12, 2) := by decide +kernel
theorem dL_balances_21 : decode cL_balances 21 = .ok (.bipush 12, 2) := by decide +kernel
theorem dL_balances_23 : decode cL_balances 23 = .ok (.if_icmp .ge 240, 3) := by decide +kernel
theorem dL_balances_26 : decode cL_balances 26 = .ok (.iload 12, 2) := by decide +kernel
theorem dL_balances_28 : decode cL_balances 28 = .ok (.bipush 6, 2) := by decide +kernel
theorem dL_balances_30 : decode cL_balances 30 = .ok (.irem, 1) := by decide +kernel
theorem dL_balances_31 : decode cL_balances 31 = .ok (.istore 13, 2) := by decide +kernel
theorem dL_balances_33 : decode cL_balances 33 = .ok (.lload 10, 2) := by decide +kernel
theorem dL_balances_35 : decode cL_balances 35 = .ok (.aload_n 3, 1) := by decide +kernel
theorem dL_balances_36 : decode cL_balances 36 = .ok (.bipush 6, 2) := by decide +kernel
theorem dL_balances_38 : decode cL_balances 38 = .ok (.iload 8, 2) := by decide +kernel
theorem dL_balances_40 : decode cL_balances 40 = .ok (.imul, 1) := by decide +kernel
theorem dL_balances_41 : decode cL_balances 41 = .ok (.iload 13, 2) := by decide +kernel
theorem dL_balances_43 : decode cL_balances 43 = .ok (.iadd, 1) := by decide +kernel
theorem dL_balances_44 : decode cL_balances 44 = .ok (.iaload, 1) := by decide +kernel
theorem dL_balances_45 : decode cL_balances 45 = .ok (.i2l, 1) := by decide +kernel
theorem dL_balances_46 : decode cL_balances 46 = .ok (.lmul, 1) := by decide +kernel
theorem dL_balances_47 : decode cL_balances 47 = .ok (.ldc2_w 71, 3) := by decide +kernel
theorem dL_balances_50 : decode cL_balances 50 = .ok (.ldiv, 1) := by decide +kernel
theorem dL_balances_51 : decode cL_balances 51 = .ok (.lstore 14, 2) := by decide +kernel
theorem dL_balances_53 : decode cL_balances 53 = .ok (.aload_n 2, 1) := by decide +kernel
theorem dL_balances_54 : decode cL_balances 54 = .ok (.bipush 6, 2) := by decide +kernel
theorem dL_balances_56 : decode cL_balances 56 = .ok (.iload 8, 2) := by decide +kernel
theorem dL_balances_58 : decode cL_balances 58 = .ok (.imul, 1) := by decide +kernel
theorem dL_balances_59 : decode cL_balances 59 = .ok (.iload 13, 2) := by decide +kernel
theorem dL_balances_61 : decode cL_balances 61 = .ok (.iadd, 1) := by decide +kernel
theorem dL_balances_62 : decode cL_balances 62 = .ok (.laload, 1) := by decide +kernel
theorem dL_balances_63 : decode cL_balances 63 = .ok (.aload_n 0, 1) := by decide +kernel
theorem dL_balances_64 : decode cL_balances 64 = .ok (.iload 13, 2) := by decide +kernel
theorem dL_balances_66 : decode cL_balances 66 = .ok (.iaload, 1) := by decide +kernel
theorem dL_balances_67 : decode cL_balances 67 = .ok (.i2l, 1) := by decide +kernel
theorem dL_balances_68 : decode cL_balances 68 = .ok (.lmul, 1) := by decide +kernel
theorem dL_balances_69 : decode cL_balances 69 = .ok (.ldc2_w 81, 3) := by decide +kernel
theorem dL_balances_72 : decode cL_balances 72 = .ok (.ldiv, 1) := by decide +kernel
theorem dL_balances_73 : decode cL_balances 73 = .ok (.lload 14, 2) := by decide +kernel
theorem dL_balances_75 : decode cL_balances 75 = .ok (.lsub, 1) := by decide +kernel
theorem dL_balances_76 : decode cL_balances 76 = .ok (.lstore 16, 2) := by decide +kernel
theorem dL_balances_78 : decode cL_balances 78 = .ok (.iload 12, 2) := by decide +kernel
theorem dL_balances_80 : decode cL_balances 80 = .ok (.bipush 6, 2) := by decide +kernel
theorem dL_balances_82 : decode cL_balances 82 = .ok (.if_icmp .ge 68, 3) := by decide +kernel
theorem dL_balances_85 : decode cL_balances 85 = .ok (.lload 16, 2) := by decide +kernel
theorem dL_balances_87 : decode cL_balances 87 = .ok (.lconst 0, 1) := by decide +kernel
theorem dL_balances_88 : decode cL_balances 88 = .ok (.lcmp, 1) := by decide +kernel
theorem dL_balances_89 : decode cL_balances 89 = .ok (.ifCond .le 61, 3) := by decide +kernel
theorem dL_balances_92 : decode cL_balances 92 = .ok (.lload 16, 2) := by decide +kernel
theorem dL_balances_94 : decode cL_balances 94 = .ok (.ldc2_w 81, 3) := by decide +kernel
theorem dL_balances_97 : decode cL_balances 97 = .ok (.lmul, 1) := by decide +kernel
theorem dL_balances_98 : decode cL_balances 98 = .ok (.aload_n 0, 1) := by decide +kernel
theorem dL_balances_99 : decode cL_balances 99 = .ok (.iload 13, 2) := by decide +kernel
theorem dL_balances_101 : decode cL_balances 101 = .ok (.iaload, 1) := by decide +kernel
theorem dL_balances_102 : decode cL_balances 102 = .ok (.i2l, 1) := by decide +kernel
theorem dL_balances_103 : decode cL_balances 103 = .ok (.ldiv, 1) := by decide +kernel
theorem dL_balances_104 : decode cL_balances 104 = .ok (.lstore 18, 2) := by decide +kernel
theorem dL_balances_106 : decode cL_balances 106 = .ok (.lload 18, 2) := by decide +kernel
theorem dL_balances_108 : decode cL_balances 108 = .ok (.aload_n 0, 1) := by decide +kernel
theorem dL_balances_109 : decode cL_balances 109 = .ok (.iload 13, 2) := by decide +kernel
theorem dL_balances_111 : decode cL_balances 111 = .ok (.iaload, 1) := by decide +kernel
theorem dL_balances_112 : decode cL_balances 112 = .ok (.i2l, 1) := by decide +kernel
theorem dL_balances_113 : decode cL_balances 113 = .ok (.lmul, 1) := by decide +kernel
theorem dL_balances_114 : decode cL_balances 114 = .ok (.ldc2_w 81, 3) := by decide +kernel
theorem dL_balances_117 : decode cL_balances 117 = .ok (.ldiv, 1) := by decide +kernel
theorem dL_balances_118 : decode cL_balances 118 = .ok (.lstore 20, 2) := by decide +kernel
theorem dL_balances_120 : decode cL_balances 120 = .ok (.lload 20, 2) := by decide +kernel
theorem dL_balances_122 : decode cL_balances 122 = .ok (.lconst 0, 1) := by decide +kernel
theorem dL_balances_123 : decode cL_balances 123 = .ok (.lcmp, 1) := by decide +kernel
theorem dL_balances_124 : decode cL_balances 124 = .ok (.ifCond .le 26, 3) := by decide +kernel
theorem dL_balances_127 : decode cL_balances 127 = .ok (.aload_n 0, 1) := by decide +kernel
theorem dL_balances_128 : decode cL_balances 128 = .ok (.aload_n 1, 1) := by decide +kernel
theorem dL_balances_129 : decode cL_balances 129 = .ok (.aload_n 2, 1) := by decide +kernel
theorem dL_balances_130 : decode cL_balances 130 = .ok (.aload 4, 2) := by decide +kernel
theorem dL_balances_132 : decode cL_balances 132 = .ok (.aload 5, 2) := by decide +kernel
theorem dL_balances_134 : decode cL_balances 134 = .ok (.aload 6, 2) := by decide +kernel
theorem dL_balances_136 : decode cL_balances 136 = .ok (.aload 7, 2) := by decide +kernel
theorem dL_balances_138 : decode cL_balances 138 = .ok (.iload 8, 2) := by decide +kernel
theorem dL_balances_140 : decode cL_balances 140 = .ok (.iload 13, 2) := by decide +kernel
theorem dL_balances_142 : decode cL_balances 142 = .ok (.lload 18, 2) := by decide +kernel
theorem dL_balances_144 : decode cL_balances 144 = .ok (.lneg, 1) := by decide +kernel
theorem dL_balances_145 : decode cL_balances 145 = .ok (.lload 20, 2) := by decide +kernel
theorem dL_balances_147 : decode cL_balances 147 = .ok (.invokestatic 102, 3) := by decide +kernel
theorem dL_balances_150 : decode cL_balances 150 = .ok (.iload 12, 2) := by decide +kernel
theorem dL_balances_152 : decode cL_balances 152 = .ok (.iconst 5, 1) := by decide +kernel
theorem dL_balances_153 : decode cL_balances 153 = .ok (.if_icmp .le 104, 3) := by decide +kernel
theorem dL_balances_156 : decode cL_balances 156 = .ok (.lload 16, 2) := by decide +kernel
theorem dL_balances_158 : decode cL_balances 158 = .ok (.lconst 0, 1) := by decide +kernel
theorem dL_balances_159 : decode cL_balances 159 = .ok (.lcmp, 1) := by decide +kernel
theorem dL_balances_160 : decode cL_balances 160 = .ok (.ifCond .ge 97, 3) := by decide +kernel
theorem dL_balances_163 : decode cL_balances 163 = .ok (.aload_n 1, 1) := by decide +kernel
theorem dL_balances_164 : decode cL_balances 164 = .ok (.bipush 12, 2) := by decide +kernel
theorem dL_balances_166 : decode cL_balances 166 = .ok (.iload 8, 2) := by decide +kernel
theorem dL_balances_168 : decode cL_balances 168 = .ok (.iadd, 1) := by decide +kernel
theorem dL_balances_169 : decode cL_balances 169 = .ok (.laload, 1) := by decide +kernel
theorem dL_balances_170 : decode cL_balances 170 = .ok (.aload_n 1, 1) := by decide +kernel
theorem dL_balances_171 : decode cL_balances 171 = .ok (.bipush 12, 2) := by decide +kernel
theorem dL_balances_173 : decode cL_balances 173 = .ok (.iload 8, 2) := by decide +kernel
theorem dL_balances_175 : decode cL_balances 175 = .ok (.iadd, 1) := by decide +kernel
theorem dL_balances_176 : decode cL_balances 176 = .ok (.laload, 1) := by decide +kernel
theorem dL_balances_177 : decode cL_balances 177 = .ok (.ldc2_w 71, 3) := by decide +kernel
theorem dL_balances_180 : decode cL_balances 180 = .ok (.ldiv, 1) := by decide +kernel
theorem dL_balances_181 : decode cL_balances 181 = .ok (.lsub, 1) := by decide +kernel
theorem dL_balances_182 : decode cL_balances 182 = .ok (.lstore 18, 2) := by decide +kernel
theorem dL_balances_184 : decode cL_balances 184 = .ok (.lload 16, 2) := by decide +kernel
theorem dL_balances_186 : decode cL_balances 186 = .ok (.lneg, 1) := by decide +kernel
theorem dL_balances_187 : decode cL_balances 187 = .ok (.lload 18, 2) := by decide +kernel
theorem dL_balances_189 : decode cL_balances 189 = .ok (.lcmp, 1) := by decide +kernel
theorem dL_balances_190 : decode cL_balances 190 = .ok (.ifCond .ge 9, 3) := by decide +kernel
theorem dL_balances_193 : decode cL_balances 193 = .ok (.lload 16, 2) := by decide +kernel
theorem dL_balances_195 : decode cL_balances 195 = .ok (.lneg, 1) := by decide +kernel
theorem dL_balances_196 : decode cL_balances 196 = .ok (.goto 5, 3) := by decide +kernel
theorem dL_balances_199 : decode cL_balances 199 = .ok (.lload 18, 2) := by decide +kernel
theorem dL_balances_201 : decode cL_balances 201 = .ok (.lstore 20, 2) := by decide +kernel
theorem dL_balances_203 : decode cL_balances 203 = .ok (.lload 20, 2) := by decide +kernel
theorem dL_balances_205 : decode cL_balances 205 = .ok (.lconst 0, 1) := by decide +kernel
theorem dL_balances_206 : decode cL_balances 206 = .ok (.lcmp, 1) := by decide +kernel
theorem dL_balances_207 : decode cL_balances 207 = .ok (.ifCond .le 18, 3) := by decide +kernel
theorem dL_balances_210 : decode cL_balances 210 = .ok (.lload 20, 2) := by decide +kernel
theorem dL_balances_212 : decode cL_balances 212 = .ok (.ldc2_w 81, 3) := by decide +kernel
theorem dL_balances_215 : decode cL_balances 215 = .ok (.lmul, 1) := by decide +kernel
theorem dL_balances_216 : decode cL_balances 216 = .ok (.aload_n 0, 1) := by decide +kernel
theorem dL_balances_217 : decode cL_balances 217 = .ok (.iload 13, 2) := by decide +kernel
theorem dL_balances_219 : decode cL_balances 219 = .ok (.iaload, 1) := by decide +kernel
theorem dL_balances_220 : decode cL_balances 220 = .ok (.i2l, 1) := by decide +kernel
theorem dL_balances_221 : decode cL_balances 221 = .ok (.ldiv, 1) := by decide +kernel
theorem dL_balances_222 : decode cL_balances 222 = .ok (.goto 4, 3) := by decide +kernel
theorem dL_balances_225 : decode cL_balances 225 = .ok (.lconst 0, 1) := by decide +kernel
theorem dL_balances_226 : decode cL_balances 226 = .ok (.lstore 22, 2) := by decide +kernel
theorem dL_balances_228 : decode cL_balances 228 = .ok (.lload 22, 2) := by decide +kernel
theorem dL_balances_230 : decode cL_balances 230 = .ok (.lconst 0, 1) := by decide +kernel
theorem dL_balances_231 : decode cL_balances 231 = .ok (.lcmp, 1) := by decide +kernel
theorem dL_balances_232 : decode cL_balances 232 = .ok (.ifCond .le 25, 3) := by decide +kernel
theorem dL_balances_235 : decode cL_balances 235 = .ok (.aload_n 0, 1) := by decide +kernel
theorem dL_balances_236 : decode cL_balances 236 = .ok (.aload_n 1, 1) := by decide +kernel
theorem dL_balances_237 : decode cL_balances 237 = .ok (.aload_n 2, 1) := by decide +kernel
theorem dL_balances_238 : decode cL_balances 238 = .ok (.aload 4, 2) := by decide +kernel
theorem dL_balances_240 : decode cL_balances 240 = .ok (.aload 5, 2) := by decide +kernel
theorem dL_balances_242 : decode cL_balances 242 = .ok (.aload 6, 2) := by decide +kernel
theorem dL_balances_244 : decode cL_balances 244 = .ok (.aload 7, 2) := by decide +kernel
theorem dL_balances_246 : decode cL_balances 246 = .ok (.iload 8, 2) := by decide +kernel
theorem dL_balances_248 : decode cL_balances 248 = .ok (.iload 13, 2) := by decide +kernel
theorem dL_balances_250 : decode cL_balances 250 = .ok (.lload 22, 2) := by decide +kernel
theorem dL_balances_252 : decode cL_balances 252 = .ok (.lload 20, 2) := by decide +kernel
theorem dL_balances_254 : decode cL_balances 254 = .ok (.invokestatic 102, 3) := by decide +kernel
theorem dL_balances_257 : decode cL_balances 257 = .ok (.iinc 12 1, 3) := by decide +kernel
theorem dL_balances_260 : decode cL_balances 260 = .ok (.goto (-241), 3) := by decide +kernel
theorem dL_balances_263 : decode cL_balances 263 = .ok (.aload 7, 2) := by decide +kernel
theorem dL_balances_265 : decode cL_balances 265 = .ok (.iconst 2, 1) := by decide +kernel
theorem dL_balances_266 : decode cL_balances 266 = .ok (.iaload, 1) := by decide +kernel
theorem dL_balances_267 : decode cL_balances 267 = .ok (.iload 9, 2) := by decide +kernel
theorem dL_balances_269 : decode cL_balances 269 = .ok (.isub, 1) := by decide +kernel
theorem dL_balances_270 : decode cL_balances 270 = .ok (.ireturn, 1) := by decide +kernel

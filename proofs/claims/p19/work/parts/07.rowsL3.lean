theorem goodIn_1 {big : List Cond} {c : Cond} (i : Nat) (h : big[i]? = some c) (hg : goodWord c = true) : GoodIn big [c] := fun w hw => by
  cases List.mem_singleton.mp hw
  exact ⟨by first | exact List.mem_of_getElem? h | exact List.getElem?_mem h, good_of_word hg⟩
theorem goodIn_cons {big a : List Cond} {c : Cond} (h1 : GoodIn big [c]) (h2 : GoodIn big a) : GoodIn big (c :: a) := fun w hw => (List.mem_cons.mp hw).elim (fun e => h1 w (List.mem_singleton.mpr e)) (h2 w)
set_option maxRecDepth 20000 in
theorem ggL_law_X4_init : GoodIn wsL_law wsX4_init := goodIn_r _ [19, 20, 21, 22, 23, 24, 25, 26, 27, 28, 29, 30, 31, 32, 33, 34, 35, 36, 37, 38, 39, 40, 41, 42, 43, 44, 45, 46, 47, 48, 49, 50, 51, 52, 53, 54, 55, 56, 57, 58, 59, 60, 61, 62, 63, 64, 65, 66, 67, 68, 69, 70, 71, 72, 73, 74, 75, 76, 77, 78, 79, 80, 81, 82, 83, 84, 85, 86, 87, 88, 89, 90, 91, 92, 93, 94, 95, 96, 97, 98, 99, 100, 101, 102, 103, 104, 105, 440, 441, 442, 435, 436, 437, 438, 439, 443, 444, 445, 446] (by decide +kernel) (by decide +kernel)
set_option maxRecDepth 20000 in
theorem gL_law_X4_init : GoodIn wsL_law (wsX4_init) := ggL_law_X4_init
set_option maxRecDepth 20000 in
theorem ggL_law_L_does : GoodIn wsL_law wsL_does := goodIn_ca (goodIn_ca (goodIn_ca (goodIn_r _ [109, 110, 111, 112, 5, 6, 9, 113, 114, 115, 2, 116, 117, 118, 119, 120, 121, 122, 26, 123, 124, 125, 126, 25, 127, 59, 128, 129, 130, 131, 132, 133, 134, 135, 136, 137, 138, 139, 140, 141, 142, 143, 144, 145, 146, 147, 148, 36, 149, 150, 151, 152, 153, 154, 155, 156, 157, 27, 158, 159, 160, 161, 162, 163, 164, 165, 166, 167, 168, 169, 170, 171, 172, 173, 21, 22, 174, 175, 24, 176, 4, 177, 178, 179, 33, 34, 35, 37, 38, 39, 40, 41, 42, 43, 44, 45, 46, 180, 181, 182, 183, 184, 185, 53, 54, 55, 56, 57, 58, 60, 61, 62, 63, 64, 65, 66, 67, 68, 69, 70, 71, 72, 73, 74, 75, 76, 77, 78, 79, 80, 81, 82, 83, 84, 85, 86, 87, 88, 89, 90, 91, 92, 93, 94, 95, 96, 97, 98, 99, 100, 101, 102, 103, 104, 105, 186, 187, 188, 189, 190, 191, 192, 193, 194, 195, 196, 197, 198, 199, 200, 201, 202, 203, 204, 205, 206, 207, 208, 209, 210, 211, 212, 213, 214, 215, 28, 216, 217, 218, 219, 220, 221, 222, 223, 224, 225, 226, 227, 228, 229, 230, 231, 232, 233, 234, 235, 236, 237, 238, 239, 240, 241, 242, 243, 244, 245, 246, 247, 248, 249, 250, 251, 252, 253, 254, 255, 256, 257, 258, 259, 260, 261, 262, 263, 264, 265, 266, 267, 268, 269, 270, 271, 272, 273, 274, 275, 276, 277, 278, 279, 280, 281, 282, 283, 284, 285, 286, 287, 288, 289, 290, 291, 292, 293, 294, 295, 296, 297, 298, 299, 300, 301, 302, 303, 304, 305, 306, 307, 308, 309, 310, 311, 312, 313, 314, 315, 316, 317, 318, 319, 320, 321, 322, 323, 324, 325, 326, 327, 328, 329, 330, 331, 332, 333, 334, 335, 336, 337, 338, 339, 340, 341, 342, 343, 344, 345, 346, 347, 348, 349, 350, 351, 352, 353, 354, 355, 356, 357, 358, 359, 360, 361, 362, 363, 364, 365, 366, 367, 368, 369, 370, 371, 372, 373, 374, 375, 376, 377, 378, 379, 380, 381, 382, 383, 384, 385, 386, 387, 443, 444, 445, 446, 435, 436, 437, 438, 439, 440, 441, 442, 447, 448, 449, 450, 451, 452, 453, 454, 455, 456, 457, 458, 459, 460, 461, 462, 463, 464] (by decide +kernel) (by decide +kernel)) (goodIn_sub (fun _ h => List.mem_append_left _ (List.mem_append_left _ (List.mem_append_right _ h))) (by decide +kernel))) (goodIn_sub (fun _ h => List.mem_append_left _ (List.mem_append_right _ h)) (by decide +kernel))) (goodIn_sub (fun _ h => List.mem_append_right _ h) (by decide +kernel))
set_option maxRecDepth 20000 in
theorem gL_law_L_does : GoodIn wsL_law (va_wsS RL 122 yL_does wsL_does) := goodIn_app (goodIn_of _ (by decide +kernel)) ggL_law_L_does
set_option maxRecDepth 20000 in
theorem ggL_law_X4_cash : GoodIn wsL_law wsX4_cash := goodIn_ca (goodIn_r _ [391, 261, 192, 193, 194, 195, 2, 196, 27, 197, 124, 125, 126, 25, 127, 59, 128, 129, 130, 131, 132, 133, 134, 135, 136, 137, 138, 139, 140, 141, 142, 143, 144, 145, 146, 147, 148, 36, 435, 436, 437, 438, 439, 447, 448, 449, 450, 451, 440, 441, 442] (by decide +kernel) (by decide +kernel)) (goodIn_sub (fun _ h => List.mem_append_left _ (List.mem_append_left _ (List.mem_append_right _ h))) (by decide +kernel))
set_option maxRecDepth 20000 in
theorem gL_law_X4_cash : GoodIn wsL_law (wsV RL 106 RX4 yX4_cash wsX4_cash) := goodIn_app (goodIn_of _ (by decide +kernel)) ggL_law_X4_cash
set_option maxRecDepth 20000 in
theorem ggL_law_L_part : GoodIn wsL_law wsL_part := goodIn_r _ [394, 395] (by decide +kernel) (by decide +kernel)
set_option maxRecDepth 20000 in
theorem gL_law_L_part : GoodIn wsL_law (va_wsS RL 127 yL_part wsL_part) := goodIn_app (goodIn_of _ (by decide +kernel)) ggL_law_L_part
set_option maxRecDepth 20000 in
theorem ggL_law_L_costs : GoodIn wsL_law wsL_costs := goodIn_r _ [398, 399, 400, 401, 402, 403] (by decide +kernel) (by decide +kernel)
set_option maxRecDepth 20000 in
theorem gL_law_L_costs : GoodIn wsL_law (va_wsS RL 83 yL_costs wsL_costs) := goodIn_app (goodIn_of _ (by decide +kernel)) ggL_law_L_costs
set_option maxRecDepth 20000 in
theorem ggL_law_L_trades : GoodIn wsL_law wsL_trades := goodIn_r _ [406, 396, 397, 108, 398, 399, 400, 401, 402, 403, 407, 408, 409, 410, 10] (by decide +kernel) (by decide +kernel)
set_option maxRecDepth 20000 in
theorem gL_law_L_trades : GoodIn wsL_law (va_wsS RL 102 yL_trades wsL_trades) := goodIn_app (goodIn_of _ (by decide +kernel)) ggL_law_L_trades
set_option maxRecDepth 20000 in
theorem ggL_law_L_wealth : GoodIn wsL_law wsL_wealth := goodIn_r _ [413, 10] (by decide +kernel) (by decide +kernel)
set_option maxRecDepth 20000 in
theorem gL_law_L_wealth : GoodIn wsL_law (va_wsS RL 98 yL_wealth wsL_wealth) := goodIn_app (goodIn_of _ (by decide +kernel)) ggL_law_L_wealth
set_option maxRecDepth 20000 in
theorem ggL_law_L_balances : GoodIn wsL_law wsL_balances := goodIn_r _ [416, 400, 10, 411, 412, 108, 413, 404, 405, 406, 396, 397, 398, 399, 401, 402, 403, 407, 408, 409, 410] (by decide +kernel) (by decide +kernel)
set_option maxRecDepth 20000 in
theorem gL_law_L_balances : GoodIn wsL_law (va_wsS RL 140 yL_balances wsL_balances) := goodIn_app (goodIn_of _ (by decide +kernel)) ggL_law_L_balances
set_option maxRecDepth 20000 in
theorem ggL_law_L_goes : GoodIn wsL_law wsL_goes := goodIn_r _ [419, 15, 396, 397, 108, 398, 399, 400, 401, 402, 403] (by decide +kernel) (by decide +kernel)
set_option maxRecDepth 20000 in
theorem gL_law_L_goes : GoodIn wsL_law (va_wsS RL 94 yL_goes wsL_goes) := goodIn_app (goodIn_of _ (by decide +kernel)) ggL_law_L_goes
set_option maxRecDepth 20000 in
theorem ggL_law_L_moves : GoodIn wsL_law wsL_moves := goodIn_r _ [409, 410, 10] (by decide +kernel) (by decide +kernel)
set_option maxRecDepth 20000 in
theorem gL_law_L_moves : GoodIn wsL_law (va_wsS RL 89 yL_moves wsL_moves) := goodIn_app (goodIn_of _ (by decide +kernel)) ggL_law_L_moves
set_option maxRecDepth 20000 in
theorem ggL_law_L_taxes : GoodIn wsL_law wsL_taxes := goodIn_r _ [422, 417, 418, 108, 419, 15, 396, 397, 398, 399, 400, 401, 402, 403] (by decide +kernel) (by decide +kernel)
set_option maxRecDepth 20000 in
theorem gL_law_L_taxes : GoodIn wsL_law (va_wsS RL 114 yL_taxes wsL_taxes) := goodIn_app (goodIn_of _ (by decide +kernel)) ggL_law_L_taxes

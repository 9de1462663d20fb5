set_option maxRecDepth 20000 in
theorem gp_wsL_isSo_r1 : GoodIn wsL_law wsL_isSo_r1 := goodIn_r _ [10, 15, 16, 426, 5, 388, 389, 390, 2, 391, 261, 192, 193, 194, 195, 196, 27, 197, 124, 125, 126, 25, 127, 59] (by decide +kernel) (by decide +kernel)
set_option maxRecDepth 20000 in
theorem gp_wsL_isSo_r2 : GoodIn wsL_law wsL_isSo_r2 := goodIn_r _ [128, 129, 130, 131, 132, 133, 134, 135, 136, 137, 138, 139, 140, 141, 142, 143, 144, 145, 146, 147, 148, 36, 384, 385] (by decide +kernel) (by decide +kernel)
set_option maxRecDepth 20000 in
theorem gp_wsL_isSo_r3 : GoodIn wsL_law wsL_isSo_r3 := goodIn_r _ [386, 387, 263, 262, 119, 120, 121, 122, 26, 123, 204, 205, 206, 207, 161, 208, 427, 428, 429, 430, 269, 431, 432, 433] (by decide +kernel) (by decide +kernel)
set_option maxRecDepth 20000 in
theorem gp_wsL_isSo_r4 : GoodIn wsL_law wsL_isSo_r4 := goodIn_r _ [434, 309, 310, 311, 312, 313, 314, 216, 301, 302, 303, 118, 220, 411, 412, 108, 413, 367, 368, 369, 370, 274, 202, 371] (by decide +kernel) (by decide +kernel)
set_option maxRecDepth 20000 in
theorem gp_wsL_isSo_r5 : GoodIn wsL_law wsL_isSo_r5 := goodIn_r _ [372, 276, 373, 374, 275, 331, 332, 333, 334, 335, 28, 287, 149, 150, 151, 152, 153, 396, 397, 398, 399, 400, 401, 402] (by decide +kernel) (by decide +kernel)
set_option maxRecDepth 20000 in
theorem gp_wsL_isSo_r6 : GoodIn wsL_law wsL_isSo_r6 := goodIn_r _ [403, 420, 421, 422, 417, 418, 419, 375, 376, 377, 378, 294, 351, 352, 353, 354, 355, 288, 289, 74, 290, 356, 357, 358] (by decide +kernel) (by decide +kernel)
set_option maxRecDepth 20000 in
theorem gp_wsL_isSo_r7 : GoodIn wsL_law wsL_isSo_r7 := goodIn_r _ [379, 380, 381, 382, 277, 237, 278, 383, 106, 107, 109, 110, 111, 112, 6, 9, 113, 114, 115, 116, 117, 154, 155, 156] (by decide +kernel) (by decide +kernel)
set_option maxRecDepth 20000 in
theorem gp_wsL_isSo_r8 : GoodIn wsL_law wsL_isSo_r8 := goodIn_r _ [157, 158, 159, 160, 162, 163, 164, 165, 166, 167, 168, 169, 170, 171, 172, 173, 21, 22, 174, 175, 24, 176, 4, 177] (by decide +kernel) (by decide +kernel)
set_option maxRecDepth 20000 in
theorem gp_wsL_isSo_r9 : GoodIn wsL_law wsL_isSo_r9 := goodIn_r _ [178, 179, 33, 34, 35, 37, 38, 39, 40, 41, 42, 43, 44, 45, 46, 180, 181, 182, 183, 184, 185, 53, 54, 55] (by decide +kernel) (by decide +kernel)

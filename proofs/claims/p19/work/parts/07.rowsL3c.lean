set_option maxRecDepth 20000 in
theorem gp_wsL_isSo_r10 : GoodIn wsL_law wsL_isSo_r10 := goodIn_r _ [56, 57, 58, 60, 61, 62, 63, 64, 65, 66, 67, 68, 69, 70, 71, 72, 73, 75, 76, 77, 78, 79, 80, 81] (by decide +kernel) (by decide +kernel)
set_option maxRecDepth 20000 in
theorem gp_wsL_isSo_r11 : GoodIn wsL_law wsL_isSo_r11 := goodIn_r _ [82, 83, 84, 85, 86, 87, 88, 89, 90, 91, 92, 93, 94, 95, 96, 97, 98, 99, 100, 101, 102, 103, 104, 105] (by decide +kernel) (by decide +kernel)
set_option maxRecDepth 20000 in
theorem gp_wsL_isSo_r12 : GoodIn wsL_law wsL_isSo_r12 := goodIn_r _ [186, 187, 188, 189, 190, 191, 198, 199, 200, 201, 203, 209, 210, 211, 212, 213, 214, 215, 217, 218, 219, 221, 222, 223] (by decide +kernel) (by decide +kernel)
set_option maxRecDepth 20000 in
theorem gp_wsL_isSo_r13 : GoodIn wsL_law wsL_isSo_r13 := goodIn_r _ [224, 225, 226, 227, 228, 229, 230, 231, 232, 233, 234, 235, 236, 238, 239, 240, 241, 242, 243, 244, 245, 246, 247, 248] (by decide +kernel) (by decide +kernel)
set_option maxRecDepth 20000 in
theorem gp_wsL_isSo_r14 : GoodIn wsL_law wsL_isSo_r14 := goodIn_r _ [249, 250, 251, 252, 253, 254, 255, 256, 257, 258, 259, 260, 264, 265, 266, 267, 268, 270, 271, 272, 273, 279, 280, 281] (by decide +kernel) (by decide +kernel)
set_option maxRecDepth 20000 in
theorem gp_wsL_isSo_r15 : GoodIn wsL_law wsL_isSo_r15 := goodIn_r _ [282, 283, 284, 285, 286, 291, 292, 293, 295, 296, 297, 298, 299, 300, 304, 305, 306, 307, 308, 315, 316, 317, 318, 319] (by decide +kernel) (by decide +kernel)
set_option maxRecDepth 20000 in
theorem gp_wsL_isSo_r16 : GoodIn wsL_law wsL_isSo_r16 := goodIn_r _ [320, 321, 322, 323, 324, 325, 326, 327, 328, 329, 330, 336, 337, 338, 339, 340, 341, 342, 343, 344, 345, 346, 347, 348] (by decide +kernel) (by decide +kernel)
set_option maxRecDepth 20000 in
theorem gp_wsL_isSo_r17 : GoodIn wsL_law wsL_isSo_r17 := goodIn_r _ [349, 350, 359, 360, 361, 362, 363, 364, 365, 366] (by decide +kernel) (by decide +kernel)

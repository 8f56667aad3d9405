set_option maxRecDepth 20000 in
theorem xg_wsL_refuses_r1 : GoodIn wsL_law wsL_refuses_r1 := goodIn_r _ [4, 122, 418, 419, 420, 2, 421, 422, 23, 423, 14, 424, 24, 425, 426, 427, 13, 428, 429, 34, 35, 37, 183, 41] (by decide +kernel) (by decide +kernel)
set_option maxRecDepth 20000 in
theorem xg_wsL_refuses_r2 : GoodIn wsL_law wsL_refuses_r2 := goodIn_r _ [45, 430, 96, 97, 98, 29, 30, 31, 32, 99, 100, 101, 102, 103, 104, 105, 106, 107, 40, 108, 109, 51, 110, 111] (by decide +kernel) (by decide +kernel)
set_option maxRecDepth 20000 in
theorem xg_wsL_refuses_r3 : GoodIn wsL_law wsL_refuses_r3 := goodIn_r _ [112, 113, 114, 115, 116, 117, 52, 431, 432, 433, 434, 435, 436, 164, 165, 166, 49, 50, 53, 54, 55, 56, 167, 160] (by decide +kernel) (by decide +kernel)
set_option maxRecDepth 20000 in
theorem xg_wsL_refuses_r4 : GoodIn wsL_law wsL_refuses_r4 := goodIn_r _ [161, 162, 437, 438, 439, 44, 440, 197, 60, 441, 304, 305, 68, 306, 73, 171, 307, 308, 309, 310, 79, 80, 176, 177] (by decide +kernel) (by decide +kernel)
set_option maxRecDepth 20000 in
theorem xg_wsL_refuses_r5 : GoodIn wsL_law wsL_refuses_r5 := goodIn_r _ [301, 311, 214, 215, 216, 217, 19, 18, 17, 16, 178, 179, 180, 181, 182, 184, 185, 186, 187, 188, 189, 190, 191, 192] (by decide +kernel) (by decide +kernel)

set_option maxRecDepth 20000 in
theorem xg_wsL_refuses_r11 : GoodIn wsL_law wsL_refuses_r11 := goodIn_r _ [226, 227, 228, 229, 230, 231, 232, 233, 234, 235, 236, 237, 238, 239, 240, 241, 279, 280, 281, 121, 282, 283, 284, 285] (by decide +kernel) (by decide +kernel)
set_option maxRecDepth 20000 in
theorem xg_wsL_refuses_r12 : GoodIn wsL_law wsL_refuses_r12 := goodIn_r _ [127, 128, 272, 273, 274, 286, 287, 288, 289, 203, 204, 205, 206, 207, 208, 209, 139, 210, 211, 212, 213, 218, 219, 220] (by decide +kernel) (by decide +kernel)
set_option maxRecDepth 20000 in
theorem xg_wsL_refuses_r13 : GoodIn wsL_law wsL_refuses_r13 := goodIn_r _ [221, 242, 243, 244, 245, 246, 247, 248, 249, 155, 156, 157, 158, 159, 253, 254, 255, 256, 257, 258, 259, 260, 261, 262] (by decide +kernel) (by decide +kernel)
set_option maxRecDepth 20000 in
theorem xg_wsL_refuses_r14 : GoodIn wsL_law wsL_refuses_r14 := goodIn_r _ [263, 264, 118, 119, 120, 123, 124, 125, 126, 129, 130, 131, 132, 133, 134] (by decide +kernel) (by decide +kernel)

set_option maxRecDepth 20000 in
theorem xg_wsL_refuses_r6 : GoodIn wsL_law wsL_refuses_r6 := goodIn_r _ [193, 194, 195, 196, 198, 88, 89, 90, 91, 92, 93, 94, 81, 82, 83, 95, 326, 327, 328, 329, 330, 331, 332, 140] (by decide +kernel) (by decide +kernel)
set_option maxRecDepth 20000 in
theorem xg_wsL_refuses_r7 : GoodIn wsL_law wsL_refuses_r7 := goodIn_r _ [333, 334, 335, 336, 337, 338, 339, 340, 341, 342, 343, 344, 345, 346, 347, 348, 349, 350, 351, 352, 353, 354, 355, 356] (by decide +kernel) (by decide +kernel)
set_option maxRecDepth 20000 in
theorem xg_wsL_refuses_r8 : GoodIn wsL_law wsL_refuses_r8 := goodIn_r _ [357, 358, 359, 360, 361, 362, 363, 364, 365, 366, 367, 368, 369, 370, 371, 372, 373, 374, 375, 376, 377, 378, 379, 380] (by decide +kernel) (by decide +kernel)
set_option maxRecDepth 20000 in
theorem xg_wsL_refuses_r9 : GoodIn wsL_law wsL_refuses_r9 := goodIn_r _ [381, 382, 383, 384, 385, 386, 387, 388, 389, 390, 391, 392, 393, 394, 395, 396, 397, 398, 399, 400, 401, 402, 403, 290] (by decide +kernel) (by decide +kernel)
set_option maxRecDepth 20000 in
theorem xg_wsL_refuses_r10 : GoodIn wsL_law wsL_refuses_r10 := goodIn_r _ [276, 277, 278, 294, 295, 296, 297, 298, 299, 300, 302, 303, 315, 316, 317, 318, 319, 320, 321, 322, 222, 223, 224, 225] (by decide +kernel) (by decide +kernel)

set_option maxRecDepth 20000 in
theorem ggL_law_X5_setting : GoodIn wsL_law wsX5_setting := goodIn_r _ [504, 304, 71, 141, 142, 5, 143, 144, 145, 146, 147, 148, 825, 826, 827, 828, 829, 830, 831, 832, 833, 834, 835, 836, 837, 838] (by decide +kernel) (by decide +kernel)
set_option maxRecDepth 20000 in
theorem gL_law_X5_setting : GoodIn wsL_law (wsV RL 134 RX5 yX5_setting wsX5_setting) := goodIn_app (goodIn_of _ (by decide +kernel)) ggL_law_X5_setting
set_option maxRecDepth 20000 in
theorem ggL_law_L_water : GoodIn wsL_law wsL_water := goodIn_ca (goodIn_r _ [507, 88, 508, 509, 510, 2, 511, 94, 95, 16, 102, 103, 104, 512, 513, 514, 15, 515, 38, 817, 818, 819, 820, 821, 822, 823, 824, 839, 840, 841, 842, 843, 844, 845, 846, 847, 848, 849, 850, 851, 852, 853] (by decide +kernel) (by decide +kernel)) (goodIn_sub (fun _ h => List.mem_append_left _ (List.mem_append_left _ (List.mem_append_right _ h))) (by decide +kernel))
set_option maxRecDepth 20000 in
theorem gL_law_L_water : GoodIn wsL_law (va_wsS RL 135 yL_water wsL_water) := goodIn_app (goodIn_of _ (by decide +kernel)) ggL_law_L_water
set_option maxRecDepth 20000 in
theorem ggL_law_X5_water : GoodIn wsL_law wsX5_water := goodIn_r _ [519, 520, 71, 141, 142, 5, 143, 144, 145, 146, 147, 148, 825, 826, 827, 828, 829, 830, 831, 832, 833, 834, 835, 836, 837, 838] (by decide +kernel) (by decide +kernel)
set_option maxRecDepth 20000 in
theorem gL_law_X5_water : GoodIn wsL_law (wsV RL 137 RX5 yX5_water wsX5_water) := goodIn_app (goodIn_of _ (by decide +kernel)) ggL_law_X5_water
set_option maxRecDepth 20000 in
theorem ggL_law_L_nightLeak : GoodIn wsL_law wsL_nightLeak := goodIn_ca (goodIn_r _ [523, 89, 524, 525, 526, 2, 527, 96, 97, 16, 528, 529, 817, 818, 819, 820, 821, 822, 823, 824, 839, 840, 841, 842, 843, 844, 845, 846, 847, 848, 849, 850, 851, 852, 853] (by decide +kernel) (by decide +kernel)) (goodIn_sub (fun _ h => List.mem_append_left _ (List.mem_append_right _ h)) (by decide +kernel))
set_option maxRecDepth 20000 in
theorem gL_law_L_nightLeak : GoodIn wsL_law (va_wsS RL 138 yL_nightLeak wsL_nightLeak) := goodIn_app (goodIn_of _ (by decide +kernel)) ggL_law_L_nightLeak
set_option maxRecDepth 20000 in
theorem ggL_law_X5_nightLeak : GoodIn wsL_law wsX5_nightLeak := goodIn_r _ [533, 71, 144, 145, 146, 5, 147, 148, 825, 826, 827, 828, 829, 830, 831, 832, 833, 834, 835, 836, 837, 838] (by decide +kernel) (by decide +kernel)
set_option maxRecDepth 20000 in
theorem gL_law_X5_nightLeak : GoodIn wsL_law (wsV RL 141 RX5 yX5_nightLeak wsX5_nightLeak) := goodIn_app (goodIn_of _ (by decide +kernel)) ggL_law_X5_nightLeak
set_option maxRecDepth 20000 in
theorem ggL_law_L_entry : GoodIn wsL_law wsL_entry := goodIn_ca (goodIn_ca (goodIn_r _ [536, 215, 88, 537, 538, 539, 2, 540, 220, 221, 94, 95, 16, 541, 542, 102, 103, 104, 543, 544, 545, 45, 546, 61, 817, 818, 819, 820, 821, 822, 823, 824, 839, 840, 841, 842, 843, 844, 845, 846, 847, 848, 849, 850, 851, 852, 853, 869, 870] (by decide +kernel) (by decide +kernel)) (goodIn_sub (fun _ h => List.mem_append_right _ h) (by decide +kernel))) (goodIn_sub (fun _ h => List.mem_append_left _ (List.mem_append_left _ (List.mem_append_right _ h))) (by decide +kernel))
set_option maxRecDepth 20000 in
theorem gL_law_L_entry : GoodIn wsL_law (va_wsS RL 142 yL_entry wsL_entry) := goodIn_app (goodIn_of _ (by decide +kernel)) ggL_law_L_entry
set_option maxRecDepth 20000 in
theorem ggL_law_X5_entry : GoodIn wsL_law wsX5_entry := goodIn_r _ [550, 71, 304, 141, 142, 5, 143, 144, 145, 146, 147, 148, 825, 826, 827, 828, 829, 830, 831, 832, 833, 834, 835, 836, 837, 838] (by decide +kernel) (by decide +kernel)
set_option maxRecDepth 20000 in
theorem gL_law_X5_entry : GoodIn wsL_law (wsV RL 144 RX5 yX5_entry wsX5_entry) := goodIn_app (goodIn_of _ (by decide +kernel)) ggL_law_X5_entry
set_option maxRecDepth 20000 in
theorem ggL_law_L_levelIn : GoodIn wsL_law wsL_levelIn := goodIn_ca (goodIn_r _ [553, 88, 554, 555, 556, 2, 557, 94, 95, 17, 16, 99, 102, 103, 104, 109, 110, 111, 15, 112, 31, 32, 33, 34, 113, 114, 115, 116, 117, 118, 36, 119, 120, 121, 122, 37, 38, 42, 46, 123, 124, 125, 41, 126, 127, 50, 128, 51, 52, 53, 54, 55, 56, 57, 129, 130, 131, 45, 132, 133, 61, 134, 319, 320, 321, 322, 323, 324, 325, 326, 327, 328, 329, 330, 331, 332, 333, 334, 335, 336, 337, 338, 339, 340, 341, 342, 343, 344, 345, 346, 347, 348, 349, 350, 351, 352, 353, 354, 355, 356, 357, 358, 359, 360, 361, 362, 363, 364, 365, 277, 278, 279, 366, 367, 368, 369, 370, 371, 372, 373, 374, 375, 376, 377, 378, 379, 380, 381, 382, 383, 384, 385, 386, 387, 388, 389, 390, 391, 392, 393, 229, 230, 231, 232, 817, 818, 819, 820, 821, 822, 823, 824, 839, 840, 841, 842, 843, 844, 845, 846, 847, 848, 849, 850, 851, 852, 853, 860, 861, 862, 863, 864, 865, 866, 867, 868, 869, 870] (by decide +kernel) (by decide +kernel)) (goodIn_sub (fun _ h => List.mem_append_left _ (List.mem_append_left _ (List.mem_append_right _ h))) (by decide +kernel))
set_option maxRecDepth 20000 in
theorem gL_law_L_levelIn : GoodIn wsL_law (va_wsS RL 145 yL_levelIn wsL_levelIn) := goodIn_app (goodIn_of _ (by decide +kernel)) ggL_law_L_levelIn
set_option maxRecDepth 20000 in
theorem ggL_law_X5_levelIn : GoodIn wsL_law wsX5_levelIn := goodIn_r _ [561, 398, 72, 141, 142, 5, 143, 144, 145, 146, 147, 148, 562, 563, 564, 565, 71, 566, 567, 568, 569, 400, 401, 402, 403, 404, 405, 261, 262, 263, 406, 407, 408, 409, 410, 411, 412, 413, 414, 415, 416, 417, 418, 419, 420, 421, 422, 423, 259, 424, 425, 426, 427, 428, 429, 825, 826, 827, 828, 829, 830, 831, 832, 833, 834, 835, 836, 837, 838] (by decide +kernel) (by decide +kernel)
set_option maxRecDepth 20000 in
theorem gL_law_X5_levelIn : GoodIn wsL_law (wsV RL 147 RX5 yX5_levelIn wsX5_levelIn) := goodIn_app (goodIn_of _ (by decide +kernel)) ggL_law_X5_levelIn
set_option maxRecDepth 20000 in
theorem ggL_law_L_startsIn : GoodIn wsL_law wsL_startsIn := goodIn_ca (goodIn_ca (goodIn_r _ [572, 215, 88, 573, 574, 575, 2, 576, 220, 221, 94, 95, 17, 16, 246, 577, 272, 273, 274, 275, 276, 277, 278, 41, 279, 127, 102, 103, 104, 109, 110, 111, 15, 112, 31, 32, 33, 34, 113, 114, 115, 116, 117, 118, 36, 119, 120, 121, 122, 37, 38, 42, 46, 123, 124, 125, 126, 50, 128, 51, 52, 53, 54, 55, 56, 57, 129, 130, 131, 45, 132, 133, 61, 134, 319, 320, 321, 322, 323, 324, 325, 326, 327, 328, 329, 330, 331, 332, 333, 334, 335, 336, 337, 338, 339, 340, 341, 342, 343, 344, 345, 346, 347, 348, 349, 350, 351, 352, 353, 354, 355, 356, 357, 358, 359, 360, 361, 362, 363, 364, 365, 366, 367, 368, 369, 370, 371, 372, 373, 374, 375, 376, 377, 378, 379, 380, 381, 382, 383, 384, 385, 386, 387, 388, 389, 390, 391, 392, 393, 229, 230, 231, 232, 817, 818, 819, 820, 821, 822, 823, 824, 839, 840, 841, 842, 843, 844, 845, 846, 847, 848, 849, 850, 851, 852, 853, 860, 861, 862, 863, 864, 865, 866, 867, 868, 869, 870] (by decide +kernel) (by decide +kernel)) (goodIn_sub (fun _ h => List.mem_append_right _ h) (by decide +kernel))) (goodIn_sub (fun _ h => List.mem_append_left _ (List.mem_append_left _ (List.mem_append_right _ h))) (by decide +kernel))
set_option maxRecDepth 20000 in
theorem gL_law_L_startsIn : GoodIn wsL_law (va_wsS RL 148 yL_startsIn wsL_startsIn) := goodIn_app (goodIn_of _ (by decide +kernel)) ggL_law_L_startsIn
set_option maxRecDepth 20000 in
theorem ggL_law_X5_startsIn : GoodIn wsL_law wsX5_startsIn := goodIn_r _ [581, 398, 72, 71, 284, 285, 286, 5, 287, 141, 142, 143, 144, 145, 146, 147, 148, 562, 563, 564, 565, 566, 567, 568, 569, 400, 401, 402, 403, 404, 405, 261, 262, 263, 406, 407, 408, 409, 410, 411, 412, 413, 414, 415, 416, 417, 418, 419, 420, 421, 422, 423, 259, 424, 425, 426, 427, 428, 429, 825, 826, 827, 828, 829, 830, 831, 832, 833, 834, 835, 836, 837, 838] (by decide +kernel) (by decide +kernel)
set_option maxRecDepth 20000 in
theorem gL_law_X5_startsIn : GoodIn wsL_law (wsV RL 150 RX5 yX5_startsIn wsX5_startsIn) := goodIn_app (goodIn_of _ (by decide +kernel)) ggL_law_X5_startsIn
set_option maxRecDepth 20000 in
theorem ggL_law_L_oathFor : GoodIn wsL_law wsL_oathFor := goodIn_ca (goodIn_r _ [584, 88, 585, 586, 587, 2, 588, 94, 95, 102, 103, 104, 589, 590, 591, 592, 17, 16, 246, 312, 109, 110, 111, 15, 112, 31, 32, 33, 34, 113, 114, 115, 116, 117, 118, 36, 119, 120, 121, 122, 37, 38, 42, 46, 123, 124, 125, 41, 126, 127, 50, 128, 51, 52, 53, 54, 55, 56, 57, 129, 130, 131, 45, 132, 133, 61, 134, 593, 594, 595, 596, 597, 324, 325, 326, 327, 328, 329, 330, 331, 332, 333, 334, 335, 336, 337, 338, 339, 340, 341, 342, 343, 344, 345, 346, 347, 348, 349, 350, 351, 352, 353, 354, 355, 356, 357, 358, 359, 360, 361, 362, 363, 364, 365, 277, 278, 279, 366, 367, 368, 369, 370, 371, 372, 373, 374, 375, 376, 377, 378, 379, 380, 381, 382, 383, 384, 385, 386, 387, 388, 389, 390, 391, 392, 393, 229, 230, 231, 232, 817, 818, 819, 820, 821, 822, 823, 824, 839, 840, 841, 842, 843, 844, 845, 846, 847, 848, 849, 850, 851, 852, 853, 860, 861, 862, 863, 864, 865, 866, 867, 868, 869, 870] (by decide +kernel) (by decide +kernel)) (goodIn_sub (fun _ h => List.mem_append_left _ (List.mem_append_left _ (List.mem_append_right _ h))) (by decide +kernel))
set_option maxRecDepth 20000 in
theorem gL_law_L_oathFor : GoodIn wsL_law (va_wsS RL 151 yL_oathFor wsL_oathFor) := goodIn_app (goodIn_of _ (by decide +kernel)) ggL_law_L_oathFor
set_option maxRecDepth 20000 in
theorem ggL_law_X5_oathFor : GoodIn wsL_law wsX5_oathFor := goodIn_r _ [601, 398, 71, 72, 141, 142, 5, 143, 144, 145, 146, 147, 148, 562, 563, 564, 565, 261, 262, 263, 566, 567, 568, 569, 400, 401, 402, 403, 404, 405, 406, 407, 408, 409, 410, 411, 412, 413, 414, 415, 416, 417, 418, 419, 420, 421, 422, 423, 259, 424, 425, 426, 427, 428, 429, 825, 826, 827, 828, 829, 830, 831, 832, 833, 834, 835, 836, 837, 838] (by decide +kernel) (by decide +kernel)
set_option maxRecDepth 20000 in
theorem gL_law_X5_oathFor : GoodIn wsL_law (wsV RL 153 RX5 yX5_oathFor wsX5_oathFor) := goodIn_app (goodIn_of _ (by decide +kernel)) ggL_law_X5_oathFor
set_option maxRecDepth 20000 in
theorem ggL_law_X4_emptyIn : GoodIn wsL_law wsX4_emptyIn := goodIn_r _ [605, 17, 16, 246, 99, 109, 110, 111, 15, 112, 31, 32, 33, 34, 113, 114, 115, 116, 117, 118, 36, 119, 120, 121, 122, 37, 38, 42, 46, 123, 124, 125, 41, 126, 127, 50, 128, 51, 52, 53, 54, 55, 56, 57, 129, 130, 131, 45, 132, 133, 61, 134, 606, 607, 608, 609, 597, 324, 325, 326, 327, 328, 329, 330, 331, 332, 333, 334, 335, 336, 337, 338, 339, 340, 341, 342, 343, 344, 345, 346, 347, 348, 349, 350, 351, 352, 353, 354, 355, 356, 357, 358, 359, 360, 361, 362, 363, 364, 365, 277, 278, 279, 366, 367, 368, 369, 370, 371, 372, 373, 374, 375, 376, 377, 378, 379, 380, 381, 382, 383, 384, 385, 386, 387, 388, 389, 390, 391, 392, 393, 229, 230, 231, 232, 817, 818, 819, 820, 821, 822, 823, 824, 839, 840, 841, 842, 843, 844, 845, 846, 847, 848, 849, 850, 851, 852, 853, 860, 861, 862, 863, 864, 865, 866, 867, 868, 869, 870] (by decide +kernel) (by decide +kernel)
set_option maxRecDepth 20000 in
theorem gL_law_X4_emptyIn : GoodIn wsL_law (wsV RL 154 RX4 yX4_emptyIn wsX4_emptyIn) := goodIn_app (goodIn_of _ (by decide +kernel)) ggL_law_X4_emptyIn
set_option maxRecDepth 20000 in
theorem ggL_law_X5_emptyIn : GoodIn wsL_law wsX5_emptyIn := goodIn_r _ [613, 71, 72, 304, 144, 145, 146, 5, 147, 148, 562, 563, 564, 565, 261, 262, 263, 400, 401, 402, 398, 403, 404, 405, 406, 407, 408, 409, 410, 411, 412, 413, 414, 415, 416, 417, 418, 419, 420, 421, 422, 423, 259, 424, 425, 426, 427, 428, 429, 825, 826, 827, 828, 829, 830, 831, 832, 833, 834, 835, 836, 837, 838] (by decide +kernel) (by decide +kernel)
set_option maxRecDepth 20000 in
theorem gL_law_X5_emptyIn : GoodIn wsL_law (wsV RL 157 RX5 yX5_emptyIn wsX5_emptyIn) := goodIn_app (goodIn_of _ (by decide +kernel)) ggL_law_X5_emptyIn
set_option maxRecDepth 20000 in
theorem ggL_law_X4_nextStart : GoodIn wsL_law wsX4_nextStart := goodIn_r _ [617, 17, 16, 109, 110, 111, 15, 112, 31, 32, 33, 34, 113, 114, 115, 116, 117, 118, 36, 119, 120, 121, 122, 37, 38, 42, 46, 123, 124, 125, 41, 126, 127, 50, 128, 51, 52, 53, 54, 55, 56, 57, 129, 130, 131, 45, 132, 133, 61, 134, 597, 324, 325, 326, 327, 328, 329, 330, 331, 332, 333, 334, 335, 336, 337, 338, 339, 340, 341, 342, 343, 344, 345, 346, 347, 348, 349, 350, 351, 352, 353, 354, 355, 356, 357, 358, 359, 360, 361, 362, 363, 364, 365, 277, 278, 279, 366, 367, 368, 369, 370, 371, 372, 373, 374, 375, 376, 377, 378, 379, 380, 381, 382, 383, 384, 385, 386, 387, 388, 389, 390, 391, 392, 393, 229, 230, 231, 232, 817, 818, 819, 820, 821, 822, 823, 824, 839, 840, 841, 842, 843, 844, 845, 846, 847, 848, 849, 850, 851, 852, 853, 860, 861, 862, 863, 864, 865, 866, 867, 868, 869, 870] (by decide +kernel) (by decide +kernel)
set_option maxRecDepth 20000 in
theorem gL_law_X4_nextStart : GoodIn wsL_law (wsV RL 158 RX4 yX4_nextStart wsX4_nextStart) := goodIn_app (goodIn_of _ (by decide +kernel)) ggL_law_X4_nextStart
set_option maxRecDepth 20000 in
theorem ggL_law_X5_nextStart : GoodIn wsL_law wsX5_nextStart := goodIn_r _ [621, 72, 144, 145, 146, 5, 147, 148, 562, 563, 564, 565, 71, 622, 623, 624, 625, 261, 262, 263, 400, 401, 402, 398, 403, 404, 405, 406, 407, 408, 409, 410, 411, 412, 413, 414, 415, 416, 417, 418, 419, 420, 421, 422, 423, 259, 424, 425, 426, 427, 428, 429, 825, 826, 827, 828, 829, 830, 831, 832, 833, 834, 835, 836, 837, 838] (by decide +kernel) (by decide +kernel)
set_option maxRecDepth 20000 in
theorem gL_law_X5_nextStart : GoodIn wsL_law (wsV RL 161 RX5 yX5_nextStart wsX5_nextStart) := goodIn_app (goodIn_of _ (by decide +kernel)) ggL_law_X5_nextStart
set_option maxRecDepth 20000 in
theorem ggL_law_X4_honesty : GoodIn wsL_law wsX4_honesty := goodIn_r _ [629, 16, 246, 312, 630, 631, 632, 41, 633, 127, 55, 817, 818, 819, 820, 821, 822, 823, 824, 839, 840, 841, 842, 843, 844, 845, 846, 847, 848, 849, 850, 851, 852, 853, 860, 861, 862, 863, 864, 865, 866, 867, 868] (by decide +kernel) (by decide +kernel)
set_option maxRecDepth 20000 in
theorem gL_law_X4_honesty : GoodIn wsL_law (wsV RL 162 RX4 yX4_honesty wsX4_honesty) := goodIn_app (goodIn_of _ (by decide +kernel)) ggL_law_X4_honesty
set_option maxRecDepth 20000 in
theorem ggL_law_X5_honesty : GoodIn wsL_law wsX5_honesty := goodIn_r _ [637, 71, 144, 145, 146, 5, 147, 148, 261, 262, 263, 825, 826, 827, 828, 829, 830, 831, 832, 833, 834, 835, 836, 837, 838] (by decide +kernel) (by decide +kernel)
set_option maxRecDepth 20000 in
theorem gL_law_X5_honesty : GoodIn wsL_law (wsV RL 166 RX5 yX5_honesty wsX5_honesty) := goodIn_app (goodIn_of _ (by decide +kernel)) ggL_law_X5_honesty
set_option maxRecDepth 20000 in
theorem ggL_law_L_append : GoodIn wsL_law wsL_append := goodIn_ca (goodIn_ca (goodIn_r _ [640, 88, 89, 641, 642, 643, 2, 644, 94, 95, 96, 97, 25, 645, 102, 103, 104, 646, 647, 648, 24, 649, 650, 65, 817, 818, 819, 820, 821, 822, 823, 824, 854, 855, 856, 857, 858, 859] (by decide +kernel) (by decide +kernel)) (goodIn_sub (fun _ h => List.mem_append_left _ (List.mem_append_left _ (List.mem_append_right _ h))) (by decide +kernel))) (goodIn_sub (fun _ h => List.mem_append_left _ (List.mem_append_right _ h)) (by decide +kernel))
set_option maxRecDepth 20000 in
theorem gL_law_L_append : GoodIn wsL_law (va_wsS RL 167 yL_append wsL_append) := goodIn_app (goodIn_of _ (by decide +kernel)) ggL_law_L_append
set_option maxRecDepth 20000 in
theorem ggL_law_X5_append : GoodIn wsL_law wsX5_append := goodIn_r _ [654, 655, 656, 74, 141, 142, 5, 143, 144, 145, 146, 147, 148, 825, 826, 827, 828, 829, 830, 831, 832, 833, 834, 835, 836, 837, 838] (by decide +kernel) (by decide +kernel)
set_option maxRecDepth 20000 in
theorem gL_law_X5_append : GoodIn wsL_law (wsV RL 169 RX5 yX5_append wsX5_append) := goodIn_app (goodIn_of _ (by decide +kernel)) ggL_law_X5_append
set_option maxRecDepth 20000 in
theorem ggL_law_X4_clearText : GoodIn wsL_law wsX4_clearText := goodIn_r _ [660, 25, 645, 817, 818, 819, 820, 821, 822, 823, 824, 854, 855, 856, 857, 858, 859] (by decide +kernel) (by decide +kernel)
set_option maxRecDepth 20000 in
theorem gL_law_X4_clearText : GoodIn wsL_law (wsV RL 170 RX4 yX4_clearText wsX4_clearText) := goodIn_app (goodIn_of _ (by decide +kernel)) ggL_law_X4_clearText
set_option maxRecDepth 20000 in
theorem ggL_law_X5_clearText : GoodIn wsL_law wsX5_clearText := goodIn_r _ [664, 656, 144, 145, 146, 5, 147, 148, 825, 826, 827, 828, 829, 830, 831, 832, 833, 834, 835, 836, 837, 838] (by decide +kernel) (by decide +kernel)
set_option maxRecDepth 20000 in
theorem gL_law_X5_clearText : GoodIn wsL_law (wsV RL 173 RX5 yX5_clearText wsX5_clearText) := goodIn_app (goodIn_of _ (by decide +kernel)) ggL_law_X5_clearText
set_option maxRecDepth 20000 in
theorem ggL_law_X4_carryOut : GoodIn wsL_law wsX4_carryOut := goodIn_r _ [668, 25, 669, 670, 671, 672, 24, 673, 674, 675, 676, 650, 677, 678, 679, 680, 681, 682, 683, 684, 65, 685, 686, 687, 688, 689, 690, 691, 692, 693, 694, 695, 696, 697, 698, 699, 700, 701, 702, 703, 704, 705, 706, 707, 708, 709, 710, 711, 712, 713, 714, 715, 716, 66, 105, 106, 107, 2, 108, 21, 20, 19, 18, 16, 26, 109, 110, 111, 15, 112, 31, 32, 33, 34, 113, 114, 115, 116, 117, 118, 36, 119, 120, 121, 122, 37, 38, 42, 46, 123, 124, 125, 41, 126, 127, 50, 128, 51, 52, 53, 54, 55, 56, 57, 129, 130, 131, 45, 132, 133, 61, 134, 717, 718, 719, 720, 246, 271, 295, 721, 722, 723, 724, 313, 314, 315, 316, 317, 318, 319, 320, 321, 322, 323, 324, 325, 326, 327, 328, 329, 330, 331, 332, 333, 334, 335, 336, 337, 338, 339, 340, 341, 342, 343, 344, 345, 346, 347, 348, 349, 350, 351, 352, 353, 354, 355, 356, 357, 358, 359, 360, 361, 362, 363, 364, 365, 277, 278, 279, 366, 367, 368, 369, 370, 371, 372, 373, 374, 375, 376, 377, 378, 379, 380, 381, 382, 383, 384, 385, 386, 387, 388, 389, 390, 391, 392, 393, 229, 230, 231, 232, 272, 273, 274, 275, 276, 296, 297, 298, 299, 225, 226, 227, 228, 817, 818, 819, 820, 821, 822, 823, 824, 854, 855, 856, 857, 858, 859, 839, 840, 841, 842, 843, 844, 845, 846, 847, 848, 849, 850, 851, 852, 853, 860, 861, 862, 863, 864, 865, 866, 867, 868, 869, 870] (by decide +kernel) (by decide +kernel)
set_option maxRecDepth 20000 in
theorem gL_law_X4_carryOut : GoodIn wsL_law (wsV RL 174 RX4 yX4_carryOut wsX4_carryOut) := goodIn_app (goodIn_of _ (by decide +kernel)) ggL_law_X4_carryOut
set_option maxRecDepth 20000 in
theorem ggL_law_X5_carryOut : GoodIn wsL_law wsX5_carryOut := goodIn_r _ [728, 729, 730, 731, 656, 144, 145, 146, 5, 147, 148, 732, 733, 734, 735, 76, 736, 75, 77, 737, 738, 739, 740, 74, 741, 742, 743, 744, 745, 746, 747, 748, 749, 750, 141, 142, 143, 751, 752, 753, 754, 755, 756, 757, 758, 759, 760, 761, 762, 763, 764, 765, 766, 153, 154, 155, 156, 157, 73, 71, 767, 768, 769, 770, 399, 304, 284, 285, 286, 287, 261, 262, 263, 771, 772, 773, 774, 400, 401, 402, 398, 403, 404, 405, 406, 407, 408, 409, 410, 411, 412, 413, 414, 415, 416, 417, 418, 419, 420, 421, 422, 423, 259, 424, 425, 426, 427, 428, 429, 825, 826, 827, 828, 829, 830, 831, 832, 833, 834, 835, 836, 837, 838] (by decide +kernel) (by decide +kernel)
set_option maxRecDepth 20000 in
theorem gL_law_X5_carryOut : GoodIn wsL_law (wsV RL 177 RX5 yX5_carryOut wsX5_carryOut) := goodIn_app (goodIn_of _ (by decide +kernel)) ggL_law_X5_carryOut
set_option maxRecDepth 20000 in
theorem ggL_law_L_undo : GoodIn wsL_law wsL_undo := goodIn_ca (goodIn_r _ [777, 89, 778, 779, 780, 2, 781, 96, 97, 26, 16, 18, 19, 20, 21, 109, 110, 111, 15, 112, 31, 32, 33, 34, 113, 114, 115, 116, 117, 118, 36, 119, 120, 121, 122, 37, 38, 42, 46, 123, 124, 125, 41, 126, 127, 50, 128, 51, 52, 53, 54, 55, 56, 57, 129, 130, 131, 45, 132, 133, 61, 134, 817, 818, 819, 820, 821, 822, 823, 824, 839, 840, 841, 842, 843, 844, 845, 846, 847, 848, 849, 850, 851, 852, 853, 860, 861, 862, 863, 864, 865, 866, 867, 868, 869, 870] (by decide +kernel) (by decide +kernel)) (goodIn_sub (fun _ h => List.mem_append_left _ (List.mem_append_right _ h)) (by decide +kernel))
set_option maxRecDepth 20000 in
theorem gL_law_L_undo : GoodIn wsL_law (va_wsS RL 178 yL_undo wsL_undo) := goodIn_app (goodIn_of _ (by decide +kernel)) ggL_law_L_undo
set_option maxRecDepth 20000 in
theorem ggL_law_X5_undo : GoodIn wsL_law wsX5_undo := goodIn_r _ [785, 157, 71, 73, 144, 145, 146, 5, 147, 148, 825, 826, 827, 828, 829, 830, 831, 832, 833, 834, 835, 836, 837, 838] (by decide +kernel) (by decide +kernel)
set_option maxRecDepth 20000 in
theorem gL_law_X5_undo : GoodIn wsL_law (wsV RL 180 RX5 yX5_undo wsX5_undo) := goodIn_app (goodIn_of _ (by decide +kernel)) ggL_law_X5_undo
set_option maxRecDepth 20000 in
theorem ggL_law_X4_digest : GoodIn wsL_law wsX4_digest := goodIn_r _ [789, 790, 25, 645, 16, 791, 26, 792, 793, 794, 15, 795, 796, 36, 37, 38, 118, 42, 46, 797, 473, 474, 475, 31, 32, 33, 34, 356, 113, 114, 115, 116, 476, 348, 349, 350, 41, 351, 127, 52, 390, 391, 392, 393, 477, 478, 479, 480, 53, 798, 799, 800, 801, 802, 803, 438, 439, 440, 50, 51, 54, 55, 56, 57, 370, 277, 278, 279, 804, 805, 806, 45, 807, 133, 61, 808, 817, 818, 819, 820, 821, 822, 823, 824, 854, 855, 856, 857, 858, 859, 839, 840, 841, 842, 843, 844, 845, 846, 847, 848, 849, 850, 851, 852, 853, 860, 861, 862, 863, 864, 865, 866, 867, 868, 869, 870] (by decide +kernel) (by decide +kernel)
set_option maxRecDepth 20000 in
theorem gL_law_X4_digest : GoodIn wsL_law (wsV RL 181 RX4 yX4_digest wsX4_digest) := goodIn_app (goodIn_of _ (by decide +kernel)) ggL_law_X4_digest
set_option maxRecDepth 20000 in
theorem ggL_law_X5_digest : GoodIn wsL_law wsX5_digest := goodIn_r _ [812, 813, 656, 814, 71, 815, 816, 157, 144, 145, 146, 5, 147, 148, 486, 487, 488, 489, 490, 491, 492, 409, 410, 411, 261, 262, 263, 446, 447, 448, 449, 450, 451, 452, 825, 826, 827, 828, 829, 830, 831, 832, 833, 834, 835, 836, 837, 838] (by decide +kernel) (by decide +kernel)
set_option maxRecDepth 20000 in
theorem gL_law_X5_digest : GoodIn wsL_law (wsV RL 184 RX5 yX5_digest wsX5_digest) := goodIn_app (goodIn_of _ (by decide +kernel)) ggL_law_X5_digest

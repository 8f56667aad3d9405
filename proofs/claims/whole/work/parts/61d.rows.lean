set_option maxRecDepth 20000 in
theorem ggL_law_X4_init : GoodIn wsL_law wsX4_init := goodIn_r _ [9, 10, 11, 12, 13, 14, 15, 16, 17, 18, 19, 20, 21, 22, 23, 24, 25, 26, 27, 28, 29, 30, 31, 32, 33, 34, 35, 36, 37, 6, 38, 39, 40, 41, 42, 43, 44, 45, 46, 47, 48, 49, 50, 51, 52, 53, 54, 55, 56, 57, 58, 59, 60, 61, 62, 63, 64, 65, 66, 839, 840, 841, 842, 843, 844, 845, 846, 847, 848, 849, 850, 851, 852, 853, 817, 818, 819, 820, 821, 822, 823, 824, 854, 855, 856, 857, 858, 859, 860, 861, 862, 863, 864, 865, 866, 867, 868, 869, 870] (by decide +kernel) (by decide +kernel)
set_option maxRecDepth 20000 in
theorem gL_law_X4_init : GoodIn wsL_law (wsX4_init) := ggL_law_X4_init
set_option maxRecDepth 20000 in
theorem ggL_law_X5_init : GoodIn wsL_law wsX5_init := goodIn_r _ [69, 70, 11, 12, 6, 71, 72, 73, 35, 74, 75, 76, 77, 78, 79, 80, 81, 82, 83, 825, 826, 827, 828, 829, 830, 831, 832, 833, 834, 835, 836, 837, 838] (by decide +kernel) (by decide +kernel)
set_option maxRecDepth 20000 in
theorem gL_law_X5_init : GoodIn wsL_law (wsX5_init) := ggL_law_X5_init
set_option maxRecDepth 20000 in
theorem ggL_law_L_setSize : GoodIn wsL_law wsL_setSize := goodIn_ca (goodIn_ca (goodIn_r _ [87, 88, 89, 90, 91, 92, 2, 93, 94, 95, 96, 97, 98, 16, 99, 100, 101, 102, 103, 104, 105, 106, 107, 108, 21, 20, 19, 18, 26, 109, 110, 111, 15, 112, 31, 32, 33, 34, 113, 114, 115, 116, 117, 118, 36, 119, 120, 121, 122, 37, 38, 42, 46, 123, 124, 125, 41, 126, 127, 50, 128, 51, 52, 53, 54, 55, 56, 57, 129, 130, 131, 45, 132, 133, 61, 134, 817, 818, 819, 820, 821, 822, 823, 824, 839, 840, 841, 842, 843, 844, 845, 846, 847, 848, 849, 850, 851, 852, 853, 860, 861, 862, 863, 864, 865, 866, 867, 868, 869, 870] (by decide +kernel) (by decide +kernel)) (goodIn_sub (fun _ h => List.mem_append_left _ (List.mem_append_left _ (List.mem_append_right _ h))) (by decide +kernel))) (goodIn_sub (fun _ h => List.mem_append_left _ (List.mem_append_right _ h)) (by decide +kernel))
set_option maxRecDepth 20000 in
theorem gL_law_L_setSize : GoodIn wsL_law (va_wsS RL 88 yL_setSize wsL_setSize) := goodIn_app (goodIn_of _ (by decide +kernel)) ggL_law_L_setSize
set_option maxRecDepth 20000 in
theorem ggL_law_X5_setSize : GoodIn wsL_law wsX5_setSize := goodIn_r _ [138, 139, 140, 71, 141, 142, 5, 143, 144, 145, 146, 147, 148, 149, 150, 151, 152, 153, 154, 155, 156, 157, 73, 825, 826, 827, 828, 829, 830, 831, 832, 833, 834, 835, 836, 837, 838] (by decide +kernel) (by decide +kernel)
set_option maxRecDepth 20000 in
theorem gL_law_X5_setSize : GoodIn wsL_law (wsV RL 93 RX5 yX5_setSize wsX5_setSize) := goodIn_app (goodIn_of _ (by decide +kernel)) ggL_law_X5_setSize
set_option maxRecDepth 20000 in
theorem ggL_law_X5_thrown : GoodIn wsL_law wsX5_thrown := goodIn_r _ [161, 148, 825, 826, 827, 828, 829, 830, 831, 832, 833, 834, 835, 836, 837, 838] (by decide +kernel) (by decide +kernel)
set_option maxRecDepth 20000 in
theorem gL_law_X5_thrown : GoodIn wsL_law (wsV RL 94 RX5 yX5_thrown wsX5_thrown) := goodIn_app (goodIn_of _ (by decide +kernel)) ggL_law_X5_thrown
set_option maxRecDepth 20000 in
theorem ggL_law_L_setBand : GoodIn wsL_law wsL_setBand := goodIn_ca (goodIn_ca (goodIn_r _ [164, 88, 89, 165, 166, 167, 2, 168, 94, 95, 96, 97, 16, 101, 100, 169, 105, 106, 107, 108, 21, 20, 19, 18, 26, 109, 110, 111, 15, 112, 31, 32, 33, 34, 113, 114, 115, 116, 117, 118, 36, 119, 120, 121, 122, 37, 38, 42, 46, 123, 124, 125, 41, 126, 127, 50, 128, 51, 52, 53, 54, 55, 56, 57, 129, 130, 131, 45, 132, 133, 61, 134, 817, 818, 819, 820, 821, 822, 823, 824, 839, 840, 841, 842, 843, 844, 845, 846, 847, 848, 849, 850, 851, 852, 853, 860, 861, 862, 863, 864, 865, 866, 867, 868, 869, 870] (by decide +kernel) (by decide +kernel)) (goodIn_sub (fun _ h => List.mem_append_left _ (List.mem_append_left _ (List.mem_append_right _ h))) (by decide +kernel))) (goodIn_sub (fun _ h => List.mem_append_left _ (List.mem_append_right _ h)) (by decide +kernel))
set_option maxRecDepth 20000 in
theorem gL_law_L_setBand : GoodIn wsL_law (va_wsS RL 97 yL_setBand wsL_setBand) := goodIn_app (goodIn_of _ (by decide +kernel)) ggL_law_L_setBand
set_option maxRecDepth 20000 in
theorem ggL_law_X5_setBand : GoodIn wsL_law wsX5_setBand := goodIn_r _ [173, 71, 144, 145, 146, 5, 147, 148, 149, 150, 151, 152, 153, 154, 155, 156, 157, 73, 825, 826, 827, 828, 829, 830, 831, 832, 833, 834, 835, 836, 837, 838] (by decide +kernel) (by decide +kernel)
set_option maxRecDepth 20000 in
theorem gL_law_X5_setBand : GoodIn wsL_law (wsV RL 100 RX5 yX5_setBand wsX5_setBand) := goodIn_app (goodIn_of _ (by decide +kernel)) ggL_law_X5_setBand
set_option maxRecDepth 20000 in
theorem ggL_law_L_setLevel : GoodIn wsL_law wsL_setLevel := goodIn_ca (goodIn_ca (goodIn_r _ [176, 88, 89, 177, 178, 179, 2, 180, 94, 95, 96, 97, 16, 101, 99, 105, 106, 107, 108, 21, 20, 19, 18, 26, 109, 110, 111, 15, 112, 31, 32, 33, 34, 113, 114, 115, 116, 117, 118, 36, 119, 120, 121, 122, 37, 38, 42, 46, 123, 124, 125, 41, 126, 127, 50, 128, 51, 52, 53, 54, 55, 56, 57, 129, 130, 131, 45, 132, 133, 61, 134, 817, 818, 819, 820, 821, 822, 823, 824, 839, 840, 841, 842, 843, 844, 845, 846, 847, 848, 849, 850, 851, 852, 853, 860, 861, 862, 863, 864, 865, 866, 867, 868, 869, 870] (by decide +kernel) (by decide +kernel)) (goodIn_sub (fun _ h => List.mem_append_left _ (List.mem_append_left _ (List.mem_append_right _ h))) (by decide +kernel))) (goodIn_sub (fun _ h => List.mem_append_left _ (List.mem_append_right _ h)) (by decide +kernel))
set_option maxRecDepth 20000 in
theorem gL_law_L_setLevel : GoodIn wsL_law (va_wsS RL 101 yL_setLevel wsL_setLevel) := goodIn_app (goodIn_of _ (by decide +kernel)) ggL_law_L_setLevel
set_option maxRecDepth 20000 in
theorem ggL_law_X5_setLevel : GoodIn wsL_law wsX5_setLevel := goodIn_r _ [184, 71, 144, 145, 146, 5, 147, 148, 149, 150, 151, 152, 153, 154, 155, 156, 157, 73, 825, 826, 827, 828, 829, 830, 831, 832, 833, 834, 835, 836, 837, 838] (by decide +kernel) (by decide +kernel)
set_option maxRecDepth 20000 in
theorem gL_law_X5_setLevel : GoodIn wsL_law (wsV RL 103 RX5 yX5_setLevel wsX5_setLevel) := goodIn_app (goodIn_of _ (by decide +kernel)) ggL_law_X5_setLevel
set_option maxRecDepth 20000 in
theorem ggL_law_L_set : GoodIn wsL_law wsL_set := goodIn_ca (goodIn_r _ [187, 88, 188, 189, 190, 2, 191, 94, 95, 16, 192, 193, 15, 194, 195, 196, 105, 106, 107, 108, 21, 20, 19, 18, 26, 109, 110, 111, 112, 31, 32, 33, 34, 113, 114, 115, 116, 117, 118, 36, 119, 120, 121, 122, 37, 38, 42, 46, 123, 124, 125, 41, 126, 127, 50, 128, 51, 52, 53, 54, 55, 56, 57, 129, 130, 131, 45, 132, 133, 61, 134, 197, 198, 199, 200, 201, 202, 203, 204, 817, 818, 819, 820, 821, 822, 823, 824, 839, 840, 841, 842, 843, 844, 845, 846, 847, 848, 849, 850, 851, 852, 853, 860, 861, 862, 863, 864, 865, 866, 867, 868, 869, 870] (by decide +kernel) (by decide +kernel)) (goodIn_sub (fun _ h => List.mem_append_left _ (List.mem_append_left _ (List.mem_append_right _ h))) (by decide +kernel))
set_option maxRecDepth 20000 in
theorem gL_law_L_set : GoodIn wsL_law (va_wsS RL 104 yL_set wsL_set) := goodIn_app (goodIn_of _ (by decide +kernel)) ggL_law_L_set
set_option maxRecDepth 20000 in
theorem ggL_law_X5_set : GoodIn wsL_law wsX5_set := goodIn_r _ [208, 209, 210, 5, 211, 79, 139, 141, 142, 143, 144, 145, 146, 147, 148, 149, 150, 151, 152, 71, 153, 154, 155, 156, 157, 73, 825, 826, 827, 828, 829, 830, 831, 832, 833, 834, 835, 836, 837, 838] (by decide +kernel) (by decide +kernel)
set_option maxRecDepth 20000 in
theorem gL_law_X5_set : GoodIn wsL_law (wsV RL 106 RX5 yX5_set wsX5_set) := goodIn_app (goodIn_of _ (by decide +kernel)) ggL_law_X5_set
set_option maxRecDepth 20000 in
theorem ggL_law_L_setDemand : GoodIn wsL_law wsL_setDemand := goodIn_ca (goodIn_ca (goodIn_r _ [214, 215, 88, 216, 217, 218, 2, 219, 220, 221, 94, 95, 16, 222, 223, 224, 102, 103, 104, 105, 106, 107, 108, 21, 20, 19, 18, 26, 109, 110, 111, 15, 112, 31, 32, 33, 34, 113, 114, 115, 116, 117, 118, 36, 119, 120, 121, 122, 37, 38, 42, 46, 123, 124, 125, 41, 126, 127, 50, 128, 51, 52, 53, 54, 55, 56, 57, 129, 130, 131, 45, 132, 133, 61, 134, 225, 226, 227, 228, 229, 230, 231, 232, 817, 818, 819, 820, 821, 822, 823, 824, 839, 840, 841, 842, 843, 844, 845, 846, 847, 848, 849, 850, 851, 852, 853, 860, 861, 862, 863, 864, 865, 866, 867, 868, 869, 870] (by decide +kernel) (by decide +kernel)) (goodIn_sub (fun _ h => List.mem_append_right _ h) (by decide +kernel))) (goodIn_sub (fun _ h => List.mem_append_left _ (List.mem_append_left _ (List.mem_append_right _ h))) (by decide +kernel))
set_option maxRecDepth 20000 in
theorem gL_law_L_setDemand : GoodIn wsL_law (va_wsS RL 107 yL_setDemand wsL_setDemand) := goodIn_app (goodIn_of _ (by decide +kernel)) ggL_law_L_setDemand
set_option maxRecDepth 20000 in
theorem ggL_law_X5_setDemand : GoodIn wsL_law wsX5_setDemand := goodIn_r _ [236, 237, 238, 141, 142, 5, 143, 144, 145, 146, 147, 148, 149, 150, 151, 152, 71, 153, 154, 155, 156, 157, 73, 825, 826, 827, 828, 829, 830, 831, 832, 833, 834, 835, 836, 837, 838] (by decide +kernel) (by decide +kernel)
set_option maxRecDepth 20000 in
theorem gL_law_X5_setDemand : GoodIn wsL_law (wsV RL 109 RX5 yX5_setDemand wsX5_setDemand) := goodIn_app (goodIn_of _ (by decide +kernel)) ggL_law_X5_setDemand
set_option maxRecDepth 20000 in
theorem ggL_law_L_addPump : GoodIn wsL_law wsL_addPump := goodIn_ca (goodIn_ca (goodIn_r _ [241, 88, 89, 242, 243, 244, 2, 245, 94, 95, 96, 97, 16, 246, 247, 102, 103, 104, 248, 249, 250, 105, 106, 107, 108, 21, 20, 19, 18, 26, 109, 110, 111, 15, 112, 31, 32, 33, 34, 113, 114, 115, 116, 117, 118, 36, 119, 120, 121, 122, 37, 38, 42, 46, 123, 124, 125, 41, 126, 127, 50, 128, 51, 52, 53, 54, 55, 56, 57, 129, 130, 131, 45, 132, 133, 61, 134, 251, 252, 253, 254, 817, 818, 819, 820, 821, 822, 823, 824, 839, 840, 841, 842, 843, 844, 845, 846, 847, 848, 849, 850, 851, 852, 853, 860, 861, 862, 863, 864, 865, 866, 867, 868, 869, 870] (by decide +kernel) (by decide +kernel)) (goodIn_sub (fun _ h => List.mem_append_left _ (List.mem_append_left _ (List.mem_append_right _ h))) (by decide +kernel))) (goodIn_sub (fun _ h => List.mem_append_left _ (List.mem_append_right _ h)) (by decide +kernel))
set_option maxRecDepth 20000 in
theorem gL_law_L_addPump : GoodIn wsL_law (va_wsS RL 110 yL_addPump wsL_addPump) := goodIn_app (goodIn_of _ (by decide +kernel)) ggL_law_L_addPump
set_option maxRecDepth 20000 in
theorem ggL_law_X5_addPump : GoodIn wsL_law wsX5_addPump := goodIn_r _ [258, 82, 259, 71, 260, 141, 142, 5, 143, 144, 145, 146, 147, 148, 149, 150, 151, 152, 153, 154, 155, 156, 157, 73, 261, 262, 263, 825, 826, 827, 828, 829, 830, 831, 832, 833, 834, 835, 836, 837, 838] (by decide +kernel) (by decide +kernel)
set_option maxRecDepth 20000 in
theorem gL_law_X5_addPump : GoodIn wsL_law (wsV RL 112 RX5 yX5_addPump wsX5_addPump) := goodIn_app (goodIn_of _ (by decide +kernel)) ggL_law_X5_addPump
set_option maxRecDepth 20000 in
theorem ggL_law_L_swear : GoodIn wsL_law wsL_swear := goodIn_ca (goodIn_ca (goodIn_r _ [266, 215, 88, 267, 268, 269, 2, 270, 220, 221, 94, 95, 16, 246, 271, 272, 273, 274, 275, 276, 277, 278, 41, 279, 127, 248, 249, 250, 102, 103, 104, 105, 106, 107, 108, 21, 20, 19, 18, 26, 109, 110, 111, 15, 112, 31, 32, 33, 34, 113, 114, 115, 116, 117, 118, 36, 119, 120, 121, 122, 37, 38, 42, 46, 123, 124, 125, 126, 50, 128, 51, 52, 53, 54, 55, 56, 57, 129, 130, 131, 45, 132, 133, 61, 134, 817, 818, 819, 820, 821, 822, 823, 824, 839, 840, 841, 842, 843, 844, 845, 846, 847, 848, 849, 850, 851, 852, 853, 860, 861, 862, 863, 864, 865, 866, 867, 868, 869, 870] (by decide +kernel) (by decide +kernel)) (goodIn_sub (fun _ h => List.mem_append_right _ h) (by decide +kernel))) (goodIn_sub (fun _ h => List.mem_append_left _ (List.mem_append_left _ (List.mem_append_right _ h))) (by decide +kernel))
set_option maxRecDepth 20000 in
theorem gL_law_L_swear : GoodIn wsL_law (va_wsS RL 113 yL_swear wsL_swear) := goodIn_app (goodIn_of _ (by decide +kernel)) ggL_law_L_swear
set_option maxRecDepth 20000 in
theorem ggL_law_X5_swear : GoodIn wsL_law wsX5_swear := goodIn_r _ [283, 259, 284, 285, 286, 5, 287, 71, 141, 142, 143, 144, 145, 146, 147, 148, 261, 262, 263, 149, 150, 151, 152, 153, 154, 155, 156, 157, 73, 825, 826, 827, 828, 829, 830, 831, 832, 833, 834, 835, 836, 837, 838] (by decide +kernel) (by decide +kernel)
set_option maxRecDepth 20000 in
theorem gL_law_X5_swear : GoodIn wsL_law (wsV RL 115 RX5 yX5_swear wsX5_swear) := goodIn_app (goodIn_of _ (by decide +kernel)) ggL_law_X5_swear
set_option maxRecDepth 20000 in
theorem ggL_law_L_service : GoodIn wsL_law wsL_service := goodIn_ca (goodIn_ca (goodIn_r _ [290, 215, 89, 291, 292, 293, 2, 294, 220, 221, 96, 97, 16, 246, 295, 272, 273, 274, 275, 276, 277, 278, 41, 279, 127, 296, 297, 298, 299, 105, 106, 107, 108, 21, 20, 19, 18, 26, 109, 110, 111, 15, 112, 31, 32, 33, 34, 113, 114, 115, 116, 117, 118, 36, 119, 120, 121, 122, 37, 38, 42, 46, 123, 124, 125, 126, 50, 128, 51, 52, 53, 54, 55, 56, 57, 129, 130, 131, 45, 132, 133, 61, 134, 817, 818, 819, 820, 821, 822, 823, 824, 839, 840, 841, 842, 843, 844, 845, 846, 847, 848, 849, 850, 851, 852, 853, 860, 861, 862, 863, 864, 865, 866, 867, 868, 869, 870] (by decide +kernel) (by decide +kernel)) (goodIn_sub (fun _ h => List.mem_append_right _ h) (by decide +kernel))) (goodIn_sub (fun _ h => List.mem_append_left _ (List.mem_append_right _ h)) (by decide +kernel))
set_option maxRecDepth 20000 in
theorem gL_law_L_service : GoodIn wsL_law (va_wsS RL 116 yL_service wsL_service) := goodIn_app (goodIn_of _ (by decide +kernel)) ggL_law_L_service
set_option maxRecDepth 20000 in
theorem ggL_law_X5_service : GoodIn wsL_law wsX5_service := goodIn_r _ [303, 71, 304, 284, 285, 286, 5, 287, 141, 142, 143, 261, 262, 263, 144, 145, 146, 147, 148, 149, 150, 151, 152, 153, 154, 155, 156, 157, 73, 825, 826, 827, 828, 829, 830, 831, 832, 833, 834, 835, 836, 837, 838] (by decide +kernel) (by decide +kernel)
set_option maxRecDepth 20000 in
theorem gL_law_X5_service : GoodIn wsL_law (wsV RL 119 RX5 yX5_service wsX5_service) := goodIn_app (goodIn_of _ (by decide +kernel)) ggL_law_X5_service
set_option maxRecDepth 20000 in
theorem ggL_law_L_pass : GoodIn wsL_law wsL_pass := goodIn_ca (goodIn_ca (goodIn_r _ [307, 88, 89, 308, 309, 310, 2, 311, 94, 95, 96, 97, 16, 312, 102, 103, 104, 313, 314, 315, 316, 317, 318, 105, 106, 107, 108, 21, 20, 19, 18, 26, 109, 110, 111, 15, 112, 31, 32, 33, 34, 113, 114, 115, 116, 117, 118, 36, 119, 120, 121, 122, 37, 38, 42, 46, 123, 124, 125, 41, 126, 127, 50, 128, 51, 52, 53, 54, 55, 56, 57, 129, 130, 131, 45, 132, 133, 61, 134, 319, 320, 321, 322, 323, 324, 325, 326, 327, 328, 329, 330, 331, 332, 333, 334, 335, 336, 337, 338, 339, 340, 341, 342, 343, 344, 345, 346, 347, 348, 349, 350, 351, 352, 353, 354, 355, 356, 357, 358, 359, 360, 361, 362, 363, 364, 365, 277, 278, 279, 366, 367, 368, 369, 370, 371, 372, 373, 374, 375, 376, 377, 378, 379, 380, 381, 382, 383, 384, 385, 386, 387, 388, 389, 390, 391, 392, 393, 229, 230, 231, 232, 817, 818, 819, 820, 821, 822, 823, 824, 839, 840, 841, 842, 843, 844, 845, 846, 847, 848, 849, 850, 851, 852, 853, 860, 861, 862, 863, 864, 865, 866, 867, 868, 869, 870] (by decide +kernel) (by decide +kernel)) (goodIn_sub (fun _ h => List.mem_append_left _ (List.mem_append_left _ (List.mem_append_right _ h))) (by decide +kernel))) (goodIn_sub (fun _ h => List.mem_append_left _ (List.mem_append_right _ h)) (by decide +kernel))
set_option maxRecDepth 20000 in
theorem gL_law_L_pass : GoodIn wsL_law (va_wsS RL 120 yL_pass wsL_pass) := goodIn_app (goodIn_of _ (by decide +kernel)) ggL_law_L_pass
set_option maxRecDepth 20000 in
theorem ggL_law_X5_pass : GoodIn wsL_law wsX5_pass := goodIn_r _ [397, 398, 71, 399, 141, 142, 5, 143, 144, 145, 146, 147, 148, 153, 154, 155, 156, 157, 73, 400, 401, 402, 403, 404, 405, 261, 262, 263, 406, 407, 408, 409, 410, 411, 412, 413, 414, 415, 416, 417, 418, 419, 420, 421, 422, 423, 259, 424, 425, 426, 427, 428, 429, 825, 826, 827, 828, 829, 830, 831, 832, 833, 834, 835, 836, 837, 838] (by decide +kernel) (by decide +kernel)
set_option maxRecDepth 20000 in
theorem gL_law_X5_pass : GoodIn wsL_law (wsV RL 122 RX5 yX5_pass wsX5_pass) := goodIn_app (goodIn_of _ (by decide +kernel)) ggL_law_X5_pass
set_option maxRecDepth 20000 in
theorem ggL_law_L_pump : GoodIn wsL_law wsL_pump := goodIn_ca (goodIn_ca (goodIn_r _ [432, 215, 88, 433, 434, 435, 2, 436, 220, 221, 94, 95, 16, 246, 272, 273, 274, 275, 276, 277, 278, 41, 279, 127, 102, 103, 104, 437, 438, 439, 440, 50, 51, 52, 53, 54, 55, 56, 57, 370, 817, 818, 819, 820, 821, 822, 823, 824, 839, 840, 841, 842, 843, 844, 845, 846, 847, 848, 849, 850, 851, 852, 853, 860, 861, 862, 863, 864, 865, 866, 867, 868] (by decide +kernel) (by decide +kernel)) (goodIn_sub (fun _ h => List.mem_append_right _ h) (by decide +kernel))) (goodIn_sub (fun _ h => List.mem_append_left _ (List.mem_append_left _ (List.mem_append_right _ h))) (by decide +kernel))
set_option maxRecDepth 20000 in
theorem gL_law_L_pump : GoodIn wsL_law (va_wsS RL 123 yL_pump wsL_pump) := goodIn_app (goodIn_of _ (by decide +kernel)) ggL_law_L_pump
set_option maxRecDepth 20000 in
theorem ggL_law_X5_pump : GoodIn wsL_law wsX5_pump := goodIn_r _ [444, 445, 284, 285, 286, 5, 287, 71, 141, 142, 143, 144, 145, 146, 147, 148, 446, 447, 448, 449, 450, 451, 452, 261, 262, 263, 825, 826, 827, 828, 829, 830, 831, 832, 833, 834, 835, 836, 837, 838] (by decide +kernel) (by decide +kernel)
set_option maxRecDepth 20000 in
theorem gL_law_X5_pump : GoodIn wsL_law (wsV RL 125 RX5 yX5_pump wsX5_pump) := goodIn_app (goodIn_of _ (by decide +kernel)) ggL_law_X5_pump
set_option maxRecDepth 20000 in
theorem ggL_law_L_demand : GoodIn wsL_law wsL_demand := goodIn_ca (goodIn_r _ [455, 215, 456, 457, 458, 2, 459, 220, 221, 16, 222, 223, 224, 102, 103, 104, 460, 230, 231, 15, 232, 37, 817, 818, 819, 820, 821, 822, 823, 824, 839, 840, 841, 842, 843, 844, 845, 846, 847, 848, 849, 850, 851, 852, 853] (by decide +kernel) (by decide +kernel)) (goodIn_sub (fun _ h => List.mem_append_right _ h) (by decide +kernel))
set_option maxRecDepth 20000 in
theorem gL_law_L_demand : GoodIn wsL_law (va_wsS RL 126 yL_demand wsL_demand) := goodIn_app (goodIn_of _ (by decide +kernel)) ggL_law_L_demand
set_option maxRecDepth 20000 in
theorem ggL_law_X5_demand : GoodIn wsL_law wsX5_demand := goodIn_r _ [464, 237, 71, 141, 142, 5, 143, 144, 145, 146, 147, 148, 825, 826, 827, 828, 829, 830, 831, 832, 833, 834, 835, 836, 837, 838] (by decide +kernel) (by decide +kernel)
set_option maxRecDepth 20000 in
theorem gL_law_X5_demand : GoodIn wsL_law (wsV RL 128 RX5 yX5_demand wsX5_demand) := goodIn_app (goodIn_of _ (by decide +kernel)) ggL_law_X5_demand
set_option maxRecDepth 20000 in
theorem ggL_law_L_value : GoodIn wsL_law wsL_value := goodIn_ca (goodIn_r _ [467, 88, 468, 469, 470, 2, 471, 94, 95, 16, 102, 103, 104, 472, 473, 474, 15, 475, 31, 32, 33, 34, 42, 356, 113, 114, 115, 116, 46, 476, 348, 349, 350, 41, 351, 127, 52, 390, 391, 392, 393, 477, 478, 479, 480, 53, 817, 818, 819, 820, 821, 822, 823, 824, 839, 840, 841, 842, 843, 844, 845, 846, 847, 848, 849, 850, 851, 852, 853, 860, 861, 862, 863, 864, 865, 866, 867, 868, 869, 870] (by decide +kernel) (by decide +kernel)) (goodIn_sub (fun _ h => List.mem_append_left _ (List.mem_append_left _ (List.mem_append_right _ h))) (by decide +kernel))
set_option maxRecDepth 20000 in
theorem gL_law_L_value : GoodIn wsL_law (va_wsS RL 129 yL_value wsL_value) := goodIn_app (goodIn_of _ (by decide +kernel)) ggL_law_L_value
set_option maxRecDepth 20000 in
theorem ggL_law_X5_value : GoodIn wsL_law wsX5_value := goodIn_r _ [484, 485, 141, 142, 5, 143, 144, 145, 146, 147, 148, 486, 487, 488, 489, 71, 490, 491, 492, 409, 410, 411, 261, 262, 263, 825, 826, 827, 828, 829, 830, 831, 832, 833, 834, 835, 836, 837, 838] (by decide +kernel) (by decide +kernel)
set_option maxRecDepth 20000 in
theorem gL_law_X5_value : GoodIn wsL_law (wsV RL 131 RX5 yX5_value wsX5_value) := goodIn_app (goodIn_of _ (by decide +kernel)) ggL_law_X5_value
set_option maxRecDepth 20000 in
theorem ggL_law_L_setting : GoodIn wsL_law wsL_setting := goodIn_ca (goodIn_r _ [495, 88, 496, 497, 498, 2, 499, 94, 95, 16, 102, 103, 104, 500, 202, 203, 15, 204, 36, 817, 818, 819, 820, 821, 822, 823, 824, 839, 840, 841, 842, 843, 844, 845, 846, 847, 848, 849, 850, 851, 852, 853] (by decide +kernel) (by decide +kernel)) (goodIn_sub (fun _ h => List.mem_append_left _ (List.mem_append_left _ (List.mem_append_right _ h))) (by decide +kernel))
set_option maxRecDepth 20000 in
theorem gL_law_L_setting : GoodIn wsL_law (va_wsS RL 132 yL_setting wsL_setting) := goodIn_app (goodIn_of _ (by decide +kernel)) ggL_law_L_setting

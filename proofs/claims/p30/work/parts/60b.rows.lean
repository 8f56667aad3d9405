theorem dL_cell_0 : decode cL_cell 0 = .ok (.iload_n 1, 1) := by decide +kernel
theorem dL_cell_1 : decode cL_cell 1 = .ok (.aload_n 0, 1) := by decide +kernel
theorem dL_cell_2 : decode cL_cell 2 = .ok (.arraylength, 1) := by decide +kernel
theorem dL_cell_3 : decode cL_cell 3 = .ok (.if_icmp .ge 9, 3) := by decide +kernel
theorem dL_cell_6 : decode cL_cell 6 = .ok (.aload_n 0, 1) := by decide +kernel
theorem dL_cell_7 : decode cL_cell 7 = .ok (.iload_n 1, 1) := by decide +kernel
theorem dL_cell_8 : decode cL_cell 8 = .ok (.iaload, 1) := by decide +kernel
theorem dL_cell_9 : decode cL_cell 9 = .ok (.goto 11, 3) := by decide +kernel
theorem dL_cell_12 : decode cL_cell 12 = .ok (.sipush 16807, 3) := by decide +kernel
theorem dL_cell_15 : decode cL_cell 15 = .ok (.iload_n 1, 1) := by decide +kernel
theorem dL_cell_16 : decode cL_cell 16 = .ok (.bipush 13, 2) := by decide +kernel
theorem dL_cell_18 : decode cL_cell 18 = .ok (.iadd, 1) := by decide +kernel
theorem dL_cell_19 : decode cL_cell 19 = .ok (.imul, 1) := by decide +kernel
theorem dL_cell_20 : decode cL_cell 20 = .ok (.ldc 7, 2) := by decide +kernel
theorem dL_cell_22 : decode cL_cell 22 = .ok (.iand, 1) := by decide +kernel
theorem dL_cell_23 : decode cL_cell 23 = .ok (.ireturn, 1) := by decide +kernel
set_option maxRecDepth 20000 in
theorem ggL_sizes_X4_setSize : GoodIn wsL_sizes wsX4_setSize := goodIn_ca (goodIn_ca (goodIn_r _ [9, 10, 11, 12, 13, 14, 15, 16, 17, 18, 19, 20, 8, 21, 22, 23, 24, 25, 26, 27, 28, 29, 30, 31, 32, 33, 34, 35, 36, 37, 38, 39, 40, 41, 42, 43, 44, 45, 46, 47, 48, 49, 50, 51, 52, 53, 54, 55, 56, 57, 58, 59, 60, 61, 62, 63, 64, 65, 66, 67, 68, 69, 70, 71, 72, 73, 74, 75, 76, 77, 78, 79, 80, 81, 82, 83, 84, 85, 86, 87, 88, 89, 90, 91, 92, 93, 94, 95, 96, 97, 98, 99, 100, 101, 102, 103, 104, 105, 106, 107, 108, 109, 110, 111] (by decide +kernel) (by decide +kernel)) (goodIn_sub (fun _ h => List.mem_cons_of_mem _ (List.mem_append_left _ (List.mem_append_right _ h))) (by decide +kernel))) (goodIn_sub (fun _ h => List.mem_cons_of_mem _ (List.mem_append_right _ h)) (by decide +kernel))
set_option maxRecDepth 20000 in
theorem gL_sizes_X4_setSize : GoodIn wsL_sizes (wsV RL 8 RX4 yX4_setSize wsX4_setSize) := goodIn_app (goodIn_of _ (by decide +kernel)) ggL_sizes_X4_setSize
theorem dL_sizes_0 : decode cL_sizes 0 = .ok (.aload_n 0, 1) := by decide +kernel
theorem dL_sizes_1 : decode cL_sizes 1 = .ok (.iload_n 1, 1) := by decide +kernel
theorem dL_sizes_2 : decode cL_sizes 2 = .ok (.invokevirtual 8, 3) := by decide +kernel
theorem dL_sizes_5 : decode cL_sizes 5 = .ok (.ireturn, 1) := by decide +kernel
theorem dL_sizes_6 : decode cL_sizes 6 = .ok (.astore_n 2, 1) := by decide +kernel
theorem dL_sizes_7 : decode cL_sizes 7 = .ok (.ldc 16, 2) := by decide +kernel
theorem dL_sizes_9 : decode cL_sizes 9 = .ok (.ireturn, 1) := by decide +kernel
theorem dL_sizes_10 : decode cL_sizes 10 = .ok (.astore_n 2, 1) := by decide +kernel
theorem dL_sizes_11 : decode cL_sizes 11 = .ok (.ldc 19, 2) := by decide +kernel
theorem dL_sizes_13 : decode cL_sizes 13 = .ok (.ireturn, 1) := by decide +kernel
set_option maxRecDepth 20000 in
theorem ggL_bands_X4_setBand : GoodIn wsL_bands wsX4_setBand := goodIn_ca (goodIn_ca (goodIn_r _ [9, 10, 11, 12, 13, 14, 15, 16, 17, 18, 19, 20, 8, 21, 22, 23, 24, 25, 26, 27, 28, 29, 30, 31, 32, 33, 34, 35, 36, 37, 38, 39, 40, 41, 42, 43, 44, 45, 46, 47, 48, 49, 50, 51, 52, 53, 54, 55, 56, 57, 58, 59, 60, 61, 62, 63, 64, 65, 66, 67, 68, 69, 70, 71, 72, 73, 74, 75, 76, 77, 78, 79, 80, 81, 82, 83, 84, 85, 86, 87, 88, 89, 90, 91, 92, 93, 94, 95, 96, 97, 98, 99, 100, 101, 102, 103, 104, 105, 106, 107] (by decide +kernel) (by decide +kernel)) (goodIn_sub (fun _ h => List.mem_cons_of_mem _ (List.mem_append_left _ (List.mem_append_right _ h))) (by decide +kernel))) (goodIn_sub (fun _ h => List.mem_cons_of_mem _ (List.mem_append_right _ h)) (by decide +kernel))
set_option maxRecDepth 20000 in
theorem gL_bands_X4_setBand : GoodIn wsL_bands (wsV RL 20 RX4 yX4_setBand wsX4_setBand) := goodIn_app (goodIn_of _ (by decide +kernel)) ggL_bands_X4_setBand
theorem dL_bands_0 : decode cL_bands 0 = .ok (.aload_n 0, 1) := by decide +kernel
theorem dL_bands_1 : decode cL_bands 1 = .ok (.iload_n 1, 1) := by decide +kernel
theorem dL_bands_2 : decode cL_bands 2 = .ok (.iload_n 2, 1) := by decide +kernel
theorem dL_bands_3 : decode cL_bands 3 = .ok (.invokevirtual 20, 3) := by decide +kernel
theorem dL_bands_6 : decode cL_bands 6 = .ok (.ireturn, 1) := by decide +kernel
theorem dL_bands_7 : decode cL_bands 7 = .ok (.astore_n 3, 1) := by decide +kernel
theorem dL_bands_8 : decode cL_bands 8 = .ok (.ldc 16, 2) := by decide +kernel
theorem dL_bands_10 : decode cL_bands 10 = .ok (.ireturn, 1) := by decide +kernel
theorem dL_bands_11 : decode cL_bands 11 = .ok (.astore_n 3, 1) := by decide +kernel
theorem dL_bands_12 : decode cL_bands 12 = .ok (.ldc 19, 2) := by decide +kernel
theorem dL_bands_14 : decode cL_bands 14 = .ok (.ireturn, 1) := by decide +kernel
set_option maxRecDepth 20000 in
theorem ggL_levels_X4_setLevel : GoodIn wsL_levels wsX4_setLevel := goodIn_ca (goodIn_ca (goodIn_r _ [9, 10, 11, 12, 13, 14, 15, 16, 17, 18, 19, 8, 20, 21, 22, 23, 24, 25, 26, 27, 28, 29, 30, 31, 32, 33, 34, 35, 36, 37, 38, 39, 40, 41, 42, 43, 44, 45, 46, 47, 48, 49, 50, 51, 52, 53, 54, 55, 56, 57, 58, 59, 60, 61, 62, 63, 64, 65, 66, 67, 68, 69, 70, 71, 72, 73, 74, 75, 76, 77, 78, 79, 80, 81, 82, 83, 84, 85, 86, 87, 88, 89, 90, 91, 92, 93, 94, 95, 96, 97, 98, 99, 100, 101, 102, 103, 104, 105, 106] (by decide +kernel) (by decide +kernel)) (goodIn_sub (fun _ h => List.mem_cons_of_mem _ (List.mem_append_left _ (List.mem_append_right _ h))) (by decide +kernel))) (goodIn_sub (fun _ h => List.mem_cons_of_mem _ (List.mem_append_right _ h)) (by decide +kernel))
set_option maxRecDepth 20000 in
theorem gL_levels_X4_setLevel : GoodIn wsL_levels (wsV RL 24 RX4 yX4_setLevel wsX4_setLevel) := goodIn_app (goodIn_of _ (by decide +kernel)) ggL_levels_X4_setLevel
theorem dL_levels_0 : decode cL_levels 0 = .ok (.aload_n 0, 1) := by decide +kernel
theorem dL_levels_1 : decode cL_levels 1 = .ok (.iload_n 1, 1) := by decide +kernel
theorem dL_levels_2 : decode cL_levels 2 = .ok (.invokevirtual 24, 3) := by decide +kernel
theorem dL_levels_5 : decode cL_levels 5 = .ok (.ireturn, 1) := by decide +kernel
theorem dL_levels_6 : decode cL_levels 6 = .ok (.astore_n 2, 1) := by decide +kernel
theorem dL_levels_7 : decode cL_levels 7 = .ok (.ldc 16, 2) := by decide +kernel
theorem dL_levels_9 : decode cL_levels 9 = .ok (.ireturn, 1) := by decide +kernel
theorem dL_levels_10 : decode cL_levels 10 = .ok (.astore_n 2, 1) := by decide +kernel
theorem dL_levels_11 : decode cL_levels 11 = .ok (.ldc 19, 2) := by decide +kernel
theorem dL_levels_13 : decode cL_levels 13 = .ok (.ireturn, 1) := by decide +kernel
set_option maxRecDepth 20000 in
theorem ggL_sets_X4_set : GoodIn wsL_sets wsX4_set := goodIn_ca (goodIn_r _ [7, 8, 9, 10, 11, 12, 13, 14, 15, 16, 17, 18, 19, 6, 20, 21, 22, 23, 24, 25, 26, 27, 28, 29, 30, 31, 32, 33, 34, 35, 36, 37, 38, 39, 40, 41, 42, 43, 44, 45, 46, 47, 48, 49, 50, 51, 52, 53, 54, 55, 56, 57, 58, 59, 60, 61, 62, 63, 64, 65, 66, 67, 68, 69, 70, 71, 72, 73, 74, 75, 76, 77, 78, 79, 80, 81, 82, 83, 84, 85, 86, 87, 88, 89, 90, 91, 92, 93, 94, 95, 96, 97, 98, 99, 100, 101, 102, 103, 104, 105, 106, 107, 108, 109, 110, 111, 112, 113] (by decide +kernel) (by decide +kernel)) (goodIn_sub (fun _ h => List.mem_cons_of_mem _ (List.mem_append_right _ h)) (by decide +kernel))
set_option maxRecDepth 20000 in
theorem gL_sets_X4_set : GoodIn wsL_sets (wsV RL 27 RX4 yX4_set wsX4_set) := goodIn_app (goodIn_of _ (by decide +kernel)) ggL_sets_X4_set
theorem dL_sets_0 : decode cL_sets 0 = .ok (.aload_n 0, 1) := by decide +kernel
theorem dL_sets_1 : decode cL_sets 1 = .ok (.iload_n 1, 1) := by decide +kernel
theorem dL_sets_2 : decode cL_sets 2 = .ok (.iload_n 2, 1) := by decide +kernel
theorem dL_sets_3 : decode cL_sets 3 = .ok (.invokevirtual 27, 3) := by decide +kernel
theorem dL_sets_6 : decode cL_sets 6 = .ok (.ireturn, 1) := by decide +kernel
theorem dL_sets_7 : decode cL_sets 7 = .ok (.astore_n 3, 1) := by decide +kernel
theorem dL_sets_8 : decode cL_sets 8 = .ok (.ldc 16, 2) := by decide +kernel
theorem dL_sets_10 : decode cL_sets 10 = .ok (.ireturn, 1) := by decide +kernel
set_option maxRecDepth 20000 in
theorem ggL_demands_X4_setDemand : GoodIn wsL_demands wsX4_setDemand := goodIn_ca (goodIn_ca (goodIn_r _ [9, 10, 11, 12, 13, 14, 15, 16, 8, 17, 18, 19, 20, 21, 22, 23, 24, 25, 26, 27, 28, 29, 30, 31, 32, 33, 34, 35, 36, 37, 38, 39, 40, 41, 42, 43, 44, 45, 46, 47, 48, 49, 50, 51, 52, 53, 54, 55, 56, 57, 58, 59, 60, 61, 62, 63, 64, 65, 66, 67, 68, 69, 70, 71, 72, 73, 74, 75, 76, 77, 78, 79, 80, 81, 82, 83, 84, 85, 86, 87, 88, 89, 90, 91, 92, 93, 94, 95, 96, 97, 98, 99, 100, 101, 102, 103, 104, 105, 106, 107, 108, 109, 110, 111, 112, 113, 114, 115, 116, 117, 118] (by decide +kernel) (by decide +kernel)) (goodIn_sub (fun _ h => List.mem_cons_of_mem _ (List.mem_append_left _ (List.mem_append_right _ h))) (by decide +kernel))) (goodIn_sub (fun _ h => List.mem_cons_of_mem _ (List.mem_append_right _ h)) (by decide +kernel))
set_option maxRecDepth 20000 in
theorem gL_demands_X4_setDemand : GoodIn wsL_demands (wsV RL 30 RX4 yX4_setDemand wsX4_setDemand) := goodIn_app (goodIn_of _ (by decide +kernel)) ggL_demands_X4_setDemand
theorem dL_demands_0 : decode cL_demands 0 = .ok (.aload_n 0, 1) := by decide +kernel
theorem dL_demands_1 : decode cL_demands 1 = .ok (.iload_n 1, 1) := by decide +kernel
theorem dL_demands_2 : decode cL_demands 2 = .ok (.iload_n 2, 1) := by decide +kernel
theorem dL_demands_3 : decode cL_demands 3 = .ok (.invokevirtual 30, 3) := by decide +kernel
theorem dL_demands_6 : decode cL_demands 6 = .ok (.ireturn, 1) := by decide +kernel
theorem dL_demands_7 : decode cL_demands 7 = .ok (.astore_n 3, 1) := by decide +kernel
theorem dL_demands_8 : decode cL_demands 8 = .ok (.ldc 16, 2) := by decide +kernel
theorem dL_demands_10 : decode cL_demands 10 = .ok (.ireturn, 1) := by decide +kernel
theorem dL_demands_11 : decode cL_demands 11 = .ok (.astore_n 3, 1) := by decide +kernel
theorem dL_demands_12 : decode cL_demands 12 = .ok (.ldc 19, 2) := by decide +kernel
theorem dL_demands_14 : decode cL_demands 14 = .ok (.ireturn, 1) := by decide +kernel
set_option maxRecDepth 20000 in
theorem ggL_adds_X4_addPump : GoodIn wsL_adds wsX4_addPump := goodIn_ca (goodIn_ca (goodIn_r _ [9, 10, 11, 12, 13, 14, 15, 16, 17, 18, 8, 19, 20, 21, 22, 23, 24, 25, 26, 27, 28, 29, 30, 31, 32, 33, 34, 35, 36, 37, 38, 39, 40, 41, 42, 43, 44, 45, 46, 47, 48, 49, 50, 51, 52, 53, 54, 55, 56, 57, 58, 59, 60, 61, 62, 63, 64, 65, 66, 67, 68, 69, 70, 71, 72, 73, 74, 75, 76, 77, 78, 79, 80, 81, 82, 83, 84, 85, 86, 87, 88, 89, 90, 91, 92, 93, 94, 95, 96, 97, 98, 99, 100, 101, 102, 103, 104, 105, 106, 107, 108, 109, 110, 111, 112, 113, 114, 115, 116] (by decide +kernel) (by decide +kernel)) (goodIn_sub (fun _ h => List.mem_cons_of_mem _ (List.mem_append_left _ (List.mem_append_right _ h))) (by decide +kernel))) (goodIn_sub (fun _ h => List.mem_cons_of_mem _ (List.mem_append_right _ h)) (by decide +kernel))
set_option maxRecDepth 20000 in
theorem gL_adds_X4_addPump : GoodIn wsL_adds (wsV RL 35 RX4 yX4_addPump wsX4_addPump) := goodIn_app (goodIn_of _ (by decide +kernel)) ggL_adds_X4_addPump
theorem dL_adds_0 : decode cL_adds 0 = .ok (.aload_n 0, 1) := by decide +kernel
theorem dL_adds_1 : decode cL_adds 1 = .ok (.iload_n 1, 1) := by decide +kernel
theorem dL_adds_2 : decode cL_adds 2 = .ok (.iload_n 2, 1) := by decide +kernel
theorem dL_adds_3 : decode cL_adds 3 = .ok (.invokevirtual 35, 3) := by decide +kernel
theorem dL_adds_6 : decode cL_adds 6 = .ok (.ireturn, 1) := by decide +kernel
theorem dL_adds_7 : decode cL_adds 7 = .ok (.astore_n 3, 1) := by decide +kernel
theorem dL_adds_8 : decode cL_adds 8 = .ok (.ldc 16, 2) := by decide +kernel
theorem dL_adds_10 : decode cL_adds 10 = .ok (.ireturn, 1) := by decide +kernel
theorem dL_adds_11 : decode cL_adds 11 = .ok (.astore_n 3, 1) := by decide +kernel
theorem dL_adds_12 : decode cL_adds 12 = .ok (.ldc 19, 2) := by decide +kernel
theorem dL_adds_14 : decode cL_adds 14 = .ok (.ireturn, 1) := by decide +kernel
set_option maxRecDepth 20000 in
theorem ggL_swears_X4_swear : GoodIn wsL_swears wsX4_swear := goodIn_ca (goodIn_ca (goodIn_r _ [9, 10, 11, 12, 13, 14, 15, 16, 17, 18, 19, 8, 20, 21, 22, 23, 24, 25, 26, 27, 28, 29, 30, 31, 32, 33, 34, 35, 36, 37, 38, 39, 40, 41, 42, 43, 44, 45, 46, 47, 48, 49, 50, 51, 52, 53, 54, 55, 56, 57, 58, 59, 60, 61, 62, 63, 64, 65, 66, 67, 68, 69, 70, 71, 72, 73, 74, 75, 76, 77, 78, 79, 80, 81, 82, 83, 84, 85, 86, 87, 88, 89, 90, 91, 92, 93, 94, 95, 96, 97, 98, 99, 100, 101, 102, 103, 104, 105, 106, 107, 108, 109, 110, 111, 112, 113, 114, 115, 116, 117, 118, 119, 120] (by decide +kernel) (by decide +kernel)) (goodIn_sub (fun _ h => List.mem_cons_of_mem _ (List.mem_append_left _ (List.mem_append_right _ h))) (by decide +kernel))) (goodIn_sub (fun _ h => List.mem_cons_of_mem _ (List.mem_append_right _ h)) (by decide +kernel))
set_option maxRecDepth 20000 in
theorem gL_swears_X4_swear : GoodIn wsL_swears (wsV RL 38 RX4 yX4_swear wsX4_swear) := goodIn_app (goodIn_of _ (by decide +kernel)) ggL_swears_X4_swear
theorem dL_swears_0 : decode cL_swears 0 = .ok (.aload_n 0, 1) := by decide +kernel
theorem dL_swears_1 : decode cL_swears 1 = .ok (.iload_n 1, 1) := by decide +kernel
theorem dL_swears_2 : decode cL_swears 2 = .ok (.iload_n 2, 1) := by decide +kernel
theorem dL_swears_3 : decode cL_swears 3 = .ok (.invokevirtual 38, 3) := by decide +kernel
theorem dL_swears_6 : decode cL_swears 6 = .ok (.ireturn, 1) := by decide +kernel
theorem dL_swears_7 : decode cL_swears 7 = .ok (.astore_n 3, 1) := by decide +kernel
theorem dL_swears_8 : decode cL_swears 8 = .ok (.ldc 16, 2) := by decide +kernel
theorem dL_swears_10 : decode cL_swears 10 = .ok (.ireturn, 1) := by decide +kernel
theorem dL_swears_11 : decode cL_swears 11 = .ok (.astore_n 3, 1) := by decide +kernel
theorem dL_swears_12 : decode cL_swears 12 = .ok (.ldc 19, 2) := by decide +kernel
theorem dL_swears_14 : decode cL_swears 14 = .ok (.ireturn, 1) := by decide +kernel
set_option maxRecDepth 20000 in
theorem ggL_services_X4_service : GoodIn wsL_services wsX4_service := goodIn_ca (goodIn_ca (goodIn_r _ [9, 10, 11, 12, 13, 14, 15, 16, 17, 18, 19, 8, 20, 21, 22, 23, 24, 25, 26, 27, 28, 29, 30, 31, 32, 33, 34, 35, 36, 37, 38, 39, 40, 41, 42, 43, 44, 45, 46, 47, 48, 49, 50, 51, 52, 53, 54, 55, 56, 57, 58, 59, 60, 61, 62, 63, 64, 65, 66, 67, 68, 69, 70, 71, 72, 73, 74, 75, 76, 77, 78, 79, 80, 81, 82, 83, 84, 85, 86, 87, 88, 89, 90, 91, 92, 93, 94, 95, 96, 97, 98, 99, 100, 101, 102, 103, 104, 105, 106, 107, 108, 109, 110, 111, 112, 113, 114, 115, 116, 117, 118] (by decide +kernel) (by decide +kernel)) (goodIn_sub (fun _ h => List.mem_cons_of_mem _ (List.mem_append_left _ (List.mem_append_right _ h))) (by decide +kernel))) (goodIn_sub (fun _ h => List.mem_cons_of_mem _ (List.mem_append_right _ h)) (by decide +kernel))
set_option maxRecDepth 20000 in
theorem gL_services_X4_service : GoodIn wsL_services (wsV RL 41 RX4 yX4_service wsX4_service) := goodIn_app (goodIn_of _ (by decide +kernel)) ggL_services_X4_service
theorem dL_services_0 : decode cL_services 0 = .ok (.aload_n 0, 1) := by decide +kernel
theorem dL_services_1 : decode cL_services 1 = .ok (.iload_n 1, 1) := by decide +kernel
theorem dL_services_2 : decode cL_services 2 = .ok (.iload_n 2, 1) := by decide +kernel
theorem dL_services_3 : decode cL_services 3 = .ok (.invokevirtual 41, 3) := by decide +kernel
theorem dL_services_6 : decode cL_services 6 = .ok (.ifCond .eq 7, 3) := by decide +kernel
theorem dL_services_9 : decode cL_services 9 = .ok (.iconst 1, 1) := by decide +kernel
theorem dL_services_10 : decode cL_services 10 = .ok (.goto 4, 3) := by decide +kernel
theorem dL_services_13 : decode cL_services 13 = .ok (.iconst 0, 1) := by decide +kernel
theorem dL_services_14 : decode cL_services 14 = .ok (.ireturn, 1) := by decide +kernel
theorem dL_services_15 : decode cL_services 15 = .ok (.astore_n 3, 1) := by decide +kernel
theorem dL_services_16 : decode cL_services 16 = .ok (.ldc 16, 2) := by decide +kernel
theorem dL_services_18 : decode cL_services 18 = .ok (.ireturn, 1) := by decide +kernel
theorem dL_services_19 : decode cL_services 19 = .ok (.astore_n 3, 1) := by decide +kernel
theorem dL_services_20 : decode cL_services 20 = .ok (.ldc 19, 2) := by decide +kernel
theorem dL_services_22 : decode cL_services 22 = .ok (.ireturn, 1) := by decide +kernel
set_option maxRecDepth 20000 in
theorem ggL_passes_X4_pass : GoodIn wsL_passes wsX4_pass := goodIn_ca (goodIn_ca (goodIn_r _ [9, 10, 11, 12, 13, 14, 15, 16, 17, 8, 18, 19, 20, 21, 22, 23, 24, 25, 26, 27, 28, 29, 30, 31, 32, 33, 34, 35, 36, 37, 38, 39, 40, 41, 42, 43, 44, 45, 46, 47, 48, 49, 50, 51, 52, 53, 54, 55, 56, 57, 58, 59, 60, 61, 62, 63, 64, 65, 66, 67, 68, 69, 70, 71, 72, 73, 74, 75, 76, 77, 78, 79, 80, 81, 82, 83, 84, 85, 86, 87, 88, 89, 90, 91, 92, 93, 94, 95, 96, 97, 98, 99, 100, 101, 102, 103, 104, 105, 106, 107, 108, 109, 110, 111, 112, 113, 114, 115, 116, 117, 118, 119, 120, 121, 122, 123, 124, 125, 126, 127, 128, 129, 130, 131, 132, 133, 134, 135, 136, 137, 138, 139, 140, 141, 142, 143, 144, 145, 146, 147, 148, 149, 150, 151, 152, 153, 154, 155, 156, 157, 158, 159, 160, 161, 162, 163, 164, 165, 166, 167, 168, 169, 170, 171, 172, 173, 174, 175, 176, 177, 178, 179, 180, 181, 182, 183, 184, 185, 186, 187, 188, 189, 190, 191, 192, 193, 194, 195, 196] (by decide +kernel) (by decide +kernel)) (goodIn_sub (fun _ h => List.mem_cons_of_mem _ (List.mem_append_left _ (List.mem_append_right _ h))) (by decide +kernel))) (goodIn_sub (fun _ h => List.mem_cons_of_mem _ (List.mem_append_right _ h)) (by decide +kernel))
set_option maxRecDepth 20000 in
theorem gL_passes_X4_pass : GoodIn wsL_passes (wsV RL 45 RX4 yX4_pass wsX4_pass) := goodIn_app (goodIn_of _ (by decide +kernel)) ggL_passes_X4_pass
theorem dL_passes_0 : decode cL_passes 0 = .ok (.aload_n 0, 1) := by decide +kernel
theorem dL_passes_1 : decode cL_passes 1 = .ok (.iload_n 1, 1) := by decide +kernel
theorem dL_passes_2 : decode cL_passes 2 = .ok (.invokevirtual 45, 3) := by decide +kernel
theorem dL_passes_5 : decode cL_passes 5 = .ok (.ireturn, 1) := by decide +kernel
theorem dL_passes_6 : decode cL_passes 6 = .ok (.astore_n 2, 1) := by decide +kernel
theorem dL_passes_7 : decode cL_passes 7 = .ok (.ldc 16, 2) := by decide +kernel
theorem dL_passes_9 : decode cL_passes 9 = .ok (.ireturn, 1) := by decide +kernel
theorem dL_passes_10 : decode cL_passes 10 = .ok (.astore_n 2, 1) := by decide +kernel
theorem dL_passes_11 : decode cL_passes 11 = .ok (.ldc 19, 2) := by decide +kernel
theorem dL_passes_13 : decode cL_passes 13 = .ok (.ireturn, 1) := by decide +kernel
set_option maxRecDepth 20000 in
theorem ggL_pump_X4_pump : GoodIn wsL_pump wsX4_pump := goodIn_ca (goodIn_ca (goodIn_r _ [9, 10, 11, 12, 13, 14, 15, 16, 17, 18, 8, 19, 20, 21, 22, 23, 24, 25, 26, 27, 28, 29, 30, 31, 32, 33, 34, 35, 36, 37, 38, 39, 40, 41, 42, 43, 44, 45, 46, 47, 48, 49, 50, 51, 52, 53, 54, 55, 56, 57, 58, 59, 60, 61, 62, 63, 64, 65, 66, 67, 68, 69, 70, 71, 72, 73] (by decide +kernel) (by decide +kernel)) (goodIn_sub (fun _ h => List.mem_cons_of_mem _ (List.mem_append_left _ (List.mem_append_right _ h))) (by decide +kernel))) (goodIn_sub (fun _ h => List.mem_cons_of_mem _ (List.mem_append_right _ h)) (by decide +kernel))
set_option maxRecDepth 20000 in
theorem gL_pump_X4_pump : GoodIn wsL_pump (wsV RL 48 RX4 yX4_pump wsX4_pump) := goodIn_app (goodIn_of _ (by decide +kernel)) ggL_pump_X4_pump
theorem dL_pump_0 : decode cL_pump 0 = .ok (.aload_n 0, 1) := by decide +kernel
theorem dL_pump_1 : decode cL_pump 1 = .ok (.iload_n 1, 1) := by decide +kernel
theorem dL_pump_2 : decode cL_pump 2 = .ok (.iload_n 2, 1) := by decide +kernel
theorem dL_pump_3 : decode cL_pump 3 = .ok (.invokevirtual 48, 3) := by decide +kernel
theorem dL_pump_6 : decode cL_pump 6 = .ok (.ireturn, 1) := by decide +kernel
theorem dL_pump_7 : decode cL_pump 7 = .ok (.astore_n 3, 1) := by decide +kernel
theorem dL_pump_8 : decode cL_pump 8 = .ok (.ldc 16, 2) := by decide +kernel
theorem dL_pump_10 : decode cL_pump 10 = .ok (.ireturn, 1) := by decide +kernel
theorem dL_pump_11 : decode cL_pump 11 = .ok (.astore_n 3, 1) := by decide +kernel
theorem dL_pump_12 : decode cL_pump 12 = .ok (.ldc 19, 2) := by decide +kernel
theorem dL_pump_14 : decode cL_pump 14 = .ok (.ireturn, 1) := by decide +kernel
set_option maxRecDepth 20000 in
theorem ggL_demand_X4_demand : GoodIn wsL_demand wsX4_demand := goodIn_ca (goodIn_r _ [7, 8, 9, 10, 11, 12, 6, 13, 14, 15, 16, 17, 18, 19, 20, 21, 22, 23, 24, 25, 26, 27, 28, 29, 30, 31, 32, 33, 34, 35, 36, 37, 38, 39, 40, 41, 42, 43, 44, 45] (by decide +kernel) (by decide +kernel)) (goodIn_sub (fun _ h => List.mem_cons_of_mem _ (List.mem_append_right _ h)) (by decide +kernel))
set_option maxRecDepth 20000 in
theorem gL_demand_X4_demand : GoodIn wsL_demand (wsV RL 51 RX4 yX4_demand wsX4_demand) := goodIn_app (goodIn_of _ (by decide +kernel)) ggL_demand_X4_demand
theorem dL_demand_0 : decode cL_demand 0 = .ok (.aload_n 0, 1) := by decide +kernel
theorem dL_demand_1 : decode cL_demand 1 = .ok (.iload_n 1, 1) := by decide +kernel
theorem dL_demand_2 : decode cL_demand 2 = .ok (.invokevirtual 51, 3) := by decide +kernel
theorem dL_demand_5 : decode cL_demand 5 = .ok (.ireturn, 1) := by decide +kernel
theorem dL_demand_6 : decode cL_demand 6 = .ok (.astore_n 2, 1) := by decide +kernel
theorem dL_demand_7 : decode cL_demand 7 = .ok (.ldc 16, 2) := by decide +kernel
theorem dL_demand_9 : decode cL_demand 9 = .ok (.ireturn, 1) := by decide +kernel
set_option maxRecDepth 20000 in
theorem ggL_value_X4_value : GoodIn wsL_value wsX4_value := goodIn_ca (goodIn_r _ [7, 8, 9, 10, 11, 12, 6, 13, 14, 15, 16, 17, 18, 19, 20, 21, 22, 23, 24, 25, 26, 27, 28, 29, 30, 31, 32, 33, 34, 35, 36, 37, 38, 39, 40, 41, 42, 43, 44, 45, 46, 47, 48, 49, 50, 51, 52, 53, 54, 55, 56, 57, 58, 59, 60, 61, 62, 63, 64, 65, 66, 67, 68, 69, 70, 71, 72, 73, 74, 75, 76, 77, 78, 79, 80] (by decide +kernel) (by decide +kernel)) (goodIn_sub (fun _ h => List.mem_cons_of_mem _ (List.mem_append_right _ h)) (by decide +kernel))
set_option maxRecDepth 20000 in
theorem gL_value_X4_value : GoodIn wsL_value (wsV RL 54 RX4 yX4_value wsX4_value) := goodIn_app (goodIn_of _ (by decide +kernel)) ggL_value_X4_value
theorem dL_value_0 : decode cL_value 0 = .ok (.aload_n 0, 1) := by decide +kernel
theorem dL_value_1 : decode cL_value 1 = .ok (.iload_n 1, 1) := by decide +kernel
theorem dL_value_2 : decode cL_value 2 = .ok (.invokevirtual 54, 3) := by decide +kernel
theorem dL_value_5 : decode cL_value 5 = .ok (.ireturn, 1) := by decide +kernel
theorem dL_value_6 : decode cL_value 6 = .ok (.astore_n 2, 1) := by decide +kernel
theorem dL_value_7 : decode cL_value 7 = .ok (.ldc 16, 2) := by decide +kernel
theorem dL_value_9 : decode cL_value 9 = .ok (.ireturn, 1) := by decide +kernel
set_option maxRecDepth 20000 in
theorem ggL_setting_X4_setting : GoodIn wsL_setting wsX4_setting := goodIn_ca (goodIn_r _ [7, 8, 9, 10, 11, 12, 6, 13, 14, 15, 16, 17, 18, 19, 20, 21, 22, 23, 24, 25, 26, 27, 28, 29, 30, 31, 32, 33, 34, 35, 36, 37, 38, 39, 40, 41, 42] (by decide +kernel) (by decide +kernel)) (goodIn_sub (fun _ h => List.mem_cons_of_mem _ (List.mem_append_right _ h)) (by decide +kernel))
set_option maxRecDepth 20000 in
theorem gL_setting_X4_setting : GoodIn wsL_setting (wsV RL 57 RX4 yX4_setting wsX4_setting) := goodIn_app (goodIn_of _ (by decide +kernel)) ggL_setting_X4_setting
theorem dL_setting_0 : decode cL_setting 0 = .ok (.aload_n 0, 1) := by decide +kernel
theorem dL_setting_1 : decode cL_setting 1 = .ok (.iload_n 1, 1) := by decide +kernel
theorem dL_setting_2 : decode cL_setting 2 = .ok (.invokevirtual 57, 3) := by decide +kernel
theorem dL_setting_5 : decode cL_setting 5 = .ok (.ireturn, 1) := by decide +kernel
theorem dL_setting_6 : decode cL_setting 6 = .ok (.astore_n 2, 1) := by decide +kernel
theorem dL_setting_7 : decode cL_setting 7 = .ok (.ldc 16, 2) := by decide +kernel
theorem dL_setting_9 : decode cL_setting 9 = .ok (.ireturn, 1) := by decide +kernel
set_option maxRecDepth 20000 in
theorem ggL_water_X4_water : GoodIn wsL_water wsX4_water := goodIn_ca (goodIn_r _ [7, 8, 9, 10, 11, 12, 6, 13, 14, 15, 16, 17, 18, 19, 20, 21, 22, 23, 24, 25, 26, 27, 28, 29, 30, 31, 32, 33, 34, 35, 36, 37, 38, 39, 40, 41, 42] (by decide +kernel) (by decide +kernel)) (goodIn_sub (fun _ h => List.mem_cons_of_mem _ (List.mem_append_right _ h)) (by decide +kernel))
set_option maxRecDepth 20000 in
theorem gL_water_X4_water : GoodIn wsL_water (wsV RL 60 RX4 yX4_water wsX4_water) := goodIn_app (goodIn_of _ (by decide +kernel)) ggL_water_X4_water
theorem dL_water_0 : decode cL_water 0 = .ok (.aload_n 0, 1) := by decide +kernel
theorem dL_water_1 : decode cL_water 1 = .ok (.iload_n 1, 1) := by decide +kernel
theorem dL_water_2 : decode cL_water 2 = .ok (.invokevirtual 60, 3) := by decide +kernel
theorem dL_water_5 : decode cL_water 5 = .ok (.lreturn, 1) := by decide +kernel
theorem dL_water_6 : decode cL_water 6 = .ok (.astore_n 2, 1) := by decide +kernel
theorem dL_water_7 : decode cL_water 7 = .ok (.ldc2_w 64, 3) := by decide +kernel
theorem dL_water_10 : decode cL_water 10 = .ok (.lreturn, 1) := by decide +kernel
set_option maxRecDepth 20000 in
theorem ggL_entry_X4_entry : GoodIn wsL_entry wsX4_entry := goodIn_ca (goodIn_ca (goodIn_r _ [9, 10, 11, 12, 13, 14, 15, 16, 17, 18, 8, 19, 20, 21, 22, 23, 24, 25, 26, 27, 28, 29, 30, 31, 32, 33, 34, 35, 36, 37, 38, 39, 40, 41, 42, 43, 44, 45, 46, 47, 48, 49, 50] (by decide +kernel) (by decide +kernel)) (goodIn_sub (fun _ h => List.mem_cons_of_mem _ (List.mem_append_left _ (List.mem_append_right _ h))) (by decide +kernel))) (goodIn_sub (fun _ h => List.mem_cons_of_mem _ (List.mem_append_right _ h)) (by decide +kernel))
set_option maxRecDepth 20000 in
theorem gL_entry_X4_entry : GoodIn wsL_entry (wsV RL 66 RX4 yX4_entry wsX4_entry) := goodIn_app (goodIn_of _ (by decide +kernel)) ggL_entry_X4_entry
theorem dL_entry_0 : decode cL_entry 0 = .ok (.aload_n 0, 1) := by decide +kernel
theorem dL_entry_1 : decode cL_entry 1 = .ok (.iload_n 1, 1) := by decide +kernel
theorem dL_entry_2 : decode cL_entry 2 = .ok (.iload_n 2, 1) := by decide +kernel
theorem dL_entry_3 : decode cL_entry 3 = .ok (.invokevirtual 66, 3) := by decide +kernel
theorem dL_entry_6 : decode cL_entry 6 = .ok (.ireturn, 1) := by decide +kernel
theorem dL_entry_7 : decode cL_entry 7 = .ok (.astore_n 3, 1) := by decide +kernel
theorem dL_entry_8 : decode cL_entry 8 = .ok (.ldc 16, 2) := by decide +kernel
theorem dL_entry_10 : decode cL_entry 10 = .ok (.ireturn, 1) := by decide +kernel
theorem dL_entry_11 : decode cL_entry 11 = .ok (.astore_n 3, 1) := by decide +kernel
theorem dL_entry_12 : decode cL_entry 12 = .ok (.ldc 19, 2) := by decide +kernel
theorem dL_entry_14 : decode cL_entry 14 = .ok (.ireturn, 1) := by decide +kernel
set_option maxRecDepth 20000 in
theorem ggL_undoes_X4_undo : GoodIn wsL_undoes wsX4_undo := goodIn_ca (goodIn_r _ [7, 8, 9, 10, 11, 12, 13, 14, 15, 16, 17, 18, 19, 20, 21, 22, 23, 24, 25, 26, 27, 28, 29, 30, 31, 32, 33, 34, 35, 36, 37, 38, 39, 40, 41, 42, 43, 44, 45, 46, 47, 48, 49, 50, 51, 52, 53, 54, 55, 56, 57, 58, 59, 60, 61, 62, 63, 64, 65, 66, 67, 68, 69, 70, 71, 72, 73, 74, 75, 76, 77, 78, 79, 80, 81, 82, 83, 84, 85, 86, 87, 88, 89, 90, 91, 92, 93, 94, 95, 96] (by decide +kernel) (by decide +kernel)) (goodIn_sub (fun _ h => List.mem_cons_of_mem _ (List.mem_append_right _ h)) (by decide +kernel))
set_option maxRecDepth 20000 in
theorem gL_undoes_X4_undo : GoodIn wsL_undoes (wsV RL 69 RX4 yX4_undo wsX4_undo) := goodIn_app (goodIn_of _ (by decide +kernel)) ggL_undoes_X4_undo
theorem dL_undoes_0 : decode cL_undoes 0 = .ok (.aload_n 0, 1) := by decide +kernel
theorem dL_undoes_1 : decode cL_undoes 1 = .ok (.invokevirtual 69, 3) := by decide +kernel
theorem dL_undoes_4 : decode cL_undoes 4 = .ok (.ireturn, 1) := by decide +kernel
theorem dL_undoes_5 : decode cL_undoes 5 = .ok (.astore_n 1, 1) := by decide +kernel
theorem dL_undoes_6 : decode cL_undoes 6 = .ok (.ldc 16, 2) := by decide +kernel
theorem dL_undoes_8 : decode cL_undoes 8 = .ok (.ireturn, 1) := by decide +kernel

theorem dX4_setLevel_8 : decode cX4_setLevel 8 = .ok (.ldc 78, 2) := by decide +kernel
theorem dX4_setLevel_10 : decode cX4_setLevel 10 = .ok (.invokespecial 51, 3) := by decide +kernel
theorem dX4_setLevel_13 : decode cX4_setLevel 13 = .ok (.athrow, 1) := by decide +kernel
theorem dX4_setLevel_14 : decode cX4_setLevel 14 = .ok (.iload_n 1, 1) := by decide +kernel
theorem dX4_setLevel_15 : decode cX4_setLevel 15 = .ok (.aload_n 0, 1) := by decide +kernel
theorem dX4_setLevel_16 : decode cX4_setLevel 16 = .ok (.getfield 10, 3) := by decide +kernel
theorem dX4_setLevel_19 : decode cX4_setLevel 19 = .ok (.getfield 68, 3) := by decide +kernel
theorem dX4_setLevel_22 : decode cX4_setLevel 22 = .ok (.if_icmp .le 13, 3) := by decide +kernel
theorem dX4_setLevel_25 : decode cX4_setLevel 25 = .ok (.new 60, 3) := by decide +kernel
theorem dX4_setLevel_28 : decode cX4_setLevel 28 = .ok (.dup, 1) := by decide +kernel
theorem dX4_setLevel_29 : decode cX4_setLevel 29 = .ok (.ldc 80, 2) := by decide +kernel
theorem dX4_setLevel_31 : decode cX4_setLevel 31 = .ok (.invokespecial 64, 3) := by decide +kernel
theorem dX4_setLevel_34 : decode cX4_setLevel 34 = .ok (.athrow, 1) := by decide +kernel
theorem dX4_setLevel_35 : decode cX4_setLevel 35 = .ok (.aload_n 0, 1) := by decide +kernel
theorem dX4_setLevel_36 : decode cX4_setLevel 36 = .ok (.invokevirtual 65, 3) := by decide +kernel
theorem dX4_setLevel_39 : decode cX4_setLevel 39 = .ok (.aload_n 0, 1) := by decide +kernel
theorem dX4_setLevel_40 : decode cX4_setLevel 40 = .ok (.getfield 10, 3) := by decide +kernel
theorem dX4_setLevel_43 : decode cX4_setLevel 43 = .ok (.getfield 54, 3) := by decide +kernel
theorem dX4_setLevel_46 : decode cX4_setLevel 46 = .ok (.istore_n 2, 1) := by decide +kernel
theorem dX4_setLevel_47 : decode cX4_setLevel 47 = .ok (.aload_n 0, 1) := by decide +kernel
theorem dX4_setLevel_48 : decode cX4_setLevel 48 = .ok (.getfield 10, 3) := by decide +kernel
theorem dX4_setLevel_51 : decode cX4_setLevel 51 = .ok (.iload_n 1, 1) := by decide +kernel
theorem dX4_setLevel_52 : decode cX4_setLevel 52 = .ok (.putfield 54, 3) := by decide +kernel
theorem dX4_setLevel_55 : decode cX4_setLevel 55 = .ok (.iload_n 2, 1) := by decide +kernel
theorem dX4_setLevel_56 : decode cX4_setLevel 56 = .ok (.ireturn, 1) := by decide +kernel
set_option maxRecDepth 20000 in
theorem ggX4_set_X3_isSettingValue : GoodIn wsX4_set wsX3_isSettingValue := goodIn_r _ [7, 8, 9] (by decide +kernel) (by decide +kernel)
set_option maxRecDepth 20000 in
theorem gX4_set_X3_isSettingValue : GoodIn wsX4_set (va_wsS RX4 82 yX3_isSettingValue wsX3_isSettingValue) := goodIn_app (goodIn_of _ (by decide +kernel)) ggX4_set_X3_isSettingValue
set_option maxRecDepth 20000 in
theorem ggX4_set_X4_save : GoodIn wsX4_set wsX4_save := goodIn_r _ [14, 15, 16, 17, 18, 3, 19, 20, 21, 22, 6, 23, 24, 25, 26, 27, 28, 29, 30, 31, 32, 33, 34, 35, 36, 37, 38, 39, 40, 41, 42, 43, 44, 45, 46, 47, 48, 49, 50, 51, 52, 53, 54, 55, 56, 57, 58, 59, 60, 61, 62, 63, 64, 65, 74, 75, 76, 77, 78, 79, 80, 81, 82, 83, 84, 85, 86, 87, 88, 89, 90, 91, 92, 93, 94, 95, 96, 97, 98, 99, 100, 101, 102, 103, 104, 105, 106, 107] (by decide +kernel) (by decide +kernel)
set_option maxRecDepth 20000 in
theorem gX4_set_X4_save : GoodIn wsX4_set (wsV RX4 65 RX4 yX4_save wsX4_save) := goodIn_app (goodIn_of _ (by decide +kernel)) ggX4_set_X4_save
set_option maxRecDepth 20000 in
theorem ggX4_set_X3_changeSetting : GoodIn wsX4_set wsX3_changeSetting := goodIn_r _ [69, 34, 70, 71, 72, 6, 73, 82, 83, 84, 85, 86, 87, 88, 89, 90, 91, 92, 93, 94, 95, 96] (by decide +kernel) (by decide +kernel)
set_option maxRecDepth 20000 in
theorem gX4_set_X3_changeSetting : GoodIn wsX4_set (wsV RX4 88 RX3 yX3_changeSetting wsX3_changeSetting) := goodIn_app (goodIn_of _ (by decide +kernel)) ggX4_set_X3_changeSetting
theorem dX4_set_0 : decode cX4_set 0 = .ok (.iload_n 1, 1) := by decide +kernel
theorem dX4_set_1 : decode cX4_set 1 = .ok (.iload_n 2, 1) := by decide +kernel
theorem dX4_set_2 : decode cX4_set 2 = .ok (.invokestatic 82, 3) := by decide +kernel
theorem dX4_set_5 : decode cX4_set 5 = .ok (.ifCond .ne 13, 3) := by decide +kernel
theorem dX4_set_8 : decode cX4_set 8 = .ok (.new 47, 3) := by decide +kernel
theorem dX4_set_11 : decode cX4_set 11 = .ok (.dup, 1) := by decide +kernel
theorem dX4_set_12 : decode cX4_set 12 = .ok (.ldc 86, 2) := by decide +kernel
theorem dX4_set_14 : decode cX4_set 14 = .ok (.invokespecial 51, 3) := by decide +kernel
theorem dX4_set_17 : decode cX4_set 17 = .ok (.athrow, 1) := by decide +kernel
theorem dX4_set_18 : decode cX4_set 18 = .ok (.aload_n 0, 1) := by decide +kernel
theorem dX4_set_19 : decode cX4_set 19 = .ok (.invokevirtual 65, 3) := by decide +kernel
theorem dX4_set_22 : decode cX4_set 22 = .ok (.aload_n 0, 1) := by decide +kernel
theorem dX4_set_23 : decode cX4_set 23 = .ok (.getfield 10, 3) := by decide +kernel
theorem dX4_set_26 : decode cX4_set 26 = .ok (.iload_n 1, 1) := by decide +kernel
theorem dX4_set_27 : decode cX4_set 27 = .ok (.iload_n 2, 1) := by decide +kernel
theorem dX4_set_28 : decode cX4_set 28 = .ok (.invokevirtual 88, 3) := by decide +kernel
theorem dX4_set_31 : decode cX4_set 31 = .ok (.ireturn, 1) := by decide +kernel
set_option maxRecDepth 20000 in
theorem ggX4_setDemand_X4_isHour : GoodIn wsX4_setDemand wsX4_isHour := goodIn_r _ [9, 10, 11, 8, 12] (by decide +kernel) (by decide +kernel)
set_option maxRecDepth 20000 in
theorem gX4_setDemand_X4_isHour : GoodIn wsX4_setDemand (va_wsS RX4 92 yX4_isHour wsX4_isHour) := goodIn_app (goodIn_of _ (by decide +kernel)) ggX4_setDemand_X4_isHour
set_option maxRecDepth 20000 in
theorem ggX4_setDemand_X4_isIn : GoodIn wsX4_setDemand wsX4_isIn := goodIn_r _ [12] (by decide +kernel) (by decide +kernel)
set_option maxRecDepth 20000 in
theorem gX4_setDemand_X4_isIn : GoodIn wsX4_setDemand (va_wsS RX4 43 yX4_isIn wsX4_isIn) := goodIn_app (goodIn_of _ (by decide +kernel)) ggX4_setDemand_X4_isIn
set_option maxRecDepth 20000 in
theorem ggX4_setDemand_X4_save : GoodIn wsX4_setDemand wsX4_save := goodIn_r _ [16, 17, 18, 19, 20, 5, 21, 22, 23, 24, 25, 26, 27, 28, 29, 30, 31, 32, 33, 34, 35, 36, 37, 38, 39, 40, 41, 42, 43, 44, 45, 46, 47, 48, 49, 50, 51, 52, 53, 54, 55, 56, 57, 58, 59, 60, 61, 62, 63, 64, 65, 66, 67, 68, 77, 78, 79, 80, 81, 82, 83, 84, 85, 86, 87, 88, 89, 90, 91, 92, 93, 94, 95, 96, 97, 98, 99, 100, 101, 102, 103, 104, 105, 106, 107, 108, 109, 110] (by decide +kernel) (by decide +kernel)
set_option maxRecDepth 20000 in
theorem gX4_setDemand_X4_save : GoodIn wsX4_setDemand (wsV RX4 65 RX4 yX4_save wsX4_save) := goodIn_app (goodIn_of _ (by decide +kernel)) ggX4_setDemand_X4_save
set_option maxRecDepth 20000 in
theorem ggX4_setDemand_X3_changeDemand : GoodIn wsX4_setDemand wsX3_changeDemand := goodIn_r _ [72, 42, 73, 74, 75, 25, 76, 85, 86, 87, 88, 89, 90, 91, 92, 93, 94, 95, 96, 97, 98, 99] (by decide +kernel) (by decide +kernel)
set_option maxRecDepth 20000 in
theorem gX4_setDemand_X3_changeDemand : GoodIn wsX4_setDemand (wsV RX4 103 RX3 yX3_changeDemand wsX3_changeDemand) := goodIn_app (goodIn_of _ (by decide +kernel)) ggX4_setDemand_X3_changeDemand
theorem dX4_setDemand_0 : decode cX4_setDemand 0 = .ok (.iload_n 1, 1) := by decide +kernel
theorem dX4_setDemand_1 : decode cX4_setDemand 1 = .ok (.invokestatic 92, 3) := by decide +kernel
theorem dX4_setDemand_4 : decode cX4_setDemand 4 = .ok (.ifCond .ne 13, 3) := by decide +kernel
theorem dX4_setDemand_7 : decode cX4_setDemand 7 = .ok (.new 96, 3) := by decide +kernel
theorem dX4_setDemand_10 : decode cX4_setDemand 10 = .ok (.dup, 1) := by decide +kernel
theorem dX4_setDemand_11 : decode cX4_setDemand 11 = .ok (.ldc 98, 2) := by decide +kernel
theorem dX4_setDemand_13 : decode cX4_setDemand 13 = .ok (.invokespecial 100, 3) := by decide +kernel
theorem dX4_setDemand_16 : decode cX4_setDemand 16 = .ok (.athrow, 1) := by decide +kernel
theorem dX4_setDemand_17 : decode cX4_setDemand 17 = .ok (.iload_n 2, 1) := by decide +kernel
theorem dX4_setDemand_18 : decode cX4_setDemand 18 = .ok (.iconst 0, 1) := by decide +kernel
theorem dX4_setDemand_19 : decode cX4_setDemand 19 = .ok (.sipush 1000, 3) := by decide +kernel
theorem dX4_setDemand_22 : decode cX4_setDemand 22 = .ok (.invokestatic 43, 3) := by decide +kernel
theorem dX4_setDemand_25 : decode cX4_setDemand 25 = .ok (.ifCond .ne 13, 3) := by decide +kernel
theorem dX4_setDemand_28 : decode cX4_setDemand 28 = .ok (.new 47, 3) := by decide +kernel
theorem dX4_setDemand_31 : decode cX4_setDemand 31 = .ok (.dup, 1) := by decide +kernel
theorem dX4_setDemand_32 : decode cX4_setDemand 32 = .ok (.ldc 101, 2) := by decide +kernel
theorem dX4_setDemand_34 : decode cX4_setDemand 34 = .ok (.invokespecial 51, 3) := by decide +kernel
theorem dX4_setDemand_37 : decode cX4_setDemand 37 = .ok (.athrow, 1) := by decide +kernel
theorem dX4_setDemand_38 : decode cX4_setDemand 38 = .ok (.aload_n 0, 1) := by decide +kernel
theorem dX4_setDemand_39 : decode cX4_setDemand 39 = .ok (.invokevirtual 65, 3) := by decide +kernel
theorem dX4_setDemand_42 : decode cX4_setDemand 42 = .ok (.aload_n 0, 1) := by decide +kernel
theorem dX4_setDemand_43 : decode cX4_setDemand 43 = .ok (.getfield 10, 3) := by decide +kernel
theorem dX4_setDemand_46 : decode cX4_setDemand 46 = .ok (.iload_n 1, 1) := by decide +kernel
theorem dX4_setDemand_47 : decode cX4_setDemand 47 = .ok (.iload_n 2, 1) := by decide +kernel
theorem dX4_setDemand_48 : decode cX4_setDemand 48 = .ok (.invokevirtual 103, 3) := by decide +kernel
theorem dX4_setDemand_51 : decode cX4_setDemand 51 = .ok (.ireturn, 1) := by decide +kernel
set_option maxRecDepth 20000 in
theorem ggX4_addPump_X4_isIn : GoodIn wsX4_addPump wsX4_isIn := goodIn_r _ [11] (by decide +kernel) (by decide +kernel)
set_option maxRecDepth 20000 in
theorem gX4_addPump_X4_isIn : GoodIn wsX4_addPump (va_wsS RX4 43 yX4_isIn wsX4_isIn) := goodIn_app (goodIn_of _ (by decide +kernel)) ggX4_addPump_X4_isIn
set_option maxRecDepth 20000 in
theorem ggX4_addPump_X4_isOath : GoodIn wsX4_addPump wsX4_isOath := goodIn_r _ [14, 8, 9, 10, 11] (by decide +kernel) (by decide +kernel)
set_option maxRecDepth 20000 in
theorem gX4_addPump_X4_isOath : GoodIn wsX4_addPump (va_wsS RX4 106 yX4_isOath wsX4_isOath) := goodIn_app (goodIn_of _ (by decide +kernel)) ggX4_addPump_X4_isOath
set_option maxRecDepth 20000 in
theorem ggX4_addPump_X4_save : GoodIn wsX4_addPump wsX4_save := goodIn_r _ [18, 19, 20, 21, 22, 5, 23, 24, 25, 26, 27, 28, 29, 30, 31, 32, 33, 34, 35, 36, 37, 38, 39, 40, 41, 42, 43, 44, 45, 46, 47, 48, 49, 50, 51, 52, 53, 54, 55, 56, 57, 58, 59, 60, 61, 62, 63, 64, 65, 66, 67, 68, 69, 70, 75, 76, 77, 78, 79, 80, 81, 82, 83, 84, 85, 86, 87, 88, 89, 90, 91, 92, 93, 94, 95, 96, 97, 98, 99, 100, 101, 102, 103, 104, 105, 106, 107, 108] (by decide +kernel) (by decide +kernel)
set_option maxRecDepth 20000 in
theorem gX4_addPump_X4_save : GoodIn wsX4_addPump (wsV RX4 65 RX4 yX4_save wsX4_save) := goodIn_app (goodIn_of _ (by decide +kernel)) ggX4_addPump_X4_save
set_option maxRecDepth 20000 in
theorem ggX4_addPump_X2_join : GoodIn wsX4_addPump wsX2_join := goodIn_r _ [74, 53, 54, 56, 58, 98, 99, 100, 101, 102, 103, 104, 105, 106] (by decide +kernel) (by decide +kernel)
set_option maxRecDepth 20000 in
theorem gX4_addPump_X2_join : GoodIn wsX4_addPump (wsV RX4 122 RX2 yX2_join wsX2_join) := goodIn_app (goodIn_of _ (by decide +kernel)) ggX4_addPump_X2_join
theorem dX4_addPump_0 : decode cX4_addPump 0 = .ok (.iload_n 1, 1) := by decide +kernel
theorem dX4_addPump_1 : decode cX4_addPump 1 = .ok (.iconst 1, 1) := by decide +kernel
theorem dX4_addPump_2 : decode cX4_addPump 2 = .ok (.sipush 500, 3) := by decide +kernel
theorem dX4_addPump_5 : decode cX4_addPump 5 = .ok (.invokestatic 43, 3) := by decide +kernel
theorem dX4_addPump_8 : decode cX4_addPump 8 = .ok (.ifCond .eq 10, 3) := by decide +kernel
theorem dX4_addPump_11 : decode cX4_addPump 11 = .ok (.iload_n 2, 1) := by decide +kernel
theorem dX4_addPump_12 : decode cX4_addPump 12 = .ok (.invokestatic 106, 3) := by decide +kernel
theorem dX4_addPump_15 : decode cX4_addPump 15 = .ok (.ifCond .ne 13, 3) := by decide +kernel
theorem dX4_addPump_18 : decode cX4_addPump 18 = .ok (.new 47, 3) := by decide +kernel
theorem dX4_addPump_21 : decode cX4_addPump 21 = .ok (.dup, 1) := by decide +kernel
theorem dX4_addPump_22 : decode cX4_addPump 22 = .ok (.ldc 109, 2) := by decide +kernel
theorem dX4_addPump_24 : decode cX4_addPump 24 = .ok (.invokespecial 51, 3) := by decide +kernel
theorem dX4_addPump_27 : decode cX4_addPump 27 = .ok (.athrow, 1) := by decide +kernel
theorem dX4_addPump_28 : decode cX4_addPump 28 = .ok (.aload_n 0, 1) := by decide +kernel
theorem dX4_addPump_29 : decode cX4_addPump 29 = .ok (.getfield 10, 3) := by decide +kernel
theorem dX4_addPump_32 : decode cX4_addPump 32 = .ok (.getfield 111, 3) := by decide +kernel
theorem dX4_addPump_35 : decode cX4_addPump 35 = .ok (.getfield 115, 3) := by decide +kernel
theorem dX4_addPump_38 : decode cX4_addPump 38 = .ok (.bipush 6, 2) := by decide +kernel
theorem dX4_addPump_40 : decode cX4_addPump 40 = .ok (.if_icmp .lt 13, 3) := by decide +kernel
theorem dX4_addPump_43 : decode cX4_addPump 43 = .ok (.new 60, 3) := by decide +kernel
theorem dX4_addPump_46 : decode cX4_addPump 46 = .ok (.dup, 1) := by decide +kernel
theorem dX4_addPump_47 : decode cX4_addPump 47 = .ok (.ldc 120, 2) := by decide +kernel
theorem dX4_addPump_49 : decode cX4_addPump 49 = .ok (.invokespecial 64, 3) := by decide +kernel
theorem dX4_addPump_52 : decode cX4_addPump 52 = .ok (.athrow, 1) := by decide +kernel
theorem dX4_addPump_53 : decode cX4_addPump 53 = .ok (.aload_n 0, 1) := by decide +kernel
theorem dX4_addPump_54 : decode cX4_addPump 54 = .ok (.invokevirtual 65, 3) := by decide +kernel
theorem dX4_addPump_57 : decode cX4_addPump 57 = .ok (.aload_n 0, 1) := by decide +kernel
theorem dX4_addPump_58 : decode cX4_addPump 58 = .ok (.getfield 10, 3) := by decide +kernel
theorem dX4_addPump_61 : decode cX4_addPump 61 = .ok (.getfield 111, 3) := by decide +kernel
theorem dX4_addPump_64 : decode cX4_addPump 64 = .ok (.iload_n 1, 1) := by decide +kernel
theorem dX4_addPump_65 : decode cX4_addPump 65 = .ok (.iload_n 2, 1) := by decide +kernel
theorem dX4_addPump_66 : decode cX4_addPump 66 = .ok (.invokevirtual 122, 3) := by decide +kernel
theorem dX4_addPump_69 : decode cX4_addPump 69 = .ok (.ireturn, 1) := by decide +kernel
set_option maxRecDepth 20000 in
theorem ggX4_swear_X4_isPump : GoodIn wsX4_swear wsX4_isPump := goodIn_r _ [12, 5, 6, 13, 14, 15, 16, 17, 18, 79, 80, 81, 82, 83, 84, 85, 86, 87, 88, 89, 90, 91, 92, 93, 94, 95, 96, 97, 98, 99, 100, 101, 102, 103, 104, 105, 106, 107, 108, 109, 110] (by decide +kernel) (by decide +kernel)
set_option maxRecDepth 20000 in
theorem gX4_swear_X4_isPump : GoodIn wsX4_swear (wsV RX4 125 RX4 yX4_isPump wsX4_isPump) := goodIn_app (goodIn_of _ (by decide +kernel)) ggX4_swear_X4_isPump
set_option maxRecDepth 20000 in
theorem ggX4_swear_X4_isOath : GoodIn wsX4_swear wsX4_isOath := goodIn_r _ [21, 22, 23, 11, 24] (by decide +kernel) (by decide +kernel)
set_option maxRecDepth 20000 in
theorem gX4_swear_X4_isOath : GoodIn wsX4_swear (va_wsS RX4 106 yX4_isOath wsX4_isOath) := goodIn_app (goodIn_of _ (by decide +kernel)) ggX4_swear_X4_isOath
set_option maxRecDepth 20000 in
theorem ggX4_swear_X4_save : GoodIn wsX4_swear wsX4_save := goodIn_r _ [28, 29, 30, 31, 32, 5, 33, 34, 35, 36, 37, 38, 39, 40, 41, 42, 43, 44, 45, 46, 47, 48, 49, 50, 51, 52, 53, 54, 55, 56, 57, 58, 59, 60, 16, 61, 18, 62, 63, 64, 65, 66, 67, 68, 69, 70, 71, 72, 73, 74, 75, 76, 77, 78, 79, 80, 81, 82, 83, 84, 85, 86, 87, 88, 89, 90, 91, 92, 93, 94, 95, 96, 97, 98, 99, 100, 101, 102, 103, 104, 105, 106, 107, 108, 109, 110, 111, 112] (by decide +kernel) (by decide +kernel)
set_option maxRecDepth 20000 in
theorem gX4_swear_X4_save : GoodIn wsX4_swear (wsV RX4 65 RX4 yX4_save wsX4_save) := goodIn_app (goodIn_of _ (by decide +kernel)) ggX4_swear_X4_save
theorem dX4_swear_0 : decode cX4_swear 0 = .ok (.aload_n 0, 1) := by decide +kernel
theorem dX4_swear_1 : decode cX4_swear 1 = .ok (.iload_n 1, 1) := by decide +kernel
theorem dX4_swear_2 : decode cX4_swear 2 = .ok (.invokevirtual 125, 3) := by decide +kernel
theorem dX4_swear_5 : decode cX4_swear 5 = .ok (.ifCond .ne 13, 3) := by decide +kernel
theorem dX4_swear_8 : decode cX4_swear 8 = .ok (.new 96, 3) := by decide +kernel
theorem dX4_swear_11 : decode cX4_swear 11 = .ok (.dup, 1) := by decide +kernel
theorem dX4_swear_12 : decode cX4_swear 12 = .ok (.ldc 128, 2) := by decide +kernel
theorem dX4_swear_14 : decode cX4_swear 14 = .ok (.invokespecial 100, 3) := by decide +kernel
theorem dX4_swear_17 : decode cX4_swear 17 = .ok (.athrow, 1) := by decide +kernel
theorem dX4_swear_18 : decode cX4_swear 18 = .ok (.iload_n 2, 1) := by decide +kernel
theorem dX4_swear_19 : decode cX4_swear 19 = .ok (.invokestatic 106, 3) := by decide +kernel
theorem dX4_swear_22 : decode cX4_swear 22 = .ok (.ifCond .ne 13, 3) := by decide +kernel
theorem dX4_swear_25 : decode cX4_swear 25 = .ok (.new 47, 3) := by decide +kernel
theorem dX4_swear_28 : decode cX4_swear 28 = .ok (.dup, 1) := by decide +kernel
theorem dX4_swear_29 : decode cX4_swear 29 = .ok (.ldc 130, 2) := by decide +kernel
theorem dX4_swear_31 : decode cX4_swear 31 = .ok (.invokespecial 51, 3) := by decide +kernel
theorem dX4_swear_34 : decode cX4_swear 34 = .ok (.athrow, 1) := by decide +kernel
theorem dX4_swear_35 : decode cX4_swear 35 = .ok (.aload_n 0, 1) := by decide +kernel
theorem dX4_swear_36 : decode cX4_swear 36 = .ok (.invokevirtual 65, 3) := by decide +kernel
theorem dX4_swear_39 : decode cX4_swear 39 = .ok (.aload_n 0, 1) := by decide +kernel
theorem dX4_swear_40 : decode cX4_swear 40 = .ok (.getfield 10, 3) := by decide +kernel
theorem dX4_swear_43 : decode cX4_swear 43 = .ok (.getfield 111, 3) := by decide +kernel
theorem dX4_swear_46 : decode cX4_swear 46 = .ok (.getfield 132, 3) := by decide +kernel
theorem dX4_swear_49 : decode cX4_swear 49 = .ok (.iload_n 1, 1) := by decide +kernel
theorem dX4_swear_50 : decode cX4_swear 50 = .ok (.iaload, 1) := by decide +kernel
theorem dX4_swear_51 : decode cX4_swear 51 = .ok (.istore_n 3, 1) := by decide +kernel
theorem dX4_swear_52 : decode cX4_swear 52 = .ok (.aload_n 0, 1) := by decide +kernel
theorem dX4_swear_53 : decode cX4_swear 53 = .ok (.getfield 10, 3) := by decide +kernel
theorem dX4_swear_56 : decode cX4_swear 56 = .ok (.getfield 111, 3) := by decide +kernel
theorem dX4_swear_59 : decode cX4_swear 59 = .ok (.getfield 132, 3) := by decide +kernel
theorem dX4_swear_62 : decode cX4_swear 62 = .ok (.iload_n 1, 1) := by decide +kernel
theorem dX4_swear_63 : decode cX4_swear 63 = .ok (.iload_n 2, 1) := by decide +kernel
theorem dX4_swear_64 : decode cX4_swear 64 = .ok (.iastore, 1) := by decide +kernel
theorem dX4_swear_65 : decode cX4_swear 65 = .ok (.iload_n 3, 1) := by decide +kernel
theorem dX4_swear_66 : decode cX4_swear 66 = .ok (.ireturn, 1) := by decide +kernel
set_option maxRecDepth 20000 in
theorem ggX4_service_X4_isPump : GoodIn wsX4_service wsX4_isPump := goodIn_r _ [12, 5, 6, 13, 14, 15, 16, 17, 18, 77, 78, 79, 80, 81, 82, 83, 84, 85, 86, 87, 88, 89, 90, 91, 92, 93, 94, 95, 96, 97, 98, 99, 100, 101, 102, 103, 104, 105, 106, 107, 108] (by decide +kernel) (by decide +kernel)
set_option maxRecDepth 20000 in
theorem gX4_service_X4_isPump : GoodIn wsX4_service (wsV RX4 125 RX4 yX4_isPump wsX4_isPump) := goodIn_app (goodIn_of _ (by decide +kernel)) ggX4_service_X4_isPump
set_option maxRecDepth 20000 in
theorem ggX4_service_X4_isInService : GoodIn wsX4_service wsX4_isInService := goodIn_r _ [22, 5, 6, 7, 8, 9, 10, 11, 12, 13, 14, 15, 16, 17, 18, 77, 78, 79, 80, 81, 82, 83, 84, 85, 86, 87, 88, 89, 90, 91, 92, 93, 94, 95, 96, 97, 98, 99, 100, 101, 102, 103, 104, 105, 106, 107, 108] (by decide +kernel) (by decide +kernel)
set_option maxRecDepth 20000 in
theorem gX4_service_X4_isInService : GoodIn wsX4_service (wsV RX4 136 RX4 yX4_isInService wsX4_isInService) := goodIn_app (goodIn_of _ (by decide +kernel)) ggX4_service_X4_isInService
set_option maxRecDepth 20000 in
theorem ggX4_service_X4_save : GoodIn wsX4_service wsX4_save := goodIn_r _ [26, 27, 28, 29, 30, 5, 31, 32, 33, 34, 35, 36, 37, 38, 39, 40, 41, 42, 43, 44, 45, 46, 47, 48, 49, 50, 51, 52, 53, 54, 55, 56, 57, 58, 16, 59, 18, 60, 61, 62, 63, 64, 65, 66, 67, 68, 69, 70, 71, 72, 73, 74, 75, 76, 77, 78, 79, 80, 81, 82, 83, 84, 85, 86, 87, 88, 89, 90, 91, 92, 93, 94, 95, 96, 97, 98, 99, 100, 101, 102, 103, 104, 105, 106, 107, 108, 109, 110] (by decide +kernel) (by decide +kernel)
set_option maxRecDepth 20000 in
theorem gX4_service_X4_save : GoodIn wsX4_service (wsV RX4 65 RX4 yX4_save wsX4_save) := goodIn_app (goodIn_of _ (by decide +kernel)) ggX4_service_X4_save
theorem dX4_service_0 : decode cX4_service 0 = .ok (.aload_n 0, 1) := by decide +kernel
theorem dX4_service_1 : decode cX4_service 1 = .ok (.iload_n 1, 1) := by decide +kernel
theorem dX4_service_2 : decode cX4_service 2 = .ok (.invokevirtual 125, 3) := by decide +kernel
theorem dX4_service_5 : decode cX4_service 5 = .ok (.ifCond .ne 13, 3) := by decide +kernel
theorem dX4_service_8 : decode cX4_service 8 = .ok (.new 96, 3) := by decide +kernel
theorem dX4_service_11 : decode cX4_service 11 = .ok (.dup, 1) := by decide +kernel
theorem dX4_service_12 : decode cX4_service 12 = .ok (.ldc 128, 2) := by decide +kernel
theorem dX4_service_14 : decode cX4_service 14 = .ok (.invokespecial 100, 3) := by decide +kernel
theorem dX4_service_17 : decode cX4_service 17 = .ok (.athrow, 1) := by decide +kernel
theorem dX4_service_18 : decode cX4_service 18 = .ok (.aload_n 0, 1) := by decide +kernel
theorem dX4_service_19 : decode cX4_service 19 = .ok (.iload_n 1, 1) := by decide +kernel
theorem dX4_service_20 : decode cX4_service 20 = .ok (.invokevirtual 136, 3) := by decide +kernel
theorem dX4_service_23 : decode cX4_service 23 = .ok (.iload_n 2, 1) := by decide +kernel
theorem dX4_service_24 : decode cX4_service 24 = .ok (.if_icmp .ne 13, 3) := by decide +kernel
theorem dX4_service_27 : decode cX4_service 27 = .ok (.new 60, 3) := by decide +kernel
theorem dX4_service_30 : decode cX4_service 30 = .ok (.dup, 1) := by decide +kernel
theorem dX4_service_31 : decode cX4_service 31 = .ok (.ldc 139, 2) := by decide +kernel
theorem dX4_service_33 : decode cX4_service 33 = .ok (.invokespecial 64, 3) := by decide +kernel
theorem dX4_service_36 : decode cX4_service 36 = .ok (.athrow, 1) := by decide +kernel
theorem dX4_service_37 : decode cX4_service 37 = .ok (.aload_n 0, 1) := by decide +kernel
theorem dX4_service_38 : decode cX4_service 38 = .ok (.invokevirtual 65, 3) := by decide +kernel
theorem dX4_service_41 : decode cX4_service 41 = .ok (.aload_n 0, 1) := by decide +kernel
theorem dX4_service_42 : decode cX4_service 42 = .ok (.getfield 10, 3) := by decide +kernel
theorem dX4_service_45 : decode cX4_service 45 = .ok (.getfield 111, 3) := by decide +kernel
theorem dX4_service_48 : decode cX4_service 48 = .ok (.getfield 141, 3) := by decide +kernel
theorem dX4_service_51 : decode cX4_service 51 = .ok (.iload_n 1, 1) := by decide +kernel
theorem dX4_service_52 : decode cX4_service 52 = .ok (.iaload, 1) := by decide +kernel
theorem dX4_service_53 : decode cX4_service 53 = .ok (.iconst 1, 1) := by decide +kernel
theorem dX4_service_54 : decode cX4_service 54 = .ok (.if_icmp .ne 7, 3) := by decide +kernel
theorem dX4_service_57 : decode cX4_service 57 = .ok (.iconst 1, 1) := by decide +kernel
theorem dX4_service_58 : decode cX4_service 58 = .ok (.goto 4, 3) := by decide +kernel
theorem dX4_service_61 : decode cX4_service 61 = .ok (.iconst 0, 1) := by decide +kernel
theorem dX4_service_62 : decode cX4_service 62 = .ok (.istore_n 3, 1) := by decide +kernel
theorem dX4_service_63 : decode cX4_service 63 = .ok (.aload_n 0, 1) := by decide +kernel
theorem dX4_service_64 : decode cX4_service 64 = .ok (.getfield 10, 3) := by decide +kernel
theorem dX4_service_67 : decode cX4_service 67 = .ok (.getfield 111, 3) := by decide +kernel
theorem dX4_service_70 : decode cX4_service 70 = .ok (.getfield 141, 3) := by decide +kernel
theorem dX4_service_73 : decode cX4_service 73 = .ok (.iload_n 1, 1) := by decide +kernel
theorem dX4_service_74 : decode cX4_service 74 = .ok (.iload_n 2, 1) := by decide +kernel
theorem dX4_service_75 : decode cX4_service 75 = .ok (.ifCond .eq 7, 3) := by decide +kernel
theorem dX4_service_78 : decode cX4_service 78 = .ok (.iconst 0, 1) := by decide +kernel
theorem dX4_service_79 : decode cX4_service 79 = .ok (.goto 4, 3) := by decide +kernel
theorem dX4_service_82 : decode cX4_service 82 = .ok (.iconst 2, 1) := by decide +kernel
theorem dX4_service_83 : decode cX4_service 83 = .ok (.iastore, 1) := by decide +kernel
theorem dX4_service_84 : decode cX4_service 84 = .ok (.iload_n 3, 1) := by decide +kernel
theorem dX4_service_85 : decode cX4_service 85 = .ok (.ireturn, 1) := by decide +kernel
set_option maxRecDepth 20000 in
theorem ggX4_pass_X4_isIn : GoodIn wsX4_pass wsX4_isIn := goodIn_r _ [10] (by decide +kernel) (by decide +kernel)
set_option maxRecDepth 20000 in
theorem gX4_pass_X4_isIn : GoodIn wsX4_pass (va_wsS RX4 43 yX4_isIn wsX4_isIn) := goodIn_app (goodIn_of _ (by decide +kernel)) ggX4_pass_X4_isIn
set_option maxRecDepth 20000 in
theorem ggX4_pass_X4_hasTimeFor : GoodIn wsX4_pass wsX4_hasTimeFor := goodIn_r _ [14, 5, 15, 16, 155, 156, 157, 158, 159, 160, 161, 162, 163, 164, 165, 166, 167, 168, 169, 170, 171, 172, 173, 174, 175, 176, 177] (by decide +kernel) (by decide +kernel)
set_option maxRecDepth 20000 in
theorem gX4_pass_X4_hasTimeFor : GoodIn wsX4_pass (wsV RX4 146 RX4 yX4_hasTimeFor wsX4_hasTimeFor) := goodIn_app (goodIn_of _ (by decide +kernel)) ggX4_pass_X4_hasTimeFor
set_option maxRecDepth 20000 in
theorem ggX4_pass_X4_save : GoodIn wsX4_pass wsX4_save := goodIn_r _ [20, 21, 22, 23, 24, 5, 25, 26, 27, 28, 29, 30, 31, 32, 33, 34, 35, 36, 37, 38, 39, 40, 41, 42, 43, 44, 45, 46, 47, 48, 49, 50, 51, 52, 53, 54, 55, 56, 57, 58, 59, 60, 61, 62, 63, 64, 65, 66, 67, 68, 69, 70, 71, 72, 155, 156, 157, 158, 159, 160, 161, 162, 163, 164, 165, 166, 167, 168, 169, 170, 171, 172, 173, 174, 175, 176, 177, 178, 179, 180, 181, 182, 183, 184, 185, 186, 187, 188] (by decide +kernel) (by decide +kernel)
set_option maxRecDepth 20000 in
theorem gX4_pass_X4_save : GoodIn wsX4_pass (wsV RX4 65 RX4 yX4_save wsX4_save) := goodIn_app (goodIn_of _ (by decide +kernel)) ggX4_pass_X4_save
set_option maxRecDepth 20000 in
theorem ggX4_pass_X3_letPass : GoodIn wsX4_pass wsX3_letPass := goodIn_r _ [76, 77, 78, 79, 29, 80, 35, 39, 48, 32, 33, 37, 40, 38, 81, 82, 83, 84, 47, 85, 86, 87, 53, 88, 55, 61, 89, 90, 91, 92, 34, 41, 36, 49, 93, 94, 95, 96, 97, 59, 98, 99, 100, 101, 60, 102, 103, 104, 105, 106, 107, 108, 109, 110, 111, 112, 113, 114, 115, 116, 117, 118, 58, 119, 120, 121, 122, 123, 124, 125, 126, 62, 64, 127, 128, 129, 130, 68, 131, 71, 72, 43, 44, 45, 70, 132, 133, 134, 135, 31, 136, 137, 138, 139, 140, 141, 142, 143, 144, 145, 146, 63, 56, 147, 148, 149, 150, 151, 152, 153, 154, 46, 163, 164, 165, 166, 167, 168, 169, 170, 171, 172, 173, 174, 175, 176, 177, 178, 179, 180, 181, 182, 183, 184, 185, 186, 187, 188] (by decide +kernel) (by decide +kernel)
set_option maxRecDepth 20000 in
theorem gX4_pass_X3_letPass : GoodIn wsX4_pass (wsV RX4 154 RX3 yX3_letPass wsX3_letPass) := goodIn_app (goodIn_of _ (by decide +kernel)) ggX4_pass_X3_letPass
theorem dX4_pass_0 : decode cX4_pass 0 = .ok (.iload_n 1, 1) := by decide +kernel
theorem dX4_pass_1 : decode cX4_pass 1 = .ok (.iconst 1, 1) := by decide +kernel
theorem dX4_pass_2 : decode cX4_pass 2 = .ok (.sipush 1440, 3) := by decide +kernel
theorem dX4_pass_5 : decode cX4_pass 5 = .ok (.invokestatic 43, 3) := by decide +kernel
theorem dX4_pass_8 : decode cX4_pass 8 = .ok (.ifCond .ne 13, 3) := by decide +kernel
theorem dX4_pass_11 : decode cX4_pass 11 = .ok (.new 47, 3) := by decide +kernel
theorem dX4_pass_14 : decode cX4_pass 14 = .ok (.dup, 1) := by decide +kernel
theorem dX4_pass_15 : decode cX4_pass 15 = .ok (.ldc 144, 2) := by decide +kernel
theorem dX4_pass_17 : decode cX4_pass 17 = .ok (.invokespecial 51, 3) := by decide +kernel
theorem dX4_pass_20 : decode cX4_pass 20 = .ok (.athrow, 1) := by decide +kernel
theorem dX4_pass_21 : decode cX4_pass 21 = .ok (.aload_n 0, 1) := by decide +kernel
theorem dX4_pass_22 : decode cX4_pass 22 = .ok (.iload_n 1, 1) := by decide +kernel
theorem dX4_pass_23 : decode cX4_pass 23 = .ok (.invokevirtual 146, 3) := by decide +kernel
theorem dX4_pass_26 : decode cX4_pass 26 = .ok (.ifCond .ne 13, 3) := by decide +kernel
theorem dX4_pass_29 : decode cX4_pass 29 = .ok (.new 60, 3) := by decide +kernel
theorem dX4_pass_32 : decode cX4_pass 32 = .ok (.dup, 1) := by decide +kernel
theorem dX4_pass_33 : decode cX4_pass 33 = .ok (.ldc 149, 2) := by decide +kernel
theorem dX4_pass_35 : decode cX4_pass 35 = .ok (.invokespecial 64, 3) := by decide +kernel
theorem dX4_pass_38 : decode cX4_pass 38 = .ok (.athrow, 1) := by decide +kernel
theorem dX4_pass_39 : decode cX4_pass 39 = .ok (.aload_n 0, 1) := by decide +kernel
theorem dX4_pass_40 : decode cX4_pass 40 = .ok (.invokevirtual 65, 3) := by decide +kernel
theorem dX4_pass_43 : decode cX4_pass 43 = .ok (.aload_n 0, 1) := by decide +kernel
theorem dX4_pass_44 : decode cX4_pass 44 = .ok (.getfield 10, 3) := by decide +kernel
theorem dX4_pass_47 : decode cX4_pass 47 = .ok (.getfield 151, 3) := by decide +kernel
theorem dX4_pass_50 : decode cX4_pass 50 = .ok (.istore_n 2, 1) := by decide +kernel
theorem dX4_pass_51 : decode cX4_pass 51 = .ok (.aload_n 0, 1) := by decide +kernel
theorem dX4_pass_52 : decode cX4_pass 52 = .ok (.getfield 10, 3) := by decide +kernel
theorem dX4_pass_55 : decode cX4_pass 55 = .ok (.iload_n 1, 1) := by decide +kernel
theorem dX4_pass_56 : decode cX4_pass 56 = .ok (.invokevirtual 154, 3) := by decide +kernel
theorem dX4_pass_59 : decode cX4_pass 59 = .ok (.aload_n 0, 1) := by decide +kernel
theorem dX4_pass_60 : decode cX4_pass 60 = .ok (.getfield 10, 3) := by decide +kernel
theorem dX4_pass_63 : decode cX4_pass 63 = .ok (.getfield 151, 3) := by decide +kernel
theorem dX4_pass_66 : decode cX4_pass 66 = .ok (.iload_n 2, 1) := by decide +kernel
theorem dX4_pass_67 : decode cX4_pass 67 = .ok (.isub, 1) := by decide +kernel
theorem dX4_pass_68 : decode cX4_pass 68 = .ok (.ireturn, 1) := by decide +kernel
set_option maxRecDepth 20000 in
theorem ggX4_pump_X4_isPump : GoodIn wsX4_pump wsX4_isPump := goodIn_r _ [11, 5, 6, 12, 13, 14, 15, 16, 17, 34, 35, 36, 37, 38, 39, 40, 41, 42, 43, 44, 45, 46, 47, 48, 49, 50, 51, 52, 53, 54, 55, 56, 57, 58, 59, 60, 61, 62, 63, 64, 65] (by decide +kernel) (by decide +kernel)
set_option maxRecDepth 20000 in
theorem gX4_pump_X4_isPump : GoodIn wsX4_pump (wsV RX4 125 RX4 yX4_isPump wsX4_isPump) := goodIn_app (goodIn_of _ (by decide +kernel)) ggX4_pump_X4_isPump
set_option maxRecDepth 20000 in
theorem ggX4_pump_X4_isIn : GoodIn wsX4_pump wsX4_isIn := goodIn_r _ [20] (by decide +kernel) (by decide +kernel)
set_option maxRecDepth 20000 in
theorem gX4_pump_X4_isIn : GoodIn wsX4_pump (va_wsS RX4 43 yX4_isIn wsX4_isIn) := goodIn_app (goodIn_of _ (by decide +kernel)) ggX4_pump_X4_isIn
set_option maxRecDepth 20000 in
theorem ggX4_pump_X2_fact : GoodIn wsX4_pump wsX2_fact := goodIn_r _ [24, 25, 26, 27, 28, 29, 30, 31, 32, 33, 13, 14, 15, 16, 17, 57, 58, 59, 60, 61, 62, 63, 64, 65] (by decide +kernel) (by decide +kernel)
set_option maxRecDepth 20000 in
theorem gX4_pump_X2_fact : GoodIn wsX4_pump (wsV RX4 160 RX2 yX2_fact wsX2_fact) := goodIn_app (goodIn_of _ (by decide +kernel)) ggX4_pump_X2_fact
theorem dX4_pump_0 : decode cX4_pump 0 = .ok (.aload_n 0, 1) := by decide +kernel
theorem dX4_pump_1 : decode cX4_pump 1 = .ok (.iload_n 1, 1) := by decide +kernel
theorem dX4_pump_2 : decode cX4_pump 2 = .ok (.invokevirtual 125, 3) := by decide +kernel
theorem dX4_pump_5 : decode cX4_pump 5 = .ok (.ifCond .ne 13, 3) := by decide +kernel
theorem dX4_pump_8 : decode cX4_pump 8 = .ok (.new 96, 3) := by decide +kernel
theorem dX4_pump_11 : decode cX4_pump 11 = .ok (.dup, 1) := by decide +kernel
theorem dX4_pump_12 : decode cX4_pump 12 = .ok (.ldc 128, 2) := by decide +kernel
theorem dX4_pump_14 : decode cX4_pump 14 = .ok (.invokespecial 100, 3) := by decide +kernel
theorem dX4_pump_17 : decode cX4_pump 17 = .ok (.athrow, 1) := by decide +kernel
theorem dX4_pump_18 : decode cX4_pump 18 = .ok (.iload_n 2, 1) := by decide +kernel
theorem dX4_pump_19 : decode cX4_pump 19 = .ok (.iconst 0, 1) := by decide +kernel
theorem dX4_pump_20 : decode cX4_pump 20 = .ok (.bipush 7, 2) := by decide +kernel
theorem dX4_pump_22 : decode cX4_pump 22 = .ok (.invokestatic 43, 3) := by decide +kernel
theorem dX4_pump_25 : decode cX4_pump 25 = .ok (.ifCond .ne 13, 3) := by decide +kernel
theorem dX4_pump_28 : decode cX4_pump 28 = .ok (.new 47, 3) := by decide +kernel
theorem dX4_pump_31 : decode cX4_pump 31 = .ok (.dup, 1) := by decide +kernel
theorem dX4_pump_32 : decode cX4_pump 32 = .ok (.ldc 158, 2) := by decide +kernel
theorem dX4_pump_34 : decode cX4_pump 34 = .ok (.invokespecial 51, 3) := by decide +kernel
theorem dX4_pump_37 : decode cX4_pump 37 = .ok (.athrow, 1) := by decide +kernel
theorem dX4_pump_38 : decode cX4_pump 38 = .ok (.aload_n 0, 1) := by decide +kernel
theorem dX4_pump_39 : decode cX4_pump 39 = .ok (.getfield 10, 3) := by decide +kernel
theorem dX4_pump_42 : decode cX4_pump 42 = .ok (.getfield 111, 3) := by decide +kernel
theorem dX4_pump_45 : decode cX4_pump 45 = .ok (.iload_n 1, 1) := by decide +kernel
theorem dX4_pump_46 : decode cX4_pump 46 = .ok (.iload_n 2, 1) := by decide +kernel
theorem dX4_pump_47 : decode cX4_pump 47 = .ok (.invokevirtual 160, 3) := by decide +kernel
theorem dX4_pump_50 : decode cX4_pump 50 = .ok (.ireturn, 1) := by decide +kernel
set_option maxRecDepth 20000 in
theorem ggX4_demand_X4_isHour : GoodIn wsX4_demand wsX4_isHour := goodIn_r _ [7, 8, 9, 6, 10] (by decide +kernel) (by decide +kernel)
set_option maxRecDepth 20000 in
theorem gX4_demand_X4_isHour : GoodIn wsX4_demand (va_wsS RX4 92 yX4_isHour wsX4_isHour) := goodIn_app (goodIn_of _ (by decide +kernel)) ggX4_demand_X4_isHour
set_option maxRecDepth 20000 in
theorem ggX4_demand_X3_demandAt : GoodIn wsX4_demand wsX3_demandAt := goodIn_r _ [15, 16, 25, 26, 27, 28, 29, 30, 31, 32, 33, 34, 35, 36, 37, 38, 39] (by decide +kernel) (by decide +kernel)
set_option maxRecDepth 20000 in
theorem gX4_demand_X3_demandAt : GoodIn wsX4_demand (wsV RX4 163 RX3 yX3_demandAt wsX3_demandAt) := goodIn_app (goodIn_of _ (by decide +kernel)) ggX4_demand_X3_demandAt
theorem dX4_demand_0 : decode cX4_demand 0 = .ok (.iload_n 1, 1) := by decide +kernel
theorem dX4_demand_1 : decode cX4_demand 1 = .ok (.invokestatic 92, 3) := by decide +kernel
theorem dX4_demand_4 : decode cX4_demand 4 = .ok (.ifCond .ne 13, 3) := by decide +kernel
theorem dX4_demand_7 : decode cX4_demand 7 = .ok (.new 96, 3) := by decide +kernel
theorem dX4_demand_10 : decode cX4_demand 10 = .ok (.dup, 1) := by decide +kernel
theorem dX4_demand_11 : decode cX4_demand 11 = .ok (.ldc 98, 2) := by decide +kernel
theorem dX4_demand_13 : decode cX4_demand 13 = .ok (.invokespecial 100, 3) := by decide +kernel
theorem dX4_demand_16 : decode cX4_demand 16 = .ok (.athrow, 1) := by decide +kernel
theorem dX4_demand_17 : decode cX4_demand 17 = .ok (.aload_n 0, 1) := by decide +kernel
theorem dX4_demand_18 : decode cX4_demand 18 = .ok (.getfield 10, 3) := by decide +kernel
theorem dX4_demand_21 : decode cX4_demand 21 = .ok (.iload_n 1, 1) := by decide +kernel
theorem dX4_demand_22 : decode cX4_demand 22 = .ok (.invokevirtual 163, 3) := by decide +kernel
theorem dX4_demand_25 : decode cX4_demand 25 = .ok (.ireturn, 1) := by decide +kernel
set_option maxRecDepth 20000 in
theorem ggX4_value_X4_isIn : GoodIn wsX4_value wsX4_isIn := goodIn_r _ [7] (by decide +kernel) (by decide +kernel)
set_option maxRecDepth 20000 in
theorem gX4_value_X4_isIn : GoodIn wsX4_value (va_wsS RX4 43 yX4_isIn wsX4_isIn) := goodIn_app (goodIn_of _ (by decide +kernel)) ggX4_value_X4_isIn
set_option maxRecDepth 20000 in
theorem ggX4_value_X3_numberAt : GoodIn wsX4_value wsX3_numberAt := goodIn_r _ [12, 13, 14, 15, 16, 17, 18, 19, 20, 21, 22, 23, 24, 25, 26, 27, 28, 29, 30, 31, 32, 33, 34, 11, 35, 36, 37, 38, 39, 40, 49, 50, 51, 52, 53, 54, 55, 56, 57, 58, 59, 60, 61, 62, 63, 64, 65, 66, 67, 68, 69, 70, 71, 72, 73, 74] (by decide +kernel) (by decide +kernel)
set_option maxRecDepth 20000 in
theorem gX4_value_X3_numberAt : GoodIn wsX4_value (wsV RX4 167 RX3 yX3_numberAt wsX3_numberAt) := goodIn_app (goodIn_of _ (by decide +kernel)) ggX4_value_X3_numberAt
theorem dX4_value_0 : decode cX4_value 0 = .ok (.iload_n 1, 1) := by decide +kernel
theorem dX4_value_1 : decode cX4_value 1 = .ok (.iconst 0, 1) := by decide +kernel
theorem dX4_value_2 : decode cX4_value 2 = .ok (.bipush 13, 2) := by decide +kernel
theorem dX4_value_4 : decode cX4_value 4 = .ok (.invokestatic 43, 3) := by decide +kernel
theorem dX4_value_7 : decode cX4_value 7 = .ok (.ifCond .ne 13, 3) := by decide +kernel
theorem dX4_value_10 : decode cX4_value 10 = .ok (.new 47, 3) := by decide +kernel
theorem dX4_value_13 : decode cX4_value 13 = .ok (.dup, 1) := by decide +kernel
theorem dX4_value_14 : decode cX4_value 14 = .ok (.ldc 158, 2) := by decide +kernel
theorem dX4_value_16 : decode cX4_value 16 = .ok (.invokespecial 51, 3) := by decide +kernel
theorem dX4_value_19 : decode cX4_value 19 = .ok (.athrow, 1) := by decide +kernel
theorem dX4_value_20 : decode cX4_value 20 = .ok (.aload_n 0, 1) := by decide +kernel
theorem dX4_value_21 : decode cX4_value 21 = .ok (.getfield 10, 3) := by decide +kernel
theorem dX4_value_24 : decode cX4_value 24 = .ok (.iload_n 1, 1) := by decide +kernel
theorem dX4_value_25 : decode cX4_value 25 = .ok (.invokevirtual 167, 3) := by decide +kernel
theorem dX4_value_28 : decode cX4_value 28 = .ok (.ireturn, 1) := by decide +kernel
set_option maxRecDepth 20000 in
theorem ggX4_setting_X4_isIn : GoodIn wsX4_setting wsX4_isIn := goodIn_r _ [7] (by decide +kernel) (by decide +kernel)
set_option maxRecDepth 20000 in
theorem gX4_setting_X4_isIn : GoodIn wsX4_setting (va_wsS RX4 43 yX4_isIn wsX4_isIn) := goodIn_app (goodIn_of _ (by decide +kernel)) ggX4_setting_X4_isIn
set_option maxRecDepth 20000 in
theorem ggX4_setting_X3_settingAt : GoodIn wsX4_setting wsX3_settingAt := goodIn_r _ [12, 13, 22, 23, 24, 25, 26, 27, 28, 29, 30, 31, 32, 33, 34, 35, 36] (by decide +kernel) (by decide +kernel)
set_option maxRecDepth 20000 in
theorem gX4_setting_X3_settingAt : GoodIn wsX4_setting (wsV RX4 170 RX3 yX3_settingAt wsX3_settingAt) := goodIn_app (goodIn_of _ (by decide +kernel)) ggX4_setting_X3_settingAt
theorem dX4_setting_0 : decode cX4_setting 0 = .ok (.iload_n 1, 1) := by decide +kernel
theorem dX4_setting_1 : decode cX4_setting 1 = .ok (.iconst 0, 1) := by decide +kernel
theorem dX4_setting_2 : decode cX4_setting 2 = .ok (.iconst 2, 1) := by decide +kernel
theorem dX4_setting_3 : decode cX4_setting 3 = .ok (.invokestatic 43, 3) := by decide +kernel
theorem dX4_setting_6 : decode cX4_setting 6 = .ok (.ifCond .ne 13, 3) := by decide +kernel
theorem dX4_setting_9 : decode cX4_setting 9 = .ok (.new 47, 3) := by decide +kernel
theorem dX4_setting_12 : decode cX4_setting 12 = .ok (.dup, 1) := by decide +kernel
theorem dX4_setting_13 : decode cX4_setting 13 = .ok (.ldc 158, 2) := by decide +kernel
theorem dX4_setting_15 : decode cX4_setting 15 = .ok (.invokespecial 51, 3) := by decide +kernel
theorem dX4_setting_18 : decode cX4_setting 18 = .ok (.athrow, 1) := by decide +kernel
theorem dX4_setting_19 : decode cX4_setting 19 = .ok (.aload_n 0, 1) := by decide +kernel
theorem dX4_setting_20 : decode cX4_setting 20 = .ok (.getfield 10, 3) := by decide +kernel
theorem dX4_setting_23 : decode cX4_setting 23 = .ok (.iload_n 1, 1) := by decide +kernel
theorem dX4_setting_24 : decode cX4_setting 24 = .ok (.invokevirtual 170, 3) := by decide +kernel
theorem dX4_setting_27 : decode cX4_setting 27 = .ok (.ireturn, 1) := by decide +kernel
set_option maxRecDepth 20000 in
theorem ggX4_water_X4_isIn : GoodIn wsX4_water wsX4_isIn := goodIn_r _ [7] (by decide +kernel) (by decide +kernel)
set_option maxRecDepth 20000 in
theorem gX4_water_X4_isIn : GoodIn wsX4_water (va_wsS RX4 43 yX4_isIn wsX4_isIn) := goodIn_app (goodIn_of _ (by decide +kernel)) ggX4_water_X4_isIn
set_option maxRecDepth 20000 in
theorem ggX4_water_X3_waterAt : GoodIn wsX4_water wsX3_waterAt := goodIn_r _ [12, 13, 22, 23, 24, 25, 26, 27, 28, 29, 30, 31, 32, 33, 34, 35, 36] (by decide +kernel) (by decide +kernel)
set_option maxRecDepth 20000 in
theorem gX4_water_X3_waterAt : GoodIn wsX4_water (wsV RX4 173 RX3 yX3_waterAt wsX3_waterAt) := goodIn_app (goodIn_of _ (by decide +kernel)) ggX4_water_X3_waterAt
theorem dX4_water_0 : decode cX4_water 0 = .ok (.iload_n 1, 1) := by decide +kernel
theorem dX4_water_1 : decode cX4_water 1 = .ok (.iconst 0, 1) := by decide +kernel
theorem dX4_water_2 : decode cX4_water 2 = .ok (.iconst 4, 1) := by decide +kernel
theorem dX4_water_3 : decode cX4_water 3 = .ok (.invokestatic 43, 3) := by decide +kernel
theorem dX4_water_6 : decode cX4_water 6 = .ok (.ifCond .ne 13, 3) := by decide +kernel
theorem dX4_water_9 : decode cX4_water 9 = .ok (.new 47, 3) := by decide +kernel
theorem dX4_water_12 : decode cX4_water 12 = .ok (.dup, 1) := by decide +kernel
theorem dX4_water_13 : decode cX4_water 13 = .ok (.ldc 158, 2) := by decide +kernel
theorem dX4_water_15 : decode cX4_water 15 = .ok (.invokespecial 51, 3) := by decide +kernel
theorem dX4_water_18 : decode cX4_water 18 = .ok (.athrow, 1) := by decide +kernel
theorem dX4_water_19 : decode cX4_water 19 = .ok (.aload_n 0, 1) := by decide +kernel
theorem dX4_water_20 : decode cX4_water 20 = .ok (.getfield 10, 3) := by decide +kernel
theorem dX4_water_23 : decode cX4_water 23 = .ok (.iload_n 1, 1) := by decide +kernel
theorem dX4_water_24 : decode cX4_water 24 = .ok (.invokevirtual 173, 3) := by decide +kernel
theorem dX4_water_27 : decode cX4_water 27 = .ok (.lreturn, 1) := by decide +kernel
theorem dX4_nightLeak_0 : decode cX4_nightLeak 0 = .ok (.aload_n 0, 1) := by decide +kernel
theorem dX4_nightLeak_1 : decode cX4_nightLeak 1 = .ok (.getfield 10, 3) := by decide +kernel
theorem dX4_nightLeak_4 : decode cX4_nightLeak 4 = .ok (.getfield 177, 3) := by decide +kernel
theorem dX4_nightLeak_7 : decode cX4_nightLeak 7 = .ok (.ifCond .ne 13, 3) := by decide +kernel
theorem dX4_nightLeak_10 : decode cX4_nightLeak 10 = .ok (.new 60, 3) := by decide +kernel
theorem dX4_nightLeak_13 : decode cX4_nightLeak 13 = .ok (.dup, 1) := by decide +kernel
theorem dX4_nightLeak_14 : decode cX4_nightLeak 14 = .ok (.ldc 180, 2) := by decide +kernel
theorem dX4_nightLeak_16 : decode cX4_nightLeak 16 = .ok (.invokespecial 64, 3) := by decide +kernel
theorem dX4_nightLeak_19 : decode cX4_nightLeak 19 = .ok (.athrow, 1) := by decide +kernel
theorem dX4_nightLeak_20 : decode cX4_nightLeak 20 = .ok (.aload_n 0, 1) := by decide +kernel
theorem dX4_nightLeak_21 : decode cX4_nightLeak 21 = .ok (.getfield 10, 3) := by decide +kernel
theorem dX4_nightLeak_24 : decode cX4_nightLeak 24 = .ok (.getfield 182, 3) := by decide +kernel
theorem dX4_nightLeak_27 : decode cX4_nightLeak 27 = .ok (.lreturn, 1) := by decide +kernel
set_option maxRecDepth 20000 in
theorem ggX4_entry_X4_isIn : GoodIn wsX4_entry wsX4_isIn := goodIn_r _ [11] (by decide +kernel) (by decide +kernel)
set_option maxRecDepth 20000 in
theorem gX4_entry_X4_isIn : GoodIn wsX4_entry (va_wsS RX4 43 yX4_isIn wsX4_isIn) := goodIn_app (goodIn_of _ (by decide +kernel)) ggX4_entry_X4_isIn
set_option maxRecDepth 20000 in
theorem ggX4_entry_X0_part : GoodIn wsX4_entry wsX0_part := goodIn_r _ [16, 17, 41, 42] (by decide +kernel) (by decide +kernel)
set_option maxRecDepth 20000 in
theorem gX4_entry_X0_part : GoodIn wsX4_entry (wsV RX4 195 RX0 yX0_part wsX0_part) := goodIn_app (goodIn_of _ (by decide +kernel)) ggX4_entry_X0_part
theorem dX4_entry_0 : decode cX4_entry 0 = .ok (.iload_n 1, 1) := by decide +kernel
theorem dX4_entry_1 : decode cX4_entry 1 = .ok (.iconst 0, 1) := by decide +kernel
theorem dX4_entry_2 : decode cX4_entry 2 = .ok (.aload_n 0, 1) := by decide +kernel
theorem dX4_entry_3 : decode cX4_entry 3 = .ok (.getfield 10, 3) := by decide +kernel
theorem dX4_entry_6 : decode cX4_entry 6 = .ok (.getfield 186, 3) := by decide +kernel
theorem dX4_entry_9 : decode cX4_entry 9 = .ok (.getfield 190, 3) := by decide +kernel
theorem dX4_entry_12 : decode cX4_entry 12 = .ok (.iconst 1, 1) := by decide +kernel
theorem dX4_entry_13 : decode cX4_entry 13 = .ok (.isub, 1) := by decide +kernel
theorem dX4_entry_14 : decode cX4_entry 14 = .ok (.invokestatic 43, 3) := by decide +kernel
theorem dX4_entry_17 : decode cX4_entry 17 = .ok (.ifCond .ne 13, 3) := by decide +kernel
theorem dX4_entry_20 : decode cX4_entry 20 = .ok (.new 96, 3) := by decide +kernel
theorem dX4_entry_23 : decode cX4_entry 23 = .ok (.dup, 1) := by decide +kernel
theorem dX4_entry_24 : decode cX4_entry 24 = .ok (.ldc 193, 2) := by decide +kernel
theorem dX4_entry_26 : decode cX4_entry 26 = .ok (.invokespecial 100, 3) := by decide +kernel
theorem dX4_entry_29 : decode cX4_entry 29 = .ok (.athrow, 1) := by decide +kernel
theorem dX4_entry_30 : decode cX4_entry 30 = .ok (.iload_n 2, 1) := by decide +kernel
theorem dX4_entry_31 : decode cX4_entry 31 = .ok (.iconst 0, 1) := by decide +kernel
theorem dX4_entry_32 : decode cX4_entry 32 = .ok (.iconst 2, 1) := by decide +kernel
theorem dX4_entry_33 : decode cX4_entry 33 = .ok (.invokestatic 43, 3) := by decide +kernel
theorem dX4_entry_36 : decode cX4_entry 36 = .ok (.ifCond .ne 13, 3) := by decide +kernel
theorem dX4_entry_39 : decode cX4_entry 39 = .ok (.new 47, 3) := by decide +kernel
theorem dX4_entry_42 : decode cX4_entry 42 = .ok (.dup, 1) := by decide +kernel
theorem dX4_entry_43 : decode cX4_entry 43 = .ok (.ldc 158, 2) := by decide +kernel
theorem dX4_entry_45 : decode cX4_entry 45 = .ok (.invokespecial 51, 3) := by decide +kernel
theorem dX4_entry_48 : decode cX4_entry 48 = .ok (.athrow, 1) := by decide +kernel
theorem dX4_entry_49 : decode cX4_entry 49 = .ok (.aload_n 0, 1) := by decide +kernel
theorem dX4_entry_50 : decode cX4_entry 50 = .ok (.getfield 10, 3) := by decide +kernel
theorem dX4_entry_53 : decode cX4_entry 53 = .ok (.getfield 186, 3) := by decide +kernel
theorem dX4_entry_56 : decode cX4_entry 56 = .ok (.iload_n 1, 1) := by decide +kernel
theorem dX4_entry_57 : decode cX4_entry 57 = .ok (.iload_n 2, 1) := by decide +kernel
theorem dX4_entry_58 : decode cX4_entry 58 = .ok (.invokevirtual 195, 3) := by decide +kernel
theorem dX4_entry_61 : decode cX4_entry 61 = .ok (.ireturn, 1) := by decide +kernel
set_option maxRecDepth 20000 in
theorem ggX4_levelIn_X4_isIn : GoodIn wsX4_levelIn wsX4_isIn := goodIn_r _ [9] (by decide +kernel) (by decide +kernel)
set_option maxRecDepth 20000 in
theorem gX4_levelIn_X4_isIn : GoodIn wsX4_levelIn (va_wsS RX4 43 yX4_isIn wsX4_isIn) := goodIn_app (goodIn_of _ (by decide +kernel)) ggX4_levelIn_X4_isIn
set_option maxRecDepth 20000 in
theorem ggX4_levelIn_X3_become : GoodIn wsX4_levelIn wsX3_become := goodIn_r _ [14, 15, 16, 17, 18, 19, 20, 21, 22, 23, 24, 25, 26, 27, 28, 29, 30, 31, 32, 33, 34, 35, 36, 37, 38, 39, 40, 41, 42, 43, 44, 45, 46, 47, 48, 49, 50, 51, 52, 53, 54, 55, 56, 147, 148, 149, 150, 151, 152, 153, 154, 155, 156, 157, 158, 159, 160, 161, 162, 163, 164, 165, 166, 167, 168, 169, 170, 171, 172] (by decide +kernel) (by decide +kernel)
set_option maxRecDepth 20000 in
theorem gX4_levelIn_X3_become : GoodIn wsX4_levelIn (wsV RX4 198 RX3 yX3_become wsX3_become) := goodIn_app (goodIn_of _ (by decide +kernel)) ggX4_levelIn_X3_become
set_option maxRecDepth 20000 in
theorem ggX4_levelIn_X3_letPass : GoodIn wsX4_levelIn wsX3_letPass := goodIn_r _ [60, 61, 62, 63, 13, 64, 19, 23, 32, 16, 17, 21, 24, 22, 65, 66, 67, 68, 31, 69, 70, 71, 37, 72, 39, 45, 73, 74, 75, 76, 18, 25, 20, 33, 77, 78, 79, 80, 81, 43, 82, 83, 84, 85, 44, 86, 87, 88, 89, 90, 91, 92, 93, 94, 95, 96, 97, 98, 99, 100, 101, 102, 42, 103, 104, 105, 106, 107, 108, 109, 110, 46, 48, 111, 112, 113, 114, 52, 115, 55, 56, 27, 28, 29, 54, 116, 117, 118, 119, 15, 120, 121, 122, 123, 124, 125, 126, 127, 128, 129, 130, 47, 40, 131, 132, 133, 134, 135, 136, 137, 138, 30, 147, 148, 149, 150, 151, 152, 153, 154, 155, 156, 157, 158, 159, 160, 161, 162, 163, 164, 165, 166, 167, 168, 169, 170, 171, 172] (by decide +kernel) (by decide +kernel)
set_option maxRecDepth 20000 in
theorem gX4_levelIn_X3_letPass : GoodIn wsX4_levelIn (wsV RX4 154 RX3 yX3_letPass wsX3_letPass) := goodIn_app (goodIn_of _ (by decide +kernel)) ggX4_levelIn_X3_letPass
theorem dX4_levelIn_0 : decode cX4_levelIn 0 = .ok (.iload_n 1, 1) := by decide +kernel
theorem dX4_levelIn_1 : decode cX4_levelIn 1 = .ok (.iconst 0, 1) := by decide +kernel
theorem dX4_levelIn_2 : decode cX4_levelIn 2 = .ok (.sipush 1440, 3) := by decide +kernel
theorem dX4_levelIn_5 : decode cX4_levelIn 5 = .ok (.invokestatic 43, 3) := by decide +kernel
theorem dX4_levelIn_8 : decode cX4_levelIn 8 = .ok (.ifCond .ne 13, 3) := by decide +kernel
theorem dX4_levelIn_11 : decode cX4_levelIn 11 = .ok (.new 47, 3) := by decide +kernel
theorem dX4_levelIn_14 : decode cX4_levelIn 14 = .ok (.dup, 1) := by decide +kernel
theorem dX4_levelIn_15 : decode cX4_levelIn 15 = .ok (.ldc 144, 2) := by decide +kernel
theorem dX4_levelIn_17 : decode cX4_levelIn 17 = .ok (.invokespecial 51, 3) := by decide +kernel
theorem dX4_levelIn_20 : decode cX4_levelIn 20 = .ok (.athrow, 1) := by decide +kernel
theorem dX4_levelIn_21 : decode cX4_levelIn 21 = .ok (.aload_n 0, 1) := by decide +kernel
theorem dX4_levelIn_22 : decode cX4_levelIn 22 = .ok (.getfield 16, 3) := by decide +kernel
theorem dX4_levelIn_25 : decode cX4_levelIn 25 = .ok (.aload_n 0, 1) := by decide +kernel
theorem dX4_levelIn_26 : decode cX4_levelIn 26 = .ok (.getfield 10, 3) := by decide +kernel
theorem dX4_levelIn_29 : decode cX4_levelIn 29 = .ok (.invokevirtual 198, 3) := by decide +kernel
theorem dX4_levelIn_32 : decode cX4_levelIn 32 = .ok (.aload_n 0, 1) := by decide +kernel
theorem dX4_levelIn_33 : decode cX4_levelIn 33 = .ok (.getfield 16, 3) := by decide +kernel
theorem dX4_levelIn_36 : decode cX4_levelIn 36 = .ok (.iload_n 1, 1) := by decide +kernel
theorem dX4_levelIn_37 : decode cX4_levelIn 37 = .ok (.invokevirtual 154, 3) := by decide +kernel
theorem dX4_levelIn_40 : decode cX4_levelIn 40 = .ok (.aload_n 0, 1) := by decide +kernel
theorem dX4_levelIn_41 : decode cX4_levelIn 41 = .ok (.getfield 16, 3) := by decide +kernel
theorem dX4_levelIn_44 : decode cX4_levelIn 44 = .ok (.getfield 54, 3) := by decide +kernel
theorem dX4_levelIn_47 : decode cX4_levelIn 47 = .ok (.ireturn, 1) := by decide +kernel
set_option maxRecDepth 20000 in
theorem ggX4_startsIn_X4_isPump : GoodIn wsX4_startsIn wsX4_isPump := goodIn_r _ [13, 6, 7, 14, 15, 16, 17, 18, 19, 147, 148, 149, 150, 151, 152, 153, 154, 155, 156, 157, 158, 159, 160, 161, 162, 163, 164, 165, 166, 167, 168, 169, 170, 171, 172, 173, 174, 175, 176, 177, 178] (by decide +kernel) (by decide +kernel)
set_option maxRecDepth 20000 in
theorem gX4_startsIn_X4_isPump : GoodIn wsX4_startsIn (wsV RX4 125 RX4 yX4_isPump wsX4_isPump) := goodIn_app (goodIn_of _ (by decide +kernel)) ggX4_startsIn_X4_isPump
set_option maxRecDepth 20000 in
theorem ggX4_startsIn_X4_isIn : GoodIn wsX4_startsIn wsX4_isIn := goodIn_r _ [22] (by decide +kernel) (by decide +kernel)
set_option maxRecDepth 20000 in
theorem gX4_startsIn_X4_isIn : GoodIn wsX4_startsIn (va_wsS RX4 43 yX4_isIn wsX4_isIn) := goodIn_app (goodIn_of _ (by decide +kernel)) ggX4_startsIn_X4_isIn
set_option maxRecDepth 20000 in
theorem ggX4_startsIn_X3_become : GoodIn wsX4_startsIn wsX3_become := goodIn_r _ [27, 28, 29, 30, 31, 32, 33, 34, 35, 36, 37, 38, 39, 40, 41, 42, 43, 44, 45, 46, 47, 48, 49, 17, 50, 19, 51, 52, 53, 54, 55, 56, 57, 58, 59, 60, 61, 62, 63, 64, 65, 66, 67, 155, 156, 157, 158, 159, 160, 161, 162, 163, 164, 165, 166, 167, 168, 169, 170, 171, 172, 173, 174, 175, 176, 177, 178, 179, 180] (by decide +kernel) (by decide +kernel)
set_option maxRecDepth 20000 in
theorem gX4_startsIn_X3_become : GoodIn wsX4_startsIn (wsV RX4 198 RX3 yX3_become wsX3_become) := goodIn_app (goodIn_of _ (by decide +kernel)) ggX4_startsIn_X3_become
set_option maxRecDepth 20000 in
theorem ggX4_startsIn_X3_letPass : GoodIn wsX4_startsIn wsX3_letPass := goodIn_r _ [71, 72, 73, 74, 26, 75, 32, 36, 45, 29, 30, 34, 37, 35, 76, 77, 78, 79, 44, 80, 81, 82, 17, 83, 19, 56, 84, 85, 86, 87, 31, 38, 33, 46, 88, 89, 90, 91, 92, 54, 93, 94, 95, 96, 55, 97, 98, 99, 100, 101, 102, 103, 104, 105, 106, 107, 108, 109, 110, 111, 112, 113, 53, 114, 15, 16, 18, 115, 116, 117, 118, 57, 59, 119, 120, 121, 122, 63, 123, 66, 67, 40, 41, 42, 65, 124, 125, 126, 127, 28, 128, 129, 130, 131, 132, 133, 134, 135, 136, 137, 138, 58, 51, 139, 140, 141, 142, 143, 144, 145, 146, 43, 155, 156, 157, 158, 159, 160, 161, 162, 163, 164, 165, 166, 167, 168, 169, 170, 171, 172, 173, 174, 175, 176, 177, 178, 179, 180] (by decide +kernel) (by decide +kernel)
set_option maxRecDepth 20000 in
theorem gX4_startsIn_X3_letPass : GoodIn wsX4_startsIn (wsV RX4 154 RX3 yX3_letPass wsX3_letPass) := goodIn_app (goodIn_of _ (by decide +kernel)) ggX4_startsIn_X3_letPass
theorem dX4_startsIn_0 : decode cX4_startsIn 0 = .ok (.aload_n 0, 1) := by decide +kernel
theorem dX4_startsIn_1 : decode cX4_startsIn 1 = .ok (.iload_n 1, 1) := by decide +kernel
theorem dX4_startsIn_2 : decode cX4_startsIn 2 = .ok (.invokevirtual 125, 3) := by decide +kernel
theorem dX4_startsIn_5 : decode cX4_startsIn 5 = .ok (.ifCond .ne 13, 3) := by decide +kernel
theorem dX4_startsIn_8 : decode cX4_startsIn 8 = .ok (.new 96, 3) := by decide +kernel
theorem dX4_startsIn_11 : decode cX4_startsIn 11 = .ok (.dup, 1) := by decide +kernel
theorem dX4_startsIn_12 : decode cX4_startsIn 12 = .ok (.ldc 128, 2) := by decide +kernel
theorem dX4_startsIn_14 : decode cX4_startsIn 14 = .ok (.invokespecial 100, 3) := by decide +kernel
theorem dX4_startsIn_17 : decode cX4_startsIn 17 = .ok (.athrow, 1) := by decide +kernel
theorem dX4_startsIn_18 : decode cX4_startsIn 18 = .ok (.iload_n 2, 1) := by decide +kernel
theorem dX4_startsIn_19 : decode cX4_startsIn 19 = .ok (.iconst 0, 1) := by decide +kernel
theorem dX4_startsIn_20 : decode cX4_startsIn 20 = .ok (.sipush 1440, 3) := by decide +kernel
theorem dX4_startsIn_23 : decode cX4_startsIn 23 = .ok (.invokestatic 43, 3) := by decide +kernel
theorem dX4_startsIn_26 : decode cX4_startsIn 26 = .ok (.ifCond .ne 13, 3) := by decide +kernel
theorem dX4_startsIn_29 : decode cX4_startsIn 29 = .ok (.new 47, 3) := by decide +kernel
theorem dX4_startsIn_32 : decode cX4_startsIn 32 = .ok (.dup, 1) := by decide +kernel
theorem dX4_startsIn_33 : decode cX4_startsIn 33 = .ok (.ldc 144, 2) := by decide +kernel
theorem dX4_startsIn_35 : decode cX4_startsIn 35 = .ok (.invokespecial 51, 3) := by decide +kernel
theorem dX4_startsIn_38 : decode cX4_startsIn 38 = .ok (.athrow, 1) := by decide +kernel
theorem dX4_startsIn_39 : decode cX4_startsIn 39 = .ok (.aload_n 0, 1) := by decide +kernel
theorem dX4_startsIn_40 : decode cX4_startsIn 40 = .ok (.getfield 16, 3) := by decide +kernel
theorem dX4_startsIn_43 : decode cX4_startsIn 43 = .ok (.aload_n 0, 1) := by decide +kernel
theorem dX4_startsIn_44 : decode cX4_startsIn 44 = .ok (.getfield 10, 3) := by decide +kernel
theorem dX4_startsIn_47 : decode cX4_startsIn 47 = .ok (.invokevirtual 198, 3) := by decide +kernel
theorem dX4_startsIn_50 : decode cX4_startsIn 50 = .ok (.aload_n 0, 1) := by decide +kernel
theorem dX4_startsIn_51 : decode cX4_startsIn 51 = .ok (.getfield 16, 3) := by decide +kernel
theorem dX4_startsIn_54 : decode cX4_startsIn 54 = .ok (.iload_n 2, 1) := by decide +kernel
theorem dX4_startsIn_55 : decode cX4_startsIn 55 = .ok (.invokevirtual 154, 3) := by decide +kernel
theorem dX4_startsIn_58 : decode cX4_startsIn 58 = .ok (.aload_n 0, 1) := by decide +kernel
theorem dX4_startsIn_59 : decode cX4_startsIn 59 = .ok (.getfield 16, 3) := by decide +kernel
theorem dX4_startsIn_62 : decode cX4_startsIn 62 = .ok (.getfield 111, 3) := by decide +kernel
theorem dX4_startsIn_65 : decode cX4_startsIn 65 = .ok (.getfield 202, 3) := by decide +kernel
theorem dX4_startsIn_68 : decode cX4_startsIn 68 = .ok (.iload_n 1, 1) := by decide +kernel
theorem dX4_startsIn_69 : decode cX4_startsIn 69 = .ok (.iaload, 1) := by decide +kernel
theorem dX4_startsIn_70 : decode cX4_startsIn 70 = .ok (.aload_n 0, 1) := by decide +kernel
theorem dX4_startsIn_71 : decode cX4_startsIn 71 = .ok (.getfield 10, 3) := by decide +kernel
theorem dX4_startsIn_74 : decode cX4_startsIn 74 = .ok (.getfield 111, 3) := by decide +kernel
theorem dX4_startsIn_77 : decode cX4_startsIn 77 = .ok (.getfield 202, 3) := by decide +kernel
theorem dX4_startsIn_80 : decode cX4_startsIn 80 = .ok (.iload_n 1, 1) := by decide +kernel
theorem dX4_startsIn_81 : decode cX4_startsIn 81 = .ok (.iaload, 1) := by decide +kernel
theorem dX4_startsIn_82 : decode cX4_startsIn 82 = .ok (.isub, 1) := by decide +kernel
theorem dX4_startsIn_83 : decode cX4_startsIn 83 = .ok (.ireturn, 1) := by decide +kernel
set_option maxRecDepth 20000 in
theorem ggX4_oathFor_X4_isIn : GoodIn wsX4_oathFor wsX4_isIn := goodIn_r _ [6] (by decide +kernel) (by decide +kernel)
set_option maxRecDepth 20000 in
theorem gX4_oathFor_X4_isIn : GoodIn wsX4_oathFor (va_wsS RX4 43 yX4_isIn wsX4_isIn) := goodIn_app (goodIn_of _ (by decide +kernel)) ggX4_oathFor_X4_isIn
set_option maxRecDepth 20000 in
theorem ggX4_oathFor_X4_wouldBeKept : GoodIn wsX4_oathFor wsX4_wouldBeKept := goodIn_r _ [10, 11, 12, 13, 14, 15, 16, 17, 18, 19, 20, 21, 22, 23, 24, 25, 26, 27, 28, 29, 30, 31, 32, 33, 34, 35, 36, 37, 38, 39, 40, 41, 42, 43, 44, 45, 46, 47, 48, 49, 50, 51, 52, 53, 54, 55, 56, 57, 58, 59, 60, 61, 62, 63, 64, 65, 66, 67, 68, 69, 70, 71, 72, 73, 74, 75, 76, 77, 78, 79, 80, 81, 82, 83, 84, 85, 86, 87, 88, 89, 90, 91, 92, 93, 94, 95, 96, 97, 98, 99, 100, 101, 102, 103, 104, 105, 106, 107, 108, 109, 110, 111, 112, 113, 114, 115, 116, 117, 118, 119, 120, 121, 122, 123, 124, 125, 126, 127, 128, 129, 130, 131, 132, 133, 134, 135, 136, 137, 138, 139, 140, 141, 142, 143, 144, 145, 146, 147, 148, 149, 150, 151, 152, 153, 154, 155, 156, 157, 158, 159, 160, 161, 162, 163, 164, 165, 166, 167, 168, 169, 170, 171, 172, 173, 174, 175, 176, 177] (by decide +kernel) (by decide +kernel)
set_option maxRecDepth 20000 in
theorem gX4_oathFor_X4_wouldBeKept : GoodIn wsX4_oathFor (wsV RX4 205 RX4 yX4_wouldBeKept wsX4_wouldBeKept) := goodIn_app (goodIn_of _ (by decide +kernel)) ggX4_oathFor_X4_wouldBeKept
theorem dX4_oathFor_0 : decode cX4_oathFor 0 = .ok (.iload_n 1, 1) := by decide +kernel
theorem dX4_oathFor_1 : decode cX4_oathFor 1 = .ok (.iconst 1, 1) := by decide +kernel
theorem dX4_oathFor_2 : decode cX4_oathFor 2 = .ok (.sipush 1440, 3) := by decide +kernel
theorem dX4_oathFor_5 : decode cX4_oathFor 5 = .ok (.invokestatic 43, 3) := by decide +kernel
theorem dX4_oathFor_8 : decode cX4_oathFor 8 = .ok (.ifCond .ne 13, 3) := by decide +kernel
theorem dX4_oathFor_11 : decode cX4_oathFor 11 = .ok (.new 47, 3) := by decide +kernel
theorem dX4_oathFor_14 : decode cX4_oathFor 14 = .ok (.dup, 1) := by decide +kernel
theorem dX4_oathFor_15 : decode cX4_oathFor 15 = .ok (.ldc 144, 2) := by decide +kernel
theorem dX4_oathFor_17 : decode cX4_oathFor 17 = .ok (.invokespecial 51, 3) := by decide +kernel
theorem dX4_oathFor_20 : decode cX4_oathFor 20 = .ok (.athrow, 1) := by decide +kernel
theorem dX4_oathFor_21 : decode cX4_oathFor 21 = .ok (.iconst 1, 1) := by decide +kernel
theorem dX4_oathFor_22 : decode cX4_oathFor 22 = .ok (.istore_n 2, 1) := by decide +kernel
theorem dX4_oathFor_23 : decode cX4_oathFor 23 = .ok (.iload_n 2, 1) := by decide +kernel
theorem dX4_oathFor_24 : decode cX4_oathFor 24 = .ok (.bipush 12, 2) := by decide +kernel
theorem dX4_oathFor_26 : decode cX4_oathFor 26 = .ok (.if_icmp .gt 20, 3) := by decide +kernel
theorem dX4_oathFor_29 : decode cX4_oathFor 29 = .ok (.aload_n 0, 1) := by decide +kernel
theorem dX4_oathFor_30 : decode cX4_oathFor 30 = .ok (.iload_n 2, 1) := by decide +kernel
theorem dX4_oathFor_31 : decode cX4_oathFor 31 = .ok (.iload_n 1, 1) := by decide +kernel
theorem dX4_oathFor_32 : decode cX4_oathFor 32 = .ok (.invokevirtual 205, 3) := by decide +kernel
theorem dX4_oathFor_35 : decode cX4_oathFor 35 = .ok (.ifCond .eq 5, 3) := by decide +kernel
theorem dX4_oathFor_38 : decode cX4_oathFor 38 = .ok (.iload_n 2, 1) := by decide +kernel
theorem dX4_oathFor_39 : decode cX4_oathFor 39 = .ok (.ireturn, 1) := by decide +kernel
theorem dX4_oathFor_40 : decode cX4_oathFor 40 = .ok (.iinc 2 1, 3) := by decide +kernel
theorem dX4_oathFor_43 : decode cX4_oathFor 43 = .ok (.goto (-20), 3) := by decide +kernel
theorem dX4_oathFor_46 : decode cX4_oathFor 46 = .ok (.iconst (-1), 1) := by decide +kernel
theorem dX4_oathFor_47 : decode cX4_oathFor 47 = .ok (.ireturn, 1) := by decide +kernel
set_option maxRecDepth 20000 in
theorem ggX4_emptyIn_X3_become : GoodIn wsX4_emptyIn wsX3_become := goodIn_r _ [9, 10, 11, 12, 13, 14, 15, 16, 17, 18, 19, 20, 21, 22, 23, 24, 25, 26, 27, 28, 29, 30, 31, 32, 33, 34, 35, 36, 37, 38, 39, 40, 41, 42, 43, 44, 45, 46, 47, 48, 49, 50, 51, 142, 143, 144, 145, 146, 147, 148, 149, 150, 151, 152, 153, 154, 155, 156, 157, 158, 159, 160, 161, 162, 163, 164, 165, 166, 167] (by decide +kernel) (by decide +kernel)
set_option maxRecDepth 20000 in
theorem gX4_emptyIn_X3_become : GoodIn wsX4_emptyIn (wsV RX4 198 RX3 yX3_become wsX3_become) := goodIn_app (goodIn_of _ (by decide +kernel)) ggX4_emptyIn_X3_become
set_option maxRecDepth 20000 in
theorem ggX4_emptyIn_X2_takeAllOut : GoodIn wsX4_emptyIn wsX2_takeAllOut := goodIn_r _ [55, 34, 38, 157, 158, 159, 160, 161, 162, 163, 164, 165] (by decide +kernel) (by decide +kernel)
set_option maxRecDepth 20000 in
theorem gX4_emptyIn_X2_takeAllOut : GoodIn wsX4_emptyIn (wsV RX4 208 RX2 yX2_takeAllOut wsX2_takeAllOut) := goodIn_app (goodIn_of _ (by decide +kernel)) ggX4_emptyIn_X2_takeAllOut
set_option maxRecDepth 20000 in
theorem ggX4_emptyIn_X3_passMinute : GoodIn wsX4_emptyIn wsX3_passMinute := goodIn_r _ [59, 14, 18, 27, 11, 12, 16, 19, 17, 60, 61, 62, 8, 63, 26, 64, 65, 66, 32, 67, 34, 40, 68, 69, 70, 71, 13, 20, 15, 28, 72, 73, 74, 75, 76, 38, 77, 78, 79, 80, 39, 81, 82, 83, 84, 85, 86, 87, 88, 89, 90, 91, 92, 93, 94, 95, 96, 97, 37, 98, 99, 100, 101, 102, 103, 104, 105, 41, 43, 106, 107, 108, 109, 47, 110, 50, 51, 22, 23, 24, 49, 111, 112, 113, 114, 10, 115, 116, 117, 118, 119, 120, 121, 122, 123, 124, 125, 42, 35, 126, 127, 128, 129, 130, 131, 132, 133, 25, 142, 143, 144, 145, 146, 147, 148, 149, 150, 151, 152, 153, 154, 155, 156, 157, 158, 159, 160, 161, 162, 163, 164, 165, 166, 167] (by decide +kernel) (by decide +kernel)
set_option maxRecDepth 20000 in
theorem gX4_emptyIn_X3_passMinute : GoodIn wsX4_emptyIn (wsV RX4 211 RX3 yX3_passMinute wsX3_passMinute) := goodIn_app (goodIn_of _ (by decide +kernel)) ggX4_emptyIn_X3_passMinute
theorem dX4_emptyIn_0 : decode cX4_emptyIn 0 = .ok (.aload_n 0, 1) := by decide +kernel
theorem dX4_emptyIn_1 : decode cX4_emptyIn 1 = .ok (.getfield 16, 3) := by decide +kernel
theorem dX4_emptyIn_4 : decode cX4_emptyIn 4 = .ok (.aload_n 0, 1) := by decide +kernel
theorem dX4_emptyIn_5 : decode cX4_emptyIn 5 = .ok (.getfield 10, 3) := by decide +kernel
theorem dX4_emptyIn_8 : decode cX4_emptyIn 8 = .ok (.invokevirtual 198, 3) := by decide +kernel
theorem dX4_emptyIn_11 : decode cX4_emptyIn 11 = .ok (.aload_n 0, 1) := by decide +kernel
theorem dX4_emptyIn_12 : decode cX4_emptyIn 12 = .ok (.getfield 16, 3) := by decide +kernel
theorem dX4_emptyIn_15 : decode cX4_emptyIn 15 = .ok (.getfield 111, 3) := by decide +kernel
theorem dX4_emptyIn_18 : decode cX4_emptyIn 18 = .ok (.invokevirtual 208, 3) := by decide +kernel
theorem dX4_emptyIn_21 : decode cX4_emptyIn 21 = .ok (.iconst 0, 1) := by decide +kernel
theorem dX4_emptyIn_22 : decode cX4_emptyIn 22 = .ok (.istore_n 1, 1) := by decide +kernel
theorem dX4_emptyIn_23 : decode cX4_emptyIn 23 = .ok (.iload_n 1, 1) := by decide +kernel
theorem dX4_emptyIn_24 : decode cX4_emptyIn 24 = .ok (.sipush 1440, 3) := by decide +kernel
theorem dX4_emptyIn_27 : decode cX4_emptyIn 27 = .ok (.if_icmp .gt 29, 3) := by decide +kernel
theorem dX4_emptyIn_30 : decode cX4_emptyIn 30 = .ok (.aload_n 0, 1) := by decide +kernel
theorem dX4_emptyIn_31 : decode cX4_emptyIn 31 = .ok (.getfield 16, 3) := by decide +kernel
theorem dX4_emptyIn_34 : decode cX4_emptyIn 34 = .ok (.getfield 54, 3) := by decide +kernel
theorem dX4_emptyIn_37 : decode cX4_emptyIn 37 = .ok (.ifCond .ne 5, 3) := by decide +kernel
theorem dX4_emptyIn_40 : decode cX4_emptyIn 40 = .ok (.iload_n 1, 1) := by decide +kernel
theorem dX4_emptyIn_41 : decode cX4_emptyIn 41 = .ok (.ireturn, 1) := by decide +kernel
theorem dX4_emptyIn_42 : decode cX4_emptyIn 42 = .ok (.aload_n 0, 1) := by decide +kernel
theorem dX4_emptyIn_43 : decode cX4_emptyIn 43 = .ok (.getfield 16, 3) := by decide +kernel
theorem dX4_emptyIn_46 : decode cX4_emptyIn 46 = .ok (.invokevirtual 211, 3) := by decide +kernel
theorem dX4_emptyIn_49 : decode cX4_emptyIn 49 = .ok (.pop, 1) := by decide +kernel
theorem dX4_emptyIn_50 : decode cX4_emptyIn 50 = .ok (.iinc 1 1, 3) := by decide +kernel
theorem dX4_emptyIn_53 : decode cX4_emptyIn 53 = .ok (.goto (-30), 3) := by decide +kernel
theorem dX4_emptyIn_56 : decode cX4_emptyIn 56 = .ok (.iconst (-1), 1) := by decide +kernel
theorem dX4_emptyIn_57 : decode cX4_emptyIn 57 = .ok (.ireturn, 1) := by decide +kernel
set_option maxRecDepth 20000 in
theorem ggX4_nextStart_X3_become : GoodIn wsX4_nextStart wsX3_become := goodIn_r _ [7, 8, 9, 10, 11, 12, 13, 14, 15, 16, 17, 18, 19, 20, 21, 22, 23, 24, 25, 26, 27, 28, 29, 30, 31, 32, 33, 34, 35, 36, 37, 38, 39, 40, 41, 42, 43, 44, 45, 46, 47, 48, 49, 136, 137, 138, 139, 140, 141, 142, 143, 144, 145, 146, 147, 148, 149, 150, 151, 152, 153, 154, 155, 156, 157, 158, 159, 160, 161] (by decide +kernel) (by decide +kernel)
set_option maxRecDepth 20000 in
theorem gX4_nextStart_X3_become : GoodIn wsX4_nextStart (wsV RX4 198 RX3 yX3_become wsX3_become) := goodIn_app (goodIn_of _ (by decide +kernel)) ggX4_nextStart_X3_become
set_option maxRecDepth 20000 in
theorem ggX4_nextStart_X3_passMinute : GoodIn wsX4_nextStart wsX3_passMinute := goodIn_r _ [53, 12, 16, 25, 9, 10, 14, 17, 15, 54, 55, 56, 6, 57, 24, 58, 59, 60, 30, 61, 32, 38, 62, 63, 64, 65, 11, 18, 13, 26, 66, 67, 68, 69, 70, 36, 71, 72, 73, 74, 37, 75, 76, 77, 78, 79, 80, 81, 82, 83, 84, 85, 86, 87, 88, 89, 90, 91, 35, 92, 93, 94, 95, 96, 97, 98, 99, 39, 41, 100, 101, 102, 103, 45, 104, 48, 49, 20, 21, 22, 47, 105, 106, 107, 108, 8, 109, 110, 111, 112, 113, 114, 115, 116, 117, 118, 119, 40, 33, 120, 121, 122, 123, 124, 125, 126, 127, 23, 136, 137, 138, 139, 140, 141, 142, 143, 144, 145, 146, 147, 148, 149, 150, 151, 152, 153, 154, 155, 156, 157, 158, 159, 160, 161] (by decide +kernel) (by decide +kernel)
set_option maxRecDepth 20000 in
theorem gX4_nextStart_X3_passMinute : GoodIn wsX4_nextStart (wsV RX4 211 RX3 yX3_passMinute wsX3_passMinute) := goodIn_app (goodIn_of _ (by decide +kernel)) ggX4_nextStart_X3_passMinute
theorem dX4_nextStart_0 : decode cX4_nextStart 0 = .ok (.aload_n 0, 1) := by decide +kernel
theorem dX4_nextStart_1 : decode cX4_nextStart 1 = .ok (.getfield 16, 3) := by decide +kernel
theorem dX4_nextStart_4 : decode cX4_nextStart 4 = .ok (.aload_n 0, 1) := by decide +kernel
theorem dX4_nextStart_5 : decode cX4_nextStart 5 = .ok (.getfield 10, 3) := by decide +kernel
theorem dX4_nextStart_8 : decode cX4_nextStart 8 = .ok (.invokevirtual 198, 3) := by decide +kernel
theorem dX4_nextStart_11 : decode cX4_nextStart 11 = .ok (.iconst 0, 1) := by decide +kernel
theorem dX4_nextStart_12 : decode cX4_nextStart 12 = .ok (.istore_n 1, 1) := by decide +kernel
theorem dX4_nextStart_13 : decode cX4_nextStart 13 = .ok (.iload_n 1, 1) := by decide +kernel
theorem dX4_nextStart_14 : decode cX4_nextStart 14 = .ok (.sipush 1440, 3) := by decide +kernel
theorem dX4_nextStart_17 : decode cX4_nextStart 17 = .ok (.if_icmp .ge 24, 3) := by decide +kernel
theorem dX4_nextStart_20 : decode cX4_nextStart 20 = .ok (.aload_n 0, 1) := by decide +kernel
theorem dX4_nextStart_21 : decode cX4_nextStart 21 = .ok (.getfield 16, 3) := by decide +kernel
theorem dX4_nextStart_24 : decode cX4_nextStart 24 = .ok (.invokevirtual 211, 3) := by decide +kernel
theorem dX4_nextStart_27 : decode cX4_nextStart 27 = .ok (.istore_n 2, 1) := by decide +kernel
theorem dX4_nextStart_28 : decode cX4_nextStart 28 = .ok (.iload_n 2, 1) := by decide +kernel
theorem dX4_nextStart_29 : decode cX4_nextStart 29 = .ok (.iconst (-1), 1) := by decide +kernel
theorem dX4_nextStart_30 : decode cX4_nextStart 30 = .ok (.if_icmp .eq 5, 3) := by decide +kernel
theorem dX4_nextStart_33 : decode cX4_nextStart 33 = .ok (.iload_n 2, 1) := by decide +kernel
theorem dX4_nextStart_34 : decode cX4_nextStart 34 = .ok (.ireturn, 1) := by decide +kernel
theorem dX4_nextStart_35 : decode cX4_nextStart 35 = .ok (.iinc 1 1, 3) := by decide +kernel
theorem dX4_nextStart_38 : decode cX4_nextStart 38 = .ok (.goto (-25), 3) := by decide +kernel
theorem dX4_nextStart_41 : decode cX4_nextStart 41 = .ok (.iconst (-1), 1) := by decide +kernel
theorem dX4_nextStart_42 : decode cX4_nextStart 42 = .ok (.ireturn, 1) := by decide +kernel
set_option maxRecDepth 20000 in
theorem ggX4_honesty_X2_allStarts : GoodIn wsX4_honesty wsX2_allStarts := goodIn_r _ [8, 9, 10, 34, 35, 36, 37, 38, 39, 40, 41, 42] (by decide +kernel) (by decide +kernel)
set_option maxRecDepth 20000 in
theorem gX4_honesty_X2_allStarts : GoodIn wsX4_honesty (wsV RX4 215 RX2 yX2_allStarts wsX2_allStarts) := goodIn_app (goodIn_of _ (by decide +kernel)) ggX4_honesty_X2_allStarts
theorem dX4_honesty_0 : decode cX4_honesty 0 = .ok (.aload_n 0, 1) := by decide +kernel
theorem dX4_honesty_1 : decode cX4_honesty 1 = .ok (.getfield 10, 3) := by decide +kernel
theorem dX4_honesty_4 : decode cX4_honesty 4 = .ok (.getfield 111, 3) := by decide +kernel
theorem dX4_honesty_7 : decode cX4_honesty 7 = .ok (.invokevirtual 215, 3) := by decide +kernel
theorem dX4_honesty_10 : decode cX4_honesty 10 = .ok (.istore_n 1, 1) := by decide +kernel
theorem dX4_honesty_11 : decode cX4_honesty 11 = .ok (.iload_n 1, 1) := by decide +kernel
theorem dX4_honesty_12 : decode cX4_honesty 12 = .ok (.ifCond .ne 5, 3) := by decide +kernel
theorem dX4_honesty_15 : decode cX4_honesty 15 = .ok (.dconst 1, 1) := by decide +kernel
theorem dX4_honesty_16 : decode cX4_honesty 16 = .ok (.dreturn, 1) := by decide +kernel
theorem dX4_honesty_17 : decode cX4_honesty 17 = .ok (.iload_n 1, 1) := by decide +kernel
theorem dX4_honesty_18 : decode cX4_honesty 18 = .ok (.aload_n 0, 1) := by decide +kernel
theorem dX4_honesty_19 : decode cX4_honesty 19 = .ok (.getfield 10, 3) := by decide +kernel
theorem dX4_honesty_22 : decode cX4_honesty 22 = .ok (.getfield 151, 3) := by decide +kernel
theorem dX4_honesty_25 : decode cX4_honesty 25 = .ok (.isub, 1) := by decide +kernel
theorem dX4_honesty_26 : decode cX4_honesty 26 = .ok (.i2d, 1) := by decide +kernel
theorem dX4_honesty_27 : decode cX4_honesty 27 = .ok (.iload_n 1, 1) := by decide +kernel
theorem dX4_honesty_28 : decode cX4_honesty 28 = .ok (.i2d, 1) := by decide +kernel
theorem dX4_honesty_29 : decode cX4_honesty 29 = .ok (.ddiv, 1) := by decide +kernel
theorem dX4_honesty_30 : decode cX4_honesty 30 = .ok (.dreturn, 1) := by decide +kernel
set_option maxRecDepth 20000 in
theorem ggX4_append_X4_isIn : GoodIn wsX4_append wsX4_isIn := goodIn_r _ [10] (by decide +kernel) (by decide +kernel)
set_option maxRecDepth 20000 in
theorem gX4_append_X4_isIn : GoodIn wsX4_append (va_wsS RX4 43 yX4_isIn wsX4_isIn) := goodIn_app (goodIn_of _ (by decide +kernel)) ggX4_append_X4_isIn
set_option maxRecDepth 20000 in
theorem ggX4_append_X1_addByte : GoodIn wsX4_append wsX1_addByte := goodIn_r _ [15, 16, 17, 26, 27, 28, 29, 30, 31] (by decide +kernel) (by decide +kernel)
set_option maxRecDepth 20000 in
theorem gX4_append_X1_addByte : GoodIn wsX4_append (wsV RX4 225 RX1 yX1_addByte wsX1_addByte) := goodIn_app (goodIn_of _ (by decide +kernel)) ggX4_append_X1_addByte
theorem dX4_append_0 : decode cX4_append 0 = .ok (.iload_n 1, 1) := by decide +kernel
theorem dX4_append_1 : decode cX4_append 1 = .ok (.iconst 0, 1) := by decide +kernel
theorem dX4_append_2 : decode cX4_append 2 = .ok (.bipush 127, 2) := by decide +kernel
theorem dX4_append_4 : decode cX4_append 4 = .ok (.invokestatic 43, 3) := by decide +kernel
theorem dX4_append_7 : decode cX4_append 7 = .ok (.ifCond .ne 13, 3) := by decide +kernel
theorem dX4_append_10 : decode cX4_append 10 = .ok (.new 47, 3) := by decide +kernel
theorem dX4_append_13 : decode cX4_append 13 = .ok (.dup, 1) := by decide +kernel
theorem dX4_append_14 : decode cX4_append 14 = .ok (.ldc 218, 2) := by decide +kernel
theorem dX4_append_16 : decode cX4_append 16 = .ok (.invokespecial 51, 3) := by decide +kernel
theorem dX4_append_19 : decode cX4_append 19 = .ok (.athrow, 1) := by decide +kernel
theorem dX4_append_20 : decode cX4_append 20 = .ok (.aload_n 0, 1) := by decide +kernel
theorem dX4_append_21 : decode cX4_append 21 = .ok (.getfield 34, 3) := by decide +kernel
theorem dX4_append_24 : decode cX4_append 24 = .ok (.getfield 220, 3) := by decide +kernel
theorem dX4_append_27 : decode cX4_append 27 = .ok (.bipush 100, 2) := by decide +kernel
theorem dX4_append_29 : decode cX4_append 29 = .ok (.if_icmp .lt 13, 3) := by decide +kernel
theorem dX4_append_32 : decode cX4_append 32 = .ok (.new 60, 3) := by decide +kernel
theorem dX4_append_35 : decode cX4_append 35 = .ok (.dup, 1) := by decide +kernel
theorem dX4_append_36 : decode cX4_append 36 = .ok (.ldc 223, 2) := by decide +kernel
theorem dX4_append_38 : decode cX4_append 38 = .ok (.invokespecial 64, 3) := by decide +kernel
theorem dX4_append_41 : decode cX4_append 41 = .ok (.athrow, 1) := by decide +kernel
theorem dX4_append_42 : decode cX4_append 42 = .ok (.aload_n 0, 1) := by decide +kernel
theorem dX4_append_43 : decode cX4_append 43 = .ok (.getfield 34, 3) := by decide +kernel
theorem dX4_append_46 : decode cX4_append 46 = .ok (.iload_n 1, 1) := by decide +kernel
theorem dX4_append_47 : decode cX4_append 47 = .ok (.invokevirtual 225, 3) := by decide +kernel
theorem dX4_append_50 : decode cX4_append 50 = .ok (.aload_n 0, 1) := by decide +kernel
theorem dX4_append_51 : decode cX4_append 51 = .ok (.getfield 34, 3) := by decide +kernel
theorem dX4_append_54 : decode cX4_append 54 = .ok (.getfield 220, 3) := by decide +kernel
theorem dX4_append_57 : decode cX4_append 57 = .ok (.ireturn, 1) := by decide +kernel
theorem dX4_clearText_0 : decode cX4_clearText 0 = .ok (.aload_n 0, 1) := by decide +kernel
theorem dX4_clearText_1 : decode cX4_clearText 1 = .ok (.getfield 34, 3) := by decide +kernel
theorem dX4_clearText_4 : decode cX4_clearText 4 = .ok (.getfield 220, 3) := by decide +kernel
theorem dX4_clearText_7 : decode cX4_clearText 7 = .ok (.istore_n 1, 1) := by decide +kernel
theorem dX4_clearText_8 : decode cX4_clearText 8 = .ok (.aload_n 0, 1) := by decide +kernel
theorem dX4_clearText_9 : decode cX4_clearText 9 = .ok (.getfield 34, 3) := by decide +kernel
theorem dX4_clearText_12 : decode cX4_clearText 12 = .ok (.iconst 0, 1) := by decide +kernel
theorem dX4_clearText_13 : decode cX4_clearText 13 = .ok (.putfield 220, 3) := by decide +kernel
theorem dX4_clearText_16 : decode cX4_clearText 16 = .ok (.iload_n 1, 1) := by decide +kernel
theorem dX4_clearText_17 : decode cX4_clearText 17 = .ok (.ireturn, 1) := by decide +kernel
set_option maxRecDepth 20000 in
theorem ggX4_carryOut_X1_readOrders : GoodIn wsX4_carryOut wsX1_readOrders := goodIn_r _ [7, 8, 9, 10, 11, 12, 13, 14, 6, 15, 16, 17, 18, 19, 20, 21, 22, 23, 24, 25, 26, 27, 28, 29, 30, 31, 32, 33, 34, 35, 36, 37, 38, 39, 40, 41, 42, 43, 44, 45, 46, 47, 48, 49, 50, 51, 52, 53, 232, 233, 234, 235, 236, 237] (by decide +kernel) (by decide +kernel)
set_option maxRecDepth 20000 in
theorem gX4_carryOut_X1_readOrders : GoodIn wsX4_carryOut (wsV RX4 228 RX1 yX1_readOrders wsX1_readOrders) := goodIn_app (goodIn_of _ (by decide +kernel)) ggX4_carryOut_X1_readOrders
set_option maxRecDepth 20000 in
theorem ggX4_carryOut_X4_save : GoodIn wsX4_carryOut wsX4_save := goodIn_r _ [58, 59, 60, 61, 62, 63, 64, 65, 66, 67, 68, 69, 70, 71, 72, 73, 74, 75, 76, 77, 78, 79, 80, 81, 82, 83, 84, 85, 86, 87, 88, 89, 90, 91, 92, 93, 94, 95, 96, 97, 98, 99, 100, 101, 102, 103, 104, 105, 106, 107, 108, 109, 110, 111, 224, 225, 226, 227, 228, 229, 230, 231, 238, 239, 240, 241, 242, 243, 244, 245, 246, 247, 248, 249, 250, 251, 252, 253, 254, 255, 256, 257, 258, 259, 260, 261, 262, 263] (by decide +kernel) (by decide +kernel)
set_option maxRecDepth 20000 in
theorem gX4_carryOut_X4_save : GoodIn wsX4_carryOut (wsV RX4 65 RX4 yX4_save wsX4_save) := goodIn_app (goodIn_of _ (by decide +kernel)) ggX4_carryOut_X4_save
set_option maxRecDepth 20000 in
theorem ggX4_carryOut_X4_carriesOut : GoodIn wsX4_carryOut wsX4_carriesOut := goodIn_r _ [115, 1, 63, 116, 117, 118, 119, 120, 121, 6, 122, 53, 123, 124, 125, 57, 126, 127, 128, 129, 130, 131, 68, 132, 133, 134, 135, 136, 74, 78, 87, 71, 72, 76, 79, 77, 137, 138, 139, 140, 86, 141, 142, 143, 92, 144, 94, 100, 145, 146, 147, 148, 73, 80, 75, 88, 149, 150, 151, 152, 153, 98, 154, 155, 156, 157, 99, 158, 159, 160, 161, 162, 163, 164, 165, 166, 167, 168, 169, 170, 171, 172, 173, 174, 97, 175, 176, 177, 178, 179, 180, 181, 182, 101, 103, 183, 184, 185, 186, 107, 187, 110, 111, 82, 83, 84, 109, 188, 189, 190, 191, 70, 192, 193, 194, 195, 196, 197, 198, 199, 200, 201, 202, 102, 95, 203, 204, 205, 206, 207, 208, 209, 210, 85, 211, 212, 213, 214, 215, 216, 217, 218, 219, 220, 221, 222, 223, 224, 225, 226, 227, 228, 229, 230, 231, 238, 239, 240, 241, 242, 243, 244, 245, 246, 247, 248, 249, 250, 251, 252, 253, 254, 255, 256, 257, 258, 259, 260, 261, 232, 233, 234, 235, 236, 237, 262, 263] (by decide +kernel) (by decide +kernel)
set_option maxRecDepth 20000 in
theorem gX4_carryOut_X4_carriesOut : GoodIn wsX4_carryOut (wsV RX4 234 RX4 yX4_carriesOut wsX4_carriesOut) := goodIn_app (goodIn_of _ (by decide +kernel)) ggX4_carryOut_X4_carriesOut
theorem dX4_carryOut_0 : decode cX4_carryOut 0 = .ok (.aload_n 0, 1) := by decide +kernel
theorem dX4_carryOut_1 : decode cX4_carryOut 1 = .ok (.getfield 34, 3) := by decide +kernel
theorem dX4_carryOut_4 : decode cX4_carryOut 4 = .ok (.invokevirtual 228, 3) := by decide +kernel
theorem dX4_carryOut_7 : decode cX4_carryOut 7 = .ok (.istore_n 1, 1) := by decide +kernel
theorem dX4_carryOut_8 : decode cX4_carryOut 8 = .ok (.iload_n 1, 1) := by decide +kernel
theorem dX4_carryOut_9 : decode cX4_carryOut 9 = .ok (.iconst (-1), 1) := by decide +kernel
theorem dX4_carryOut_10 : decode cX4_carryOut 10 = .ok (.if_icmp .eq 8, 3) := by decide +kernel
theorem dX4_carryOut_13 : decode cX4_carryOut 13 = .ok (.bipush (-10), 2) := by decide +kernel
theorem dX4_carryOut_15 : decode cX4_carryOut 15 = .ok (.iload_n 1, 1) := by decide +kernel
theorem dX4_carryOut_16 : decode cX4_carryOut 16 = .ok (.isub, 1) := by decide +kernel
theorem dX4_carryOut_17 : decode cX4_carryOut 17 = .ok (.ireturn, 1) := by decide +kernel
theorem dX4_carryOut_18 : decode cX4_carryOut 18 = .ok (.aload_n 0, 1) := by decide +kernel
theorem dX4_carryOut_19 : decode cX4_carryOut 19 = .ok (.invokevirtual 65, 3) := by decide +kernel
theorem dX4_carryOut_22 : decode cX4_carryOut 22 = .ok (.iconst 0, 1) := by decide +kernel
theorem dX4_carryOut_23 : decode cX4_carryOut 23 = .ok (.istore_n 2, 1) := by decide +kernel
theorem dX4_carryOut_24 : decode cX4_carryOut 24 = .ok (.iload_n 2, 1) := by decide +kernel
theorem dX4_carryOut_25 : decode cX4_carryOut 25 = .ok (.aload_n 0, 1) := by decide +kernel
theorem dX4_carryOut_26 : decode cX4_carryOut 26 = .ok (.getfield 34, 3) := by decide +kernel
theorem dX4_carryOut_29 : decode cX4_carryOut 29 = .ok (.getfield 231, 3) := by decide +kernel
theorem dX4_carryOut_32 : decode cX4_carryOut 32 = .ok (.if_icmp .ge 19, 3) := by decide +kernel
theorem dX4_carryOut_35 : decode cX4_carryOut 35 = .ok (.aload_n 0, 1) := by decide +kernel
theorem dX4_carryOut_36 : decode cX4_carryOut 36 = .ok (.iload_n 2, 1) := by decide +kernel
theorem dX4_carryOut_37 : decode cX4_carryOut 37 = .ok (.invokevirtual 234, 3) := by decide +kernel
theorem dX4_carryOut_40 : decode cX4_carryOut 40 = .ok (.ifCond .ne 5, 3) := by decide +kernel
theorem dX4_carryOut_43 : decode cX4_carryOut 43 = .ok (.iload_n 2, 1) := by decide +kernel
theorem dX4_carryOut_44 : decode cX4_carryOut 44 = .ok (.ireturn, 1) := by decide +kernel
theorem dX4_carryOut_45 : decode cX4_carryOut 45 = .ok (.iinc 2 1, 3) := by decide +kernel
theorem dX4_carryOut_48 : decode cX4_carryOut 48 = .ok (.goto (-24), 3) := by decide +kernel
theorem dX4_carryOut_51 : decode cX4_carryOut 51 = .ok (.aload_n 0, 1) := by decide +kernel
theorem dX4_carryOut_52 : decode cX4_carryOut 52 = .ok (.getfield 34, 3) := by decide +kernel
theorem dX4_carryOut_55 : decode cX4_carryOut 55 = .ok (.getfield 231, 3) := by decide +kernel
theorem dX4_carryOut_58 : decode cX4_carryOut 58 = .ok (.ireturn, 1) := by decide +kernel
set_option maxRecDepth 20000 in
theorem ggX4_undo_X3_become : GoodIn wsX4_undo wsX3_become := goodIn_r _ [13, 14, 15, 16, 17, 18, 19, 20, 21, 22, 23, 24, 25, 26, 27, 28, 29, 30, 31, 32, 33, 34, 35, 36, 37, 38, 39, 40, 41, 42, 43, 44, 45, 46, 47, 48, 49, 50, 51, 52, 53, 54, 55, 64, 65, 66, 67, 68, 69, 70, 71, 72, 73, 74, 75, 76, 77, 78, 79, 80, 81, 82, 83, 84, 85, 86, 87, 88, 89] (by decide +kernel) (by decide +kernel)
set_option maxRecDepth 20000 in
theorem gX4_undo_X3_become : GoodIn wsX4_undo (wsV RX4 198 RX3 yX3_become wsX3_become) := goodIn_app (goodIn_of _ (by decide +kernel)) ggX4_undo_X3_become
theorem dX4_undo_0 : decode cX4_undo 0 = .ok (.aload_n 0, 1) := by decide +kernel
theorem dX4_undo_1 : decode cX4_undo 1 = .ok (.getfield 38, 3) := by decide +kernel
theorem dX4_undo_4 : decode cX4_undo 4 = .ok (.ifCond .ne 13, 3) := by decide +kernel
theorem dX4_undo_7 : decode cX4_undo 7 = .ok (.new 60, 3) := by decide +kernel
theorem dX4_undo_10 : decode cX4_undo 10 = .ok (.dup, 1) := by decide +kernel
theorem dX4_undo_11 : decode cX4_undo 11 = .ok (.ldc 237, 2) := by decide +kernel
theorem dX4_undo_13 : decode cX4_undo 13 = .ok (.invokespecial 64, 3) := by decide +kernel
theorem dX4_undo_16 : decode cX4_undo 16 = .ok (.athrow, 1) := by decide +kernel
theorem dX4_undo_17 : decode cX4_undo 17 = .ok (.aload_n 0, 1) := by decide +kernel
theorem dX4_undo_18 : decode cX4_undo 18 = .ok (.getfield 10, 3) := by decide +kernel
theorem dX4_undo_21 : decode cX4_undo 21 = .ok (.aload_n 0, 1) := by decide +kernel
theorem dX4_undo_22 : decode cX4_undo 22 = .ok (.getfield 19, 3) := by decide +kernel
theorem dX4_undo_25 : decode cX4_undo 25 = .ok (.invokevirtual 198, 3) := by decide +kernel
theorem dX4_undo_28 : decode cX4_undo 28 = .ok (.aload_n 0, 1) := by decide +kernel
theorem dX4_undo_29 : decode cX4_undo 29 = .ok (.getfield 19, 3) := by decide +kernel
theorem dX4_undo_32 : decode cX4_undo 32 = .ok (.aload_n 0, 1) := by decide +kernel
theorem dX4_undo_33 : decode cX4_undo 33 = .ok (.getfield 22, 3) := by decide +kernel
theorem dX4_undo_36 : decode cX4_undo 36 = .ok (.invokevirtual 198, 3) := by decide +kernel
theorem dX4_undo_39 : decode cX4_undo 39 = .ok (.aload_n 0, 1) := by decide +kernel
theorem dX4_undo_40 : decode cX4_undo 40 = .ok (.getfield 22, 3) := by decide +kernel
theorem dX4_undo_43 : decode cX4_undo 43 = .ok (.aload_n 0, 1) := by decide +kernel
theorem dX4_undo_44 : decode cX4_undo 44 = .ok (.getfield 25, 3) := by decide +kernel
theorem dX4_undo_47 : decode cX4_undo 47 = .ok (.invokevirtual 198, 3) := by decide +kernel
theorem dX4_undo_50 : decode cX4_undo 50 = .ok (.aload_n 0, 1) := by decide +kernel
theorem dX4_undo_51 : decode cX4_undo 51 = .ok (.getfield 25, 3) := by decide +kernel
theorem dX4_undo_54 : decode cX4_undo 54 = .ok (.aload_n 0, 1) := by decide +kernel
theorem dX4_undo_55 : decode cX4_undo 55 = .ok (.getfield 28, 3) := by decide +kernel
theorem dX4_undo_58 : decode cX4_undo 58 = .ok (.invokevirtual 198, 3) := by decide +kernel
theorem dX4_undo_61 : decode cX4_undo 61 = .ok (.aload_n 0, 1) := by decide +kernel
theorem dX4_undo_62 : decode cX4_undo 62 = .ok (.dup, 1) := by decide +kernel
theorem dX4_undo_63 : decode cX4_undo 63 = .ok (.getfield 38, 3) := by decide +kernel
theorem dX4_undo_66 : decode cX4_undo 66 = .ok (.iconst 1, 1) := by decide +kernel
theorem dX4_undo_67 : decode cX4_undo 67 = .ok (.isub, 1) := by decide +kernel
theorem dX4_undo_68 : decode cX4_undo 68 = .ok (.putfield 38, 3) := by decide +kernel
theorem dX4_undo_71 : decode cX4_undo 71 = .ok (.aload_n 0, 1) := by decide +kernel
theorem dX4_undo_72 : decode cX4_undo 72 = .ok (.getfield 38, 3) := by decide +kernel
theorem dX4_undo_75 : decode cX4_undo 75 = .ok (.ireturn, 1) := by decide +kernel
set_option maxRecDepth 20000 in
theorem ggX4_digest_X3_digestOnto : GoodIn wsX4_digest wsX3_digestOnto := goodIn_r _ [11, 12, 13, 14, 15, 16, 17, 18, 19, 20, 21, 10, 22, 23, 24, 25, 26, 27, 28, 29, 30, 31, 32, 33, 34, 35, 36, 37, 38, 39, 40, 41, 42, 43, 44, 45, 46, 47, 48, 49, 50, 51, 52, 53, 54, 55, 56, 57, 58, 59, 60, 61, 62, 63, 64, 65, 66, 67, 68, 69, 70, 71, 72, 73, 74, 75, 90, 91, 92, 93, 94, 95, 96, 97, 98, 99, 100, 101, 102, 103, 104, 105, 106, 107, 108, 109, 110, 111, 112, 113, 114, 115] (by decide +kernel) (by decide +kernel)
set_option maxRecDepth 20000 in
theorem gX4_digest_X3_digestOnto : GoodIn wsX4_digest (wsV RX4 241 RX3 yX3_digestOnto wsX3_digestOnto) := goodIn_app (goodIn_of _ (by decide +kernel)) ggX4_digest_X3_digestOnto
theorem dX4_digest_0 : decode cX4_digest 0 = .ok (.ldc2_w 239, 3) := by decide +kernel
theorem dX4_digest_3 : decode cX4_digest 3 = .ok (.aload_n 0, 1) := by decide +kernel
theorem dX4_digest_4 : decode cX4_digest 4 = .ok (.getfield 34, 3) := by decide +kernel
theorem dX4_digest_7 : decode cX4_digest 7 = .ok (.getfield 220, 3) := by decide +kernel
theorem dX4_digest_10 : decode cX4_digest 10 = .ok (.i2l, 1) := by decide +kernel
theorem dX4_digest_11 : decode cX4_digest 11 = .ok (.ladd, 1) := by decide +kernel
theorem dX4_digest_12 : decode cX4_digest 12 = .ok (.lstore_n 1, 1) := by decide +kernel
theorem dX4_digest_13 : decode cX4_digest 13 = .ok (.aload_n 0, 1) := by decide +kernel
theorem dX4_digest_14 : decode cX4_digest 14 = .ok (.getfield 10, 3) := by decide +kernel
theorem dX4_digest_17 : decode cX4_digest 17 = .ok (.lload_n 1, 1) := by decide +kernel
theorem dX4_digest_18 : decode cX4_digest 18 = .ok (.invokevirtual 241, 3) := by decide +kernel
theorem dX4_digest_21 : decode cX4_digest 21 = .ok (.lstore_n 1, 1) := by decide +kernel
theorem dX4_digest_22 : decode cX4_digest 22 = .ok (.ldc2_w 245, 3) := by decide +kernel
theorem dX4_digest_25 : decode cX4_digest 25 = .ok (.lload_n 1, 1) := by decide +kernel
theorem dX4_digest_26 : decode cX4_digest 26 = .ok (.lmul, 1) := by decide +kernel
theorem dX4_digest_27 : decode cX4_digest 27 = .ok (.aload_n 0, 1) := by decide +kernel
theorem dX4_digest_28 : decode cX4_digest 28 = .ok (.getfield 38, 3) := by decide +kernel
theorem dX4_digest_31 : decode cX4_digest 31 = .ok (.i2l, 1) := by decide +kernel
theorem dX4_digest_32 : decode cX4_digest 32 = .ok (.ladd, 1) := by decide +kernel
theorem dX4_digest_33 : decode cX4_digest 33 = .ok (.lreturn, 1) := by decide +kernel
set_option maxRecDepth 20000 in
theorem ggX4_save_X3_become : GoodIn wsX4_save wsX3_become := goodIn_r _ [11, 12, 13, 14, 15, 16, 17, 18, 19, 20, 21, 22, 23, 24, 25, 26, 27, 28, 29, 30, 31, 32, 33, 34, 35, 36, 37, 38, 39, 40, 41, 42, 43, 44, 45, 46, 47, 48, 49, 50, 51, 52, 53, 62, 63, 64, 65, 66, 67, 68, 69, 70, 71, 72, 73, 74, 75, 76, 77, 78, 79, 80, 81, 82, 83, 84, 85, 86, 87] (by decide +kernel) (by decide +kernel)
set_option maxRecDepth 20000 in
theorem gX4_save_X3_become : GoodIn wsX4_save (wsV RX4 198 RX3 yX3_become wsX3_become) := goodIn_app (goodIn_of _ (by decide +kernel)) ggX4_save_X3_become
theorem dX4_save_0 : decode cX4_save 0 = .ok (.aload_n 0, 1) := by decide +kernel
theorem dX4_save_1 : decode cX4_save 1 = .ok (.getfield 28, 3) := by decide +kernel
theorem dX4_save_4 : decode cX4_save 4 = .ok (.aload_n 0, 1) := by decide +kernel
theorem dX4_save_5 : decode cX4_save 5 = .ok (.getfield 25, 3) := by decide +kernel
theorem dX4_save_8 : decode cX4_save 8 = .ok (.invokevirtual 198, 3) := by decide +kernel
theorem dX4_save_11 : decode cX4_save 11 = .ok (.aload_n 0, 1) := by decide +kernel
theorem dX4_save_12 : decode cX4_save 12 = .ok (.getfield 25, 3) := by decide +kernel
theorem dX4_save_15 : decode cX4_save 15 = .ok (.aload_n 0, 1) := by decide +kernel
theorem dX4_save_16 : decode cX4_save 16 = .ok (.getfield 22, 3) := by decide +kernel
theorem dX4_save_19 : decode cX4_save 19 = .ok (.invokevirtual 198, 3) := by decide +kernel
theorem dX4_save_22 : decode cX4_save 22 = .ok (.aload_n 0, 1) := by decide +kernel
theorem dX4_save_23 : decode cX4_save 23 = .ok (.getfield 22, 3) := by decide +kernel
theorem dX4_save_26 : decode cX4_save 26 = .ok (.aload_n 0, 1) := by decide +kernel
theorem dX4_save_27 : decode cX4_save 27 = .ok (.getfield 19, 3) := by decide +kernel
theorem dX4_save_30 : decode cX4_save 30 = .ok (.invokevirtual 198, 3) := by decide +kernel
theorem dX4_save_33 : decode cX4_save 33 = .ok (.aload_n 0, 1) := by decide +kernel
theorem dX4_save_34 : decode cX4_save 34 = .ok (.getfield 19, 3) := by decide +kernel
theorem dX4_save_37 : decode cX4_save 37 = .ok (.aload_n 0, 1) := by decide +kernel
theorem dX4_save_38 : decode cX4_save 38 = .ok (.getfield 10, 3) := by decide +kernel
theorem dX4_save_41 : decode cX4_save 41 = .ok (.invokevirtual 198, 3) := by decide +kernel
theorem dX4_save_44 : decode cX4_save 44 = .ok (.aload_n 0, 1) := by decide +kernel
theorem dX4_save_45 : decode cX4_save 45 = .ok (.getfield 38, 3) := by decide +kernel
theorem dX4_save_48 : decode cX4_save 48 = .ok (.iconst 4, 1) := by decide +kernel
theorem dX4_save_49 : decode cX4_save 49 = .ok (.if_icmp .ge 13, 3) := by decide +kernel
theorem dX4_save_52 : decode cX4_save 52 = .ok (.aload_n 0, 1) := by decide +kernel
theorem dX4_save_53 : decode cX4_save 53 = .ok (.dup, 1) := by decide +kernel
theorem dX4_save_54 : decode cX4_save 54 = .ok (.getfield 38, 3) := by decide +kernel
theorem dX4_save_57 : decode cX4_save 57 = .ok (.iconst 1, 1) := by decide +kernel
theorem dX4_save_58 : decode cX4_save 58 = .ok (.iadd, 1) := by decide +kernel
theorem dX4_save_59 : decode cX4_save 59 = .ok (.putfield 38, 3) := by decide +kernel
theorem dX4_save_62 : decode cX4_save 62 = .ok (.return_, 1) := by decide +kernel
theorem dX4_isIn_0 : decode cX4_isIn 0 = .ok (.iload_n 0, 1) := by decide +kernel
theorem dX4_isIn_1 : decode cX4_isIn 1 = .ok (.iload_n 1, 1) := by decide +kernel
theorem dX4_isIn_2 : decode cX4_isIn 2 = .ok (.if_icmp .lt 12, 3) := by decide +kernel
theorem dX4_isIn_5 : decode cX4_isIn 5 = .ok (.iload_n 0, 1) := by decide +kernel
theorem dX4_isIn_6 : decode cX4_isIn 6 = .ok (.iload_n 2, 1) := by decide +kernel
theorem dX4_isIn_7 : decode cX4_isIn 7 = .ok (.if_icmp .gt 7, 3) := by decide +kernel
theorem dX4_isIn_10 : decode cX4_isIn 10 = .ok (.iconst 1, 1) := by decide +kernel
theorem dX4_isIn_11 : decode cX4_isIn 11 = .ok (.goto 4, 3) := by decide +kernel
theorem dX4_isIn_14 : decode cX4_isIn 14 = .ok (.iconst 0, 1) := by decide +kernel
theorem dX4_isIn_15 : decode cX4_isIn 15 = .ok (.ireturn, 1) := by decide +kernel
set_option maxRecDepth 20000 in
theorem ggX4_isHour_X4_isIn : GoodIn wsX4_isHour wsX4_isIn := goodIn_r _ [4] (by decide +kernel) (by decide +kernel)
set_option maxRecDepth 20000 in
theorem gX4_isHour_X4_isIn : GoodIn wsX4_isHour (va_wsS RX4 43 yX4_isIn wsX4_isIn) := goodIn_app (goodIn_of _ (by decide +kernel)) ggX4_isHour_X4_isIn
theorem dX4_isHour_0 : decode cX4_isHour 0 = .ok (.iload_n 0, 1) := by decide +kernel
theorem dX4_isHour_1 : decode cX4_isHour 1 = .ok (.iconst 0, 1) := by decide +kernel
theorem dX4_isHour_2 : decode cX4_isHour 2 = .ok (.bipush 23, 2) := by decide +kernel
theorem dX4_isHour_4 : decode cX4_isHour 4 = .ok (.invokestatic 43, 3) := by decide +kernel
theorem dX4_isHour_7 : decode cX4_isHour 7 = .ok (.ireturn, 1) := by decide +kernel
set_option maxRecDepth 20000 in
theorem ggX4_isOath_X4_isIn : GoodIn wsX4_isOath wsX4_isIn := goodIn_r _ [4] (by decide +kernel) (by decide +kernel)
set_option maxRecDepth 20000 in
theorem gX4_isOath_X4_isIn : GoodIn wsX4_isOath (va_wsS RX4 43 yX4_isIn wsX4_isIn) := goodIn_app (goodIn_of _ (by decide +kernel)) ggX4_isOath_X4_isIn
theorem dX4_isOath_0 : decode cX4_isOath 0 = .ok (.iload_n 0, 1) := by decide +kernel
theorem dX4_isOath_1 : decode cX4_isOath 1 = .ok (.iconst 1, 1) := by decide +kernel
theorem dX4_isOath_2 : decode cX4_isOath 2 = .ok (.bipush 12, 2) := by decide +kernel
theorem dX4_isOath_4 : decode cX4_isOath 4 = .ok (.invokestatic 43, 3) := by decide +kernel
theorem dX4_isOath_7 : decode cX4_isOath 7 = .ok (.ireturn, 1) := by decide +kernel
set_option maxRecDepth 20000 in
theorem ggX4_isPump_X2_has : GoodIn wsX4_isPump wsX2_has := goodIn_r _ [7, 8, 32, 33, 34, 35, 36, 37, 38, 39, 40] (by decide +kernel) (by decide +kernel)
set_option maxRecDepth 20000 in
theorem gX4_isPump_X2_has : GoodIn wsX4_isPump (wsV RX4 247 RX2 yX2_has wsX2_has) := goodIn_app (goodIn_of _ (by decide +kernel)) ggX4_isPump_X2_has
theorem dX4_isPump_0 : decode cX4_isPump 0 = .ok (.aload_n 0, 1) := by decide +kernel
theorem dX4_isPump_1 : decode cX4_isPump 1 = .ok (.getfield 10, 3) := by decide +kernel
theorem dX4_isPump_4 : decode cX4_isPump 4 = .ok (.getfield 111, 3) := by decide +kernel
theorem dX4_isPump_7 : decode cX4_isPump 7 = .ok (.iload_n 1, 1) := by decide +kernel
theorem dX4_isPump_8 : decode cX4_isPump 8 = .ok (.invokevirtual 247, 3) := by decide +kernel
theorem dX4_isPump_11 : decode cX4_isPump 11 = .ok (.ireturn, 1) := by decide +kernel
set_option maxRecDepth 20000 in
theorem ggX4_isInService_X4_isPump : GoodIn wsX4_isInService wsX4_isPump := goodIn_r _ [8, 1, 2, 9, 10, 11, 12, 13, 14, 15, 16, 17, 18, 19, 20, 21, 22, 23, 24, 25, 26, 27, 28, 29, 30, 31, 32, 33, 34, 35, 36, 37, 38, 39, 40, 41, 42, 43, 44, 45, 46] (by decide +kernel) (by decide +kernel)
set_option maxRecDepth 20000 in
theorem gX4_isInService_X4_isPump : GoodIn wsX4_isInService (wsV RX4 125 RX4 yX4_isPump wsX4_isPump) := goodIn_app (goodIn_of _ (by decide +kernel)) ggX4_isInService_X4_isPump
theorem dX4_isInService_0 : decode cX4_isInService 0 = .ok (.aload_n 0, 1) := by decide +kernel
theorem dX4_isInService_1 : decode cX4_isInService 1 = .ok (.iload_n 1, 1) := by decide +kernel
theorem dX4_isInService_2 : decode cX4_isInService 2 = .ok (.invokevirtual 125, 3) := by decide +kernel
theorem dX4_isInService_5 : decode cX4_isInService 5 = .ok (.ifCond .eq 23, 3) := by decide +kernel
theorem dX4_isInService_8 : decode cX4_isInService 8 = .ok (.aload_n 0, 1) := by decide +kernel
theorem dX4_isInService_9 : decode cX4_isInService 9 = .ok (.getfield 10, 3) := by decide +kernel
theorem dX4_isInService_12 : decode cX4_isInService 12 = .ok (.getfield 111, 3) := by decide +kernel
theorem dX4_isInService_15 : decode cX4_isInService 15 = .ok (.getfield 141, 3) := by decide +kernel
theorem dX4_isInService_18 : decode cX4_isInService 18 = .ok (.iload_n 1, 1) := by decide +kernel
theorem dX4_isInService_19 : decode cX4_isInService 19 = .ok (.iaload, 1) := by decide +kernel
theorem dX4_isInService_20 : decode cX4_isInService 20 = .ok (.iconst 2, 1) := by decide +kernel
theorem dX4_isInService_21 : decode cX4_isInService 21 = .ok (.if_icmp .eq 7, 3) := by decide +kernel
theorem dX4_isInService_24 : decode cX4_isInService 24 = .ok (.iconst 1, 1) := by decide +kernel
theorem dX4_isInService_25 : decode cX4_isInService 25 = .ok (.goto 4, 3) := by decide +kernel
theorem dX4_isInService_28 : decode cX4_isInService 28 = .ok (.iconst 0, 1) := by decide +kernel
theorem dX4_isInService_29 : decode cX4_isInService 29 = .ok (.ireturn, 1) := by decide +kernel
theorem dX4_hasTimeFor_0 : decode cX4_hasTimeFor 0 = .ok (.aload_n 0, 1) := by decide +kernel
theorem dX4_hasTimeFor_1 : decode cX4_hasTimeFor 1 = .ok (.getfield 10, 3) := by decide +kernel
theorem dX4_hasTimeFor_4 : decode cX4_hasTimeFor 4 = .ok (.getfield 250, 3) := by decide +kernel
theorem dX4_hasTimeFor_7 : decode cX4_hasTimeFor 7 = .ok (.iload_n 1, 1) := by decide +kernel
theorem dX4_hasTimeFor_8 : decode cX4_hasTimeFor 8 = .ok (.iadd, 1) := by decide +kernel
theorem dX4_hasTimeFor_9 : decode cX4_hasTimeFor 9 = .ok (.ldc 253, 2) := by decide +kernel
theorem dX4_hasTimeFor_11 : decode cX4_hasTimeFor 11 = .ok (.if_icmp .gt 7, 3) := by decide +kernel
theorem dX4_hasTimeFor_14 : decode cX4_hasTimeFor 14 = .ok (.iconst 1, 1) := by decide +kernel
theorem dX4_hasTimeFor_15 : decode cX4_hasTimeFor 15 = .ok (.goto 4, 3) := by decide +kernel
theorem dX4_hasTimeFor_18 : decode cX4_hasTimeFor 18 = .ok (.iconst 0, 1) := by decide +kernel
theorem dX4_hasTimeFor_19 : decode cX4_hasTimeFor 19 = .ok (.ireturn, 1) := by decide +kernel
set_option maxRecDepth 20000 in
theorem ggX4_wouldBeKept_X3_become : GoodIn wsX4_wouldBeKept wsX3_become := goodIn_r _ [9, 10, 11, 12, 13, 14, 15, 16, 17, 18, 19, 20, 21, 22, 23, 24, 25, 26, 27, 28, 29, 30, 31, 32, 33, 34, 35, 36, 37, 38, 39, 40, 41, 42, 43, 44, 45, 46, 47, 48, 49, 50, 51, 142, 143, 144, 145, 146, 147, 148, 149, 150, 151, 152, 153, 154, 155, 156, 157, 158, 159, 160, 161, 162, 163, 164, 165, 166, 167] (by decide +kernel) (by decide +kernel)
set_option maxRecDepth 20000 in
theorem gX4_wouldBeKept_X3_become : GoodIn wsX4_wouldBeKept (wsV RX4 198 RX3 yX3_become wsX3_become) := goodIn_app (goodIn_of _ (by decide +kernel)) ggX4_wouldBeKept_X3_become
set_option maxRecDepth 20000 in
theorem ggX4_wouldBeKept_X2_swearAll : GoodIn wsX4_wouldBeKept wsX2_swearAll := goodIn_r _ [55, 34, 37, 157, 158, 159, 160, 161, 162, 163, 164, 165] (by decide +kernel) (by decide +kernel)
set_option maxRecDepth 20000 in
theorem gX4_wouldBeKept_X2_swearAll : GoodIn wsX4_wouldBeKept (wsV RX4 254 RX2 yX2_swearAll wsX2_swearAll) := goodIn_app (goodIn_of _ (by decide +kernel)) ggX4_wouldBeKept_X2_swearAll
set_option maxRecDepth 20000 in
theorem ggX4_wouldBeKept_X3_passMinute : GoodIn wsX4_wouldBeKept wsX3_passMinute := goodIn_r _ [59, 14, 18, 27, 11, 12, 16, 19, 17, 60, 61, 62, 8, 63, 26, 64, 65, 66, 32, 67, 34, 40, 68, 69, 70, 71, 13, 20, 15, 28, 72, 73, 74, 75, 76, 38, 77, 78, 79, 80, 39, 81, 82, 83, 84, 85, 86, 87, 88, 89, 90, 91, 92, 93, 94, 95, 96, 97, 37, 98, 99, 100, 101, 102, 103, 104, 105, 41, 43, 106, 107, 108, 109, 47, 110, 50, 51, 22, 23, 24, 49, 111, 112, 113, 114, 10, 115, 116, 117, 118, 119, 120, 121, 122, 123, 124, 125, 42, 35, 126, 127, 128, 129, 130, 131, 132, 133, 25, 142, 143, 144, 145, 146, 147, 148, 149, 150, 151, 152, 153, 154, 155, 156, 157, 158, 159, 160, 161, 162, 163, 164, 165, 166, 167] (by decide +kernel) (by decide +kernel)
set_option maxRecDepth 20000 in
theorem gX4_wouldBeKept_X3_passMinute : GoodIn wsX4_wouldBeKept (wsV RX4 211 RX3 yX3_passMinute wsX3_passMinute) := goodIn_app (goodIn_of _ (by decide +kernel)) ggX4_wouldBeKept_X3_passMinute
theorem dX4_wouldBeKept_0 : decode cX4_wouldBeKept 0 = .ok (.aload_n 0, 1) := by decide +kernel
theorem dX4_wouldBeKept_1 : decode cX4_wouldBeKept 1 = .ok (.getfield 16, 3) := by decide +kernel
theorem dX4_wouldBeKept_4 : decode cX4_wouldBeKept 4 = .ok (.aload_n 0, 1) := by decide +kernel
theorem dX4_wouldBeKept_5 : decode cX4_wouldBeKept 5 = .ok (.getfield 10, 3) := by decide +kernel
theorem dX4_wouldBeKept_8 : decode cX4_wouldBeKept 8 = .ok (.invokevirtual 198, 3) := by decide +kernel
theorem dX4_wouldBeKept_11 : decode cX4_wouldBeKept 11 = .ok (.aload_n 0, 1) := by decide +kernel
theorem dX4_wouldBeKept_12 : decode cX4_wouldBeKept 12 = .ok (.getfield 16, 3) := by decide +kernel
theorem dX4_wouldBeKept_15 : decode cX4_wouldBeKept 15 = .ok (.getfield 111, 3) := by decide +kernel
theorem dX4_wouldBeKept_18 : decode cX4_wouldBeKept 18 = .ok (.iload_n 1, 1) := by decide +kernel
theorem dX4_wouldBeKept_19 : decode cX4_wouldBeKept 19 = .ok (.invokevirtual 254, 3) := by decide +kernel
theorem dX4_wouldBeKept_22 : decode cX4_wouldBeKept 22 = .ok (.iconst 0, 1) := by decide +kernel
theorem dX4_wouldBeKept_23 : decode cX4_wouldBeKept 23 = .ok (.istore_n 3, 1) := by decide +kernel
theorem dX4_wouldBeKept_24 : decode cX4_wouldBeKept 24 = .ok (.iload_n 3, 1) := by decide +kernel
theorem dX4_wouldBeKept_25 : decode cX4_wouldBeKept 25 = .ok (.iload_n 2, 1) := by decide +kernel
theorem dX4_wouldBeKept_26 : decode cX4_wouldBeKept 26 = .ok (.if_icmp .ge 36, 3) := by decide +kernel
theorem dX4_wouldBeKept_29 : decode cX4_wouldBeKept 29 = .ok (.aload_n 0, 1) := by decide +kernel
theorem dX4_wouldBeKept_30 : decode cX4_wouldBeKept 30 = .ok (.getfield 16, 3) := by decide +kernel
theorem dX4_wouldBeKept_33 : decode cX4_wouldBeKept 33 = .ok (.invokevirtual 211, 3) := by decide +kernel
theorem dX4_wouldBeKept_36 : decode cX4_wouldBeKept 36 = .ok (.pop, 1) := by decide +kernel
theorem dX4_wouldBeKept_37 : decode cX4_wouldBeKept 37 = .ok (.aload_n 0, 1) := by decide +kernel
theorem dX4_wouldBeKept_38 : decode cX4_wouldBeKept 38 = .ok (.getfield 16, 3) := by decide +kernel
theorem dX4_wouldBeKept_41 : decode cX4_wouldBeKept 41 = .ok (.getfield 151, 3) := by decide +kernel
theorem dX4_wouldBeKept_44 : decode cX4_wouldBeKept 44 = .ok (.aload_n 0, 1) := by decide +kernel
theorem dX4_wouldBeKept_45 : decode cX4_wouldBeKept 45 = .ok (.getfield 10, 3) := by decide +kernel
theorem dX4_wouldBeKept_48 : decode cX4_wouldBeKept 48 = .ok (.getfield 151, 3) := by decide +kernel
theorem dX4_wouldBeKept_51 : decode cX4_wouldBeKept 51 = .ok (.if_icmp .eq 5, 3) := by decide +kernel

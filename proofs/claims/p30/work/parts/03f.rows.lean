theorem dX3_digestOnto_147 : decode cX3_digestOnto 147 = .ok (.invokevirtual 169, 3) := by decide +kernel
theorem dX3_digestOnto_150 : decode cX3_digestOnto 150 = .ok (.lreturn, 1) := by decide +kernel
set_option maxRecDepth 20000 in
theorem ggX4_init_X3_init : GoodIn wsX4_init wsX3_init := goodIn_r _ [20, 21, 2, 3, 22, 23, 24, 25, 26, 27, 28, 29, 30, 31, 32, 33, 34, 35, 36, 37, 38, 39, 40, 41, 42, 43, 44, 45, 46, 47, 48, 49, 50, 51, 52, 53, 59, 60, 61, 62, 63, 64, 65, 66, 67, 68, 69, 70, 71, 72, 73, 88, 89, 90, 91, 92, 93, 94, 95, 96, 97, 98] (by decide +kernel) (by decide +kernel)
set_option maxRecDepth 20000 in
theorem gX4_init_X3_init : GoodIn wsX4_init (wsX3_init) := ggX4_init_X3_init
set_option maxRecDepth 20000 in
theorem ggX4_init_X1_init : GoodIn wsX4_init wsX1_init := goodIn_r _ [55, 56, 2, 3, 26, 57, 58, 82, 83, 84, 85, 86, 87] (by decide +kernel) (by decide +kernel)
set_option maxRecDepth 20000 in
theorem gX4_init_X1_init_n33 : GoodIn wsX4_init (wsX1_init) := ggX4_init_X1_init
theorem dX4_init_0 : decode cX4_init 0 = .ok (.aload_n 0, 1) := by decide +kernel
theorem dX4_init_1 : decode cX4_init 1 = .ok (.invokespecial 1, 3) := by decide +kernel
theorem dX4_init_4 : decode cX4_init 4 = .ok (.aload_n 0, 1) := by decide +kernel
theorem dX4_init_5 : decode cX4_init 5 = .ok (.new 7, 3) := by decide +kernel
theorem dX4_init_8 : decode cX4_init 8 = .ok (.dup, 1) := by decide +kernel
theorem dX4_init_9 : decode cX4_init 9 = .ok (.invokespecial 9, 3) := by decide +kernel
theorem dX4_init_12 : decode cX4_init 12 = .ok (.putfield 10, 3) := by decide +kernel
theorem dX4_init_15 : decode cX4_init 15 = .ok (.aload_n 0, 1) := by decide +kernel
theorem dX4_init_16 : decode cX4_init 16 = .ok (.new 7, 3) := by decide +kernel
theorem dX4_init_19 : decode cX4_init 19 = .ok (.dup, 1) := by decide +kernel
theorem dX4_init_20 : decode cX4_init 20 = .ok (.invokespecial 9, 3) := by decide +kernel
theorem dX4_init_23 : decode cX4_init 23 = .ok (.putfield 16, 3) := by decide +kernel
theorem dX4_init_26 : decode cX4_init 26 = .ok (.aload_n 0, 1) := by decide +kernel
theorem dX4_init_27 : decode cX4_init 27 = .ok (.new 7, 3) := by decide +kernel
theorem dX4_init_30 : decode cX4_init 30 = .ok (.dup, 1) := by decide +kernel
theorem dX4_init_31 : decode cX4_init 31 = .ok (.invokespecial 9, 3) := by decide +kernel
theorem dX4_init_34 : decode cX4_init 34 = .ok (.putfield 19, 3) := by decide +kernel
theorem dX4_init_37 : decode cX4_init 37 = .ok (.aload_n 0, 1) := by decide +kernel
theorem dX4_init_38 : decode cX4_init 38 = .ok (.new 7, 3) := by decide +kernel
theorem dX4_init_41 : decode cX4_init 41 = .ok (.dup, 1) := by decide +kernel
theorem dX4_init_42 : decode cX4_init 42 = .ok (.invokespecial 9, 3) := by decide +kernel
theorem dX4_init_45 : decode cX4_init 45 = .ok (.putfield 22, 3) := by decide +kernel
theorem dX4_init_48 : decode cX4_init 48 = .ok (.aload_n 0, 1) := by decide +kernel
theorem dX4_init_49 : decode cX4_init 49 = .ok (.new 7, 3) := by decide +kernel
theorem dX4_init_52 : decode cX4_init 52 = .ok (.dup, 1) := by decide +kernel
theorem dX4_init_53 : decode cX4_init 53 = .ok (.invokespecial 9, 3) := by decide +kernel
theorem dX4_init_56 : decode cX4_init 56 = .ok (.putfield 25, 3) := by decide +kernel
theorem dX4_init_59 : decode cX4_init 59 = .ok (.aload_n 0, 1) := by decide +kernel
theorem dX4_init_60 : decode cX4_init 60 = .ok (.new 7, 3) := by decide +kernel
theorem dX4_init_63 : decode cX4_init 63 = .ok (.dup, 1) := by decide +kernel
theorem dX4_init_64 : decode cX4_init 64 = .ok (.invokespecial 9, 3) := by decide +kernel
theorem dX4_init_67 : decode cX4_init 67 = .ok (.putfield 28, 3) := by decide +kernel
theorem dX4_init_70 : decode cX4_init 70 = .ok (.aload_n 0, 1) := by decide +kernel
theorem dX4_init_71 : decode cX4_init 71 = .ok (.new 31, 3) := by decide +kernel
theorem dX4_init_74 : decode cX4_init 74 = .ok (.dup, 1) := by decide +kernel
theorem dX4_init_75 : decode cX4_init 75 = .ok (.invokespecial 33, 3) := by decide +kernel
theorem dX4_init_78 : decode cX4_init 78 = .ok (.putfield 34, 3) := by decide +kernel
theorem dX4_init_81 : decode cX4_init 81 = .ok (.aload_n 0, 1) := by decide +kernel
theorem dX4_init_82 : decode cX4_init 82 = .ok (.iconst 0, 1) := by decide +kernel
theorem dX4_init_83 : decode cX4_init 83 = .ok (.putfield 38, 3) := by decide +kernel
theorem dX4_init_86 : decode cX4_init 86 = .ok (.return_, 1) := by decide +kernel
set_option maxRecDepth 20000 in
theorem ggX4_setSize_X4_isIn : GoodIn wsX4_setSize wsX4_isIn := goodIn_r _ [13] (by decide +kernel) (by decide +kernel)
set_option maxRecDepth 20000 in
theorem gX4_setSize_X4_isIn : GoodIn wsX4_setSize (va_wsS RX4 43 yX4_isIn wsX4_isIn) := goodIn_app (goodIn_of _ (by decide +kernel)) ggX4_setSize_X4_isIn
set_option maxRecDepth 20000 in
theorem ggX4_setSize_X4_save : GoodIn wsX4_setSize wsX4_save := goodIn_r _ [17, 18, 19, 20, 21, 6, 22, 23, 24, 25, 26, 27, 28, 29, 30, 31, 32, 33, 34, 35, 36, 37, 38, 39, 40, 41, 42, 43, 44, 45, 46, 47, 48, 49, 50, 51, 52, 53, 54, 55, 56, 57, 58, 59, 60, 61, 62, 63, 64, 65, 66, 67, 68, 69, 70, 71, 72, 73, 74, 75, 76, 77, 78, 79, 80, 81, 82, 83, 84, 85, 86, 87, 88, 89, 90, 91, 92, 93, 94, 95, 96, 97, 98, 99, 100, 101, 102, 103] (by decide +kernel) (by decide +kernel)
set_option maxRecDepth 20000 in
theorem gX4_setSize_X4_save : GoodIn wsX4_setSize (wsV RX4 65 RX4 yX4_save wsX4_save) := goodIn_app (goodIn_of _ (by decide +kernel)) ggX4_setSize_X4_save
theorem dX4_setSize_0 : decode cX4_setSize 0 = .ok (.iload_n 1, 1) := by decide +kernel
theorem dX4_setSize_1 : decode cX4_setSize 1 = .ok (.bipush 100, 2) := by decide +kernel
theorem dX4_setSize_3 : decode cX4_setSize 3 = .ok (.ldc 42, 2) := by decide +kernel
theorem dX4_setSize_5 : decode cX4_setSize 5 = .ok (.invokestatic 43, 3) := by decide +kernel
theorem dX4_setSize_8 : decode cX4_setSize 8 = .ok (.ifCond .ne 13, 3) := by decide +kernel
theorem dX4_setSize_11 : decode cX4_setSize 11 = .ok (.new 47, 3) := by decide +kernel
theorem dX4_setSize_14 : decode cX4_setSize 14 = .ok (.dup, 1) := by decide +kernel
theorem dX4_setSize_15 : decode cX4_setSize 15 = .ok (.ldc 49, 2) := by decide +kernel
theorem dX4_setSize_17 : decode cX4_setSize 17 = .ok (.invokespecial 51, 3) := by decide +kernel
theorem dX4_setSize_20 : decode cX4_setSize 20 = .ok (.athrow, 1) := by decide +kernel
theorem dX4_setSize_21 : decode cX4_setSize 21 = .ok (.aload_n 0, 1) := by decide +kernel
theorem dX4_setSize_22 : decode cX4_setSize 22 = .ok (.getfield 10, 3) := by decide +kernel
theorem dX4_setSize_25 : decode cX4_setSize 25 = .ok (.getfield 54, 3) := by decide +kernel
theorem dX4_setSize_28 : decode cX4_setSize 28 = .ok (.iload_n 1, 1) := by decide +kernel
theorem dX4_setSize_29 : decode cX4_setSize 29 = .ok (.if_icmp .gt 14, 3) := by decide +kernel
theorem dX4_setSize_32 : decode cX4_setSize 32 = .ok (.aload_n 0, 1) := by decide +kernel
theorem dX4_setSize_33 : decode cX4_setSize 33 = .ok (.getfield 10, 3) := by decide +kernel
theorem dX4_setSize_36 : decode cX4_setSize 36 = .ok (.getfield 57, 3) := by decide +kernel
theorem dX4_setSize_39 : decode cX4_setSize 39 = .ok (.iload_n 1, 1) := by decide +kernel
theorem dX4_setSize_40 : decode cX4_setSize 40 = .ok (.if_icmp .le 13, 3) := by decide +kernel
theorem dX4_setSize_43 : decode cX4_setSize 43 = .ok (.new 60, 3) := by decide +kernel
theorem dX4_setSize_46 : decode cX4_setSize 46 = .ok (.dup, 1) := by decide +kernel
theorem dX4_setSize_47 : decode cX4_setSize 47 = .ok (.ldc 62, 2) := by decide +kernel
theorem dX4_setSize_49 : decode cX4_setSize 49 = .ok (.invokespecial 64, 3) := by decide +kernel
theorem dX4_setSize_52 : decode cX4_setSize 52 = .ok (.athrow, 1) := by decide +kernel
theorem dX4_setSize_53 : decode cX4_setSize 53 = .ok (.aload_n 0, 1) := by decide +kernel
theorem dX4_setSize_54 : decode cX4_setSize 54 = .ok (.invokevirtual 65, 3) := by decide +kernel
theorem dX4_setSize_57 : decode cX4_setSize 57 = .ok (.aload_n 0, 1) := by decide +kernel
theorem dX4_setSize_58 : decode cX4_setSize 58 = .ok (.getfield 10, 3) := by decide +kernel
theorem dX4_setSize_61 : decode cX4_setSize 61 = .ok (.getfield 68, 3) := by decide +kernel
theorem dX4_setSize_64 : decode cX4_setSize 64 = .ok (.istore_n 2, 1) := by decide +kernel
theorem dX4_setSize_65 : decode cX4_setSize 65 = .ok (.aload_n 0, 1) := by decide +kernel
theorem dX4_setSize_66 : decode cX4_setSize 66 = .ok (.getfield 10, 3) := by decide +kernel
theorem dX4_setSize_69 : decode cX4_setSize 69 = .ok (.iload_n 1, 1) := by decide +kernel
theorem dX4_setSize_70 : decode cX4_setSize 70 = .ok (.putfield 68, 3) := by decide +kernel
theorem dX4_setSize_73 : decode cX4_setSize 73 = .ok (.iload_n 2, 1) := by decide +kernel
theorem dX4_setSize_74 : decode cX4_setSize 74 = .ok (.ireturn, 1) := by decide +kernel
set_option maxRecDepth 20000 in
theorem ggX4_setBand_X4_save : GoodIn wsX4_setBand wsX4_save := goodIn_r _ [13, 14, 15, 16, 17, 5, 18, 19, 20, 21, 22, 23, 24, 25, 26, 27, 28, 29, 30, 31, 32, 33, 34, 35, 36, 37, 38, 39, 40, 41, 42, 43, 44, 45, 46, 47, 48, 49, 50, 51, 52, 53, 54, 55, 56, 57, 58, 59, 60, 61, 62, 63, 64, 65, 66, 67, 68, 69, 70, 71, 72, 73, 74, 75, 76, 77, 78, 79, 80, 81, 82, 83, 84, 85, 86, 87, 88, 89, 90, 91, 92, 93, 94, 95, 96, 97, 98, 99] (by decide +kernel) (by decide +kernel)
set_option maxRecDepth 20000 in
theorem gX4_setBand_X4_save : GoodIn wsX4_setBand (wsV RX4 65 RX4 yX4_save wsX4_save) := goodIn_app (goodIn_of _ (by decide +kernel)) ggX4_setBand_X4_save
theorem dX4_setBand_0 : decode cX4_setBand 0 = .ok (.iload_n 1, 1) := by decide +kernel
theorem dX4_setBand_1 : decode cX4_setBand 1 = .ok (.iconst 1, 1) := by decide +kernel
theorem dX4_setBand_2 : decode cX4_setBand 2 = .ok (.if_icmp .lt 8, 3) := by decide +kernel
theorem dX4_setBand_5 : decode cX4_setBand 5 = .ok (.iload_n 2, 1) := by decide +kernel
theorem dX4_setBand_6 : decode cX4_setBand 6 = .ok (.iload_n 1, 1) := by decide +kernel
theorem dX4_setBand_7 : decode cX4_setBand 7 = .ok (.if_icmp .gt 13, 3) := by decide +kernel
theorem dX4_setBand_10 : decode cX4_setBand 10 = .ok (.new 47, 3) := by decide +kernel
theorem dX4_setBand_13 : decode cX4_setBand 13 = .ok (.dup, 1) := by decide +kernel
theorem dX4_setBand_14 : decode cX4_setBand 14 = .ok (.ldc 71, 2) := by decide +kernel
theorem dX4_setBand_16 : decode cX4_setBand 16 = .ok (.invokespecial 51, 3) := by decide +kernel
theorem dX4_setBand_19 : decode cX4_setBand 19 = .ok (.athrow, 1) := by decide +kernel
theorem dX4_setBand_20 : decode cX4_setBand 20 = .ok (.iload_n 2, 1) := by decide +kernel
theorem dX4_setBand_21 : decode cX4_setBand 21 = .ok (.aload_n 0, 1) := by decide +kernel
theorem dX4_setBand_22 : decode cX4_setBand 22 = .ok (.getfield 10, 3) := by decide +kernel
theorem dX4_setBand_25 : decode cX4_setBand 25 = .ok (.getfield 68, 3) := by decide +kernel
theorem dX4_setBand_28 : decode cX4_setBand 28 = .ok (.if_icmp .le 13, 3) := by decide +kernel
theorem dX4_setBand_31 : decode cX4_setBand 31 = .ok (.new 60, 3) := by decide +kernel
theorem dX4_setBand_34 : decode cX4_setBand 34 = .ok (.dup, 1) := by decide +kernel
theorem dX4_setBand_35 : decode cX4_setBand 35 = .ok (.ldc 73, 2) := by decide +kernel
theorem dX4_setBand_37 : decode cX4_setBand 37 = .ok (.invokespecial 64, 3) := by decide +kernel
theorem dX4_setBand_40 : decode cX4_setBand 40 = .ok (.athrow, 1) := by decide +kernel
theorem dX4_setBand_41 : decode cX4_setBand 41 = .ok (.aload_n 0, 1) := by decide +kernel
theorem dX4_setBand_42 : decode cX4_setBand 42 = .ok (.invokevirtual 65, 3) := by decide +kernel
theorem dX4_setBand_45 : decode cX4_setBand 45 = .ok (.aload_n 0, 1) := by decide +kernel
theorem dX4_setBand_46 : decode cX4_setBand 46 = .ok (.getfield 10, 3) := by decide +kernel
theorem dX4_setBand_49 : decode cX4_setBand 49 = .ok (.getfield 57, 3) := by decide +kernel
theorem dX4_setBand_52 : decode cX4_setBand 52 = .ok (.aload_n 0, 1) := by decide +kernel
theorem dX4_setBand_53 : decode cX4_setBand 53 = .ok (.getfield 10, 3) := by decide +kernel
theorem dX4_setBand_56 : decode cX4_setBand 56 = .ok (.getfield 75, 3) := by decide +kernel
theorem dX4_setBand_59 : decode cX4_setBand 59 = .ok (.isub, 1) := by decide +kernel
theorem dX4_setBand_60 : decode cX4_setBand 60 = .ok (.istore_n 3, 1) := by decide +kernel
theorem dX4_setBand_61 : decode cX4_setBand 61 = .ok (.aload_n 0, 1) := by decide +kernel
theorem dX4_setBand_62 : decode cX4_setBand 62 = .ok (.getfield 10, 3) := by decide +kernel
theorem dX4_setBand_65 : decode cX4_setBand 65 = .ok (.iload_n 1, 1) := by decide +kernel
theorem dX4_setBand_66 : decode cX4_setBand 66 = .ok (.putfield 75, 3) := by decide +kernel
theorem dX4_setBand_69 : decode cX4_setBand 69 = .ok (.aload_n 0, 1) := by decide +kernel
theorem dX4_setBand_70 : decode cX4_setBand 70 = .ok (.getfield 10, 3) := by decide +kernel
theorem dX4_setBand_73 : decode cX4_setBand 73 = .ok (.iload_n 2, 1) := by decide +kernel
theorem dX4_setBand_74 : decode cX4_setBand 74 = .ok (.putfield 57, 3) := by decide +kernel
theorem dX4_setBand_77 : decode cX4_setBand 77 = .ok (.iload_n 3, 1) := by decide +kernel
theorem dX4_setBand_78 : decode cX4_setBand 78 = .ok (.ireturn, 1) := by decide +kernel
set_option maxRecDepth 20000 in
theorem ggX4_setLevel_X4_save : GoodIn wsX4_setLevel wsX4_save := goodIn_r _ [12, 13, 14, 15, 16, 5, 17, 18, 19, 20, 21, 22, 23, 24, 25, 26, 27, 28, 29, 30, 31, 32, 33, 34, 35, 36, 37, 38, 39, 40, 41, 42, 43, 44, 45, 46, 47, 48, 49, 50, 51, 52, 53, 54, 55, 56, 57, 58, 59, 60, 61, 62, 63, 64, 65, 66, 67, 68, 69, 70, 71, 72, 73, 74, 75, 76, 77, 78, 79, 80, 81, 82, 83, 84, 85, 86, 87, 88, 89, 90, 91, 92, 93, 94, 95, 96, 97, 98] (by decide +kernel) (by decide +kernel)
set_option maxRecDepth 20000 in
theorem gX4_setLevel_X4_save : GoodIn wsX4_setLevel (wsV RX4 65 RX4 yX4_save wsX4_save) := goodIn_app (goodIn_of _ (by decide +kernel)) ggX4_setLevel_X4_save
theorem dX4_setLevel_0 : decode cX4_setLevel 0 = .ok (.iload_n 1, 1) := by decide +kernel
theorem dX4_setLevel_1 : decode cX4_setLevel 1 = .ok (.ifCond .ge 13, 3) := by decide +kernel
theorem dX4_setLevel_4 : decode cX4_setLevel 4 = .ok (.new 47, 3) := by decide +kernel
theorem dX4_setLevel_7 : decode cX4_setLevel 7 = .ok (.dup, 1) := by decide +kernel
theorem dX4_setLevel_8 : decode cX4_setLevel 8 = .ok (.ldc 78, 2) := by decide +kernel
theorem dX4_setLevel_10 : decode cX4_setLevel 10 = .ok (.invokespecial 51, 3) := by decide +kernel
theorem dX4_setLevel_13 : decode cX4_setLevel 13 = .ok (.athrow, 1) := by decide +kernel
theorem dX4_setLevel_14 : decode cX4_setLevel 14 = .ok (.iload_n 1, 1) := by decide +kernel
theorem dX4_setLevel_15 : decode cX4_setLevel 15 = .ok (.aload_n 0, 1) := by decide +kernel
theorem dX4_setLevel_16 : decode cX4_setLevel 16 = .ok (.getfield 10, 3) := by decide +kernel
theorem dX4_setLevel_19 : decode cX4_setLevel 19 = .ok (.getfield 68, 3) := by decide +kernel
theorem dX4_setLevel_22 : decode cX4_setLevel 22 = .ok (.if_icmp .le 13, 3) := by decide +kernel
theorem dX4_setLevel_25 : decode cX4_setLevel 25 = .ok (.new 60, 3) := by decide +kernel
theorem dX4_setLevel_28 : decode cX4_setLevel 28 = .ok (.dup, 1) := by decide +kernel
theorem dX4_setLevel_29 : decode cX4_setLevel 29 = .ok (.ldc 80, 2) := by decide +kernel
theorem dX4_setLevel_31 : decode cX4_setLevel 31 = .ok (.invokespecial 64, 3) := by decide +kernel
theorem dX4_setLevel_34 : decode cX4_setLevel 34 = .ok (.athrow, 1) := by decide +kernel
theorem dX4_setLevel_35 : decode cX4_setLevel 35 = .ok (.aload_n 0, 1) := by decide +kernel
theorem dX4_setLevel_36 : decode cX4_setLevel 36 = .ok (.invokevirtual 65, 3) := by decide +kernel
theorem dX4_setLevel_39 : decode cX4_setLevel 39 = .ok (.aload_n 0, 1) := by decide +kernel
theorem dX4_setLevel_40 : decode cX4_setLevel 40 = .ok (.getfield 10, 3) := by decide +kernel
theorem dX4_setLevel_43 : decode cX4_setLevel 43 = .ok (.getfield 54, 3) := by decide +kernel
theorem dX4_setLevel_46 : decode cX4_setLevel 46 = .ok (.istore_n 2, 1) := by decide +kernel
theorem dX4_setLevel_47 : decode cX4_setLevel 47 = .ok (.aload_n 0, 1) := by decide +kernel
theorem dX4_setLevel_48 : decode cX4_setLevel 48 = .ok (.getfield 10, 3) := by decide +kernel
theorem dX4_setLevel_51 : decode cX4_setLevel 51 = .ok (.iload_n 1, 1) := by decide +kernel
theorem dX4_setLevel_52 : decode cX4_setLevel 52 = .ok (.putfield 54, 3) := by decide +kernel
theorem dX4_setLevel_55 : decode cX4_setLevel 55 = .ok (.iload_n 2, 1) := by decide +kernel
theorem dX4_setLevel_56 : decode cX4_setLevel 56 = .ok (.ireturn, 1) := by decide +kernel
set_option maxRecDepth 20000 in
theorem ggX4_set_X3_isSettingValue : GoodIn wsX4_set wsX3_isSettingValue := goodIn_r _ [7, 8, 9] (by decide +kernel) (by decide +kernel)
set_option maxRecDepth 20000 in
theorem gX4_set_X3_isSettingValue : GoodIn wsX4_set (va_wsS RX4 82 yX3_isSettingValue wsX3_isSettingValue) := goodIn_app (goodIn_of _ (by decide +kernel)) ggX4_set_X3_isSettingValue
set_option maxRecDepth 20000 in
theorem ggX4_set_X4_save : GoodIn wsX4_set wsX4_save := goodIn_r _ [14, 15, 16, 17, 18, 3, 19, 20, 21, 22, 6, 23, 24, 25, 26, 27, 28, 29, 30, 31, 32, 33, 34, 35, 36, 37, 38, 39, 40, 41, 42, 43, 44, 45, 46, 47, 48, 49, 50, 51, 52, 53, 54, 55, 56, 57, 58, 59, 60, 61, 62, 63, 64, 65, 74, 75, 76, 77, 78, 79, 80, 81, 82, 83, 84, 85, 86, 87, 88, 89, 90, 91, 92, 93, 94, 95, 96, 97, 98, 99, 100, 101, 102, 103, 104, 105, 106, 107] (by decide +kernel) (by decide +kernel)
set_option maxRecDepth 20000 in
theorem gX4_set_X4_save : GoodIn wsX4_set (wsV RX4 65 RX4 yX4_save wsX4_save) := goodIn_app (goodIn_of _ (by decide +kernel)) ggX4_set_X4_save
set_option maxRecDepth 20000 in
theorem ggX4_set_X3_changeSetting : GoodIn wsX4_set wsX3_changeSetting := goodIn_r _ [69, 34, 70, 71, 72, 6, 73, 82, 83, 84, 85, 86, 87, 88, 89, 90, 91, 92, 93, 94, 95, 96] (by decide +kernel) (by decide +kernel)
set_option maxRecDepth 20000 in
theorem gX4_set_X3_changeSetting : GoodIn wsX4_set (wsV RX4 88 RX3 yX3_changeSetting wsX3_changeSetting) := goodIn_app (goodIn_of _ (by decide +kernel)) ggX4_set_X3_changeSetting
theorem dX4_set_0 : decode cX4_set 0 = .ok (.iload_n 1, 1) := by decide +kernel
theorem dX4_set_1 : decode cX4_set 1 = .ok (.iload_n 2, 1) := by decide +kernel
theorem dX4_set_2 : decode cX4_set 2 = .ok (.invokestatic 82, 3) := by decide +kernel
theorem dX4_set_5 : decode cX4_set 5 = .ok (.ifCond .ne 13, 3) := by decide +kernel
theorem dX4_set_8 : decode cX4_set 8 = .ok (.new 47, 3) := by decide +kernel
theorem dX4_set_11 : decode cX4_set 11 = .ok (.dup, 1) := by decide +kernel
theorem dX4_set_12 : decode cX4_set 12 = .ok (.ldc 86, 2) := by decide +kernel
theorem dX4_set_14 : decode cX4_set 14 = .ok (.invokespecial 51, 3) := by decide +kernel
theorem dX4_set_17 : decode cX4_set 17 = .ok (.athrow, 1) := by decide +kernel
theorem dX4_set_18 : decode cX4_set 18 = .ok (.aload_n 0, 1) := by decide +kernel
theorem dX4_set_19 : decode cX4_set 19 = .ok (.invokevirtual 65, 3) := by decide +kernel
theorem dX4_set_22 : decode cX4_set 22 = .ok (.aload_n 0, 1) := by decide +kernel
theorem dX4_set_23 : decode cX4_set 23 = .ok (.getfield 10, 3) := by decide +kernel
theorem dX4_set_26 : decode cX4_set 26 = .ok (.iload_n 1, 1) := by decide +kernel
theorem dX4_set_27 : decode cX4_set 27 = .ok (.iload_n 2, 1) := by decide +kernel
theorem dX4_set_28 : decode cX4_set 28 = .ok (.invokevirtual 88, 3) := by decide +kernel
theorem dX4_set_31 : decode cX4_set 31 = .ok (.ireturn, 1) := by decide +kernel
set_option maxRecDepth 20000 in
theorem ggX4_setDemand_X4_isHour : GoodIn wsX4_setDemand wsX4_isHour := goodIn_r _ [9, 10, 11, 8, 12] (by decide +kernel) (by decide +kernel)
set_option maxRecDepth 20000 in
theorem gX4_setDemand_X4_isHour : GoodIn wsX4_setDemand (va_wsS RX4 92 yX4_isHour wsX4_isHour) := goodIn_app (goodIn_of _ (by decide +kernel)) ggX4_setDemand_X4_isHour
set_option maxRecDepth 20000 in
theorem ggX4_setDemand_X4_isIn : GoodIn wsX4_setDemand wsX4_isIn := goodIn_r _ [12] (by decide +kernel) (by decide +kernel)
set_option maxRecDepth 20000 in
theorem gX4_setDemand_X4_isIn : GoodIn wsX4_setDemand (va_wsS RX4 43 yX4_isIn wsX4_isIn) := goodIn_app (goodIn_of _ (by decide +kernel)) ggX4_setDemand_X4_isIn
set_option maxRecDepth 20000 in
theorem ggX4_setDemand_X4_save : GoodIn wsX4_setDemand wsX4_save := goodIn_r _ [16, 17, 18, 19, 20, 5, 21, 22, 23, 24, 25, 26, 27, 28, 29, 30, 31, 32, 33, 34, 35, 36, 37, 38, 39, 40, 41, 42, 43, 44, 45, 46, 47, 48, 49, 50, 51, 52, 53, 54, 55, 56, 57, 58, 59, 60, 61, 62, 63, 64, 65, 66, 67, 68, 77, 78, 79, 80, 81, 82, 83, 84, 85, 86, 87, 88, 89, 90, 91, 92, 93, 94, 95, 96, 97, 98, 99, 100, 101, 102, 103, 104, 105, 106, 107, 108, 109, 110] (by decide +kernel) (by decide +kernel)
set_option maxRecDepth 20000 in
theorem gX4_setDemand_X4_save : GoodIn wsX4_setDemand (wsV RX4 65 RX4 yX4_save wsX4_save) := goodIn_app (goodIn_of _ (by decide +kernel)) ggX4_setDemand_X4_save
set_option maxRecDepth 20000 in
theorem ggX4_setDemand_X3_changeDemand : GoodIn wsX4_setDemand wsX3_changeDemand := goodIn_r _ [72, 42, 73, 74, 75, 25, 76, 85, 86, 87, 88, 89, 90, 91, 92, 93, 94, 95, 96, 97, 98, 99] (by decide +kernel) (by decide +kernel)
set_option maxRecDepth 20000 in
theorem gX4_setDemand_X3_changeDemand : GoodIn wsX4_setDemand (wsV RX4 103 RX3 yX3_changeDemand wsX3_changeDemand) := goodIn_app (goodIn_of _ (by decide +kernel)) ggX4_setDemand_X3_changeDemand
theorem dX4_setDemand_0 : decode cX4_setDemand 0 = .ok (.iload_n 1, 1) := by decide +kernel
theorem dX4_setDemand_1 : decode cX4_setDemand 1 = .ok (.invokestatic 92, 3) := by decide +kernel
theorem dX4_setDemand_4 : decode cX4_setDemand 4 = .ok (.ifCond .ne 13, 3) := by decide +kernel
theorem dX4_setDemand_7 : decode cX4_setDemand 7 = .ok (.new 96, 3) := by decide +kernel
theorem dX4_setDemand_10 : decode cX4_setDemand 10 = .ok (.dup, 1) := by decide +kernel
theorem dX4_setDemand_11 : decode cX4_setDemand 11 = .ok (.ldc 98, 2) := by decide +kernel
theorem dX4_setDemand_13 : decode cX4_setDemand 13 = .ok (.invokespecial 100, 3) := by decide +kernel
theorem dX4_setDemand_16 : decode cX4_setDemand 16 = .ok (.athrow, 1) := by decide +kernel
theorem dX4_setDemand_17 : decode cX4_setDemand 17 = .ok (.iload_n 2, 1) := by decide +kernel
theorem dX4_setDemand_18 : decode cX4_setDemand 18 = .ok (.iconst 0, 1) := by decide +kernel
theorem dX4_setDemand_19 : decode cX4_setDemand 19 = .ok (.sipush 1000, 3) := by decide +kernel
theorem dX4_setDemand_22 : decode cX4_setDemand 22 = .ok (.invokestatic 43, 3) := by decide +kernel
theorem dX4_setDemand_25 : decode cX4_setDemand 25 = .ok (.ifCond .ne 13, 3) := by decide +kernel
theorem dX4_setDemand_28 : decode cX4_setDemand 28 = .ok (.new 47, 3) := by decide +kernel
theorem dX4_setDemand_31 : decode cX4_setDemand 31 = .ok (.dup, 1) := by decide +kernel
theorem dX4_setDemand_32 : decode cX4_setDemand 32 = .ok (.ldc 101, 2) := by decide +kernel
theorem dX4_setDemand_34 : decode cX4_setDemand 34 = .ok (.invokespecial 51, 3) := by decide +kernel
theorem dX4_setDemand_37 : decode cX4_setDemand 37 = .ok (.athrow, 1) := by decide +kernel
theorem dX4_setDemand_38 : decode cX4_setDemand 38 = .ok (.aload_n 0, 1) := by decide +kernel
theorem dX4_setDemand_39 : decode cX4_setDemand 39 = .ok (.invokevirtual 65, 3) := by decide +kernel
theorem dX4_setDemand_42 : decode cX4_setDemand 42 = .ok (.aload_n 0, 1) := by decide +kernel
theorem dX4_setDemand_43 : decode cX4_setDemand 43 = .ok (.getfield 10, 3) := by decide +kernel
theorem dX4_setDemand_46 : decode cX4_setDemand 46 = .ok (.iload_n 1, 1) := by decide +kernel
theorem dX4_setDemand_47 : decode cX4_setDemand 47 = .ok (.iload_n 2, 1) := by decide +kernel
theorem dX4_setDemand_48 : decode cX4_setDemand 48 = .ok (.invokevirtual 103, 3) := by decide +kernel
theorem dX4_setDemand_51 : decode cX4_setDemand 51 = .ok (.ireturn, 1) := by decide +kernel
set_option maxRecDepth 20000 in
theorem ggX4_addPump_X4_isIn : GoodIn wsX4_addPump wsX4_isIn := goodIn_r _ [11] (by decide +kernel) (by decide +kernel)
set_option maxRecDepth 20000 in
theorem gX4_addPump_X4_isIn : GoodIn wsX4_addPump (va_wsS RX4 43 yX4_isIn wsX4_isIn) := goodIn_app (goodIn_of _ (by decide +kernel)) ggX4_addPump_X4_isIn
set_option maxRecDepth 20000 in
theorem ggX4_addPump_X4_isOath : GoodIn wsX4_addPump wsX4_isOath := goodIn_r _ [14, 8, 9, 10, 11] (by decide +kernel) (by decide +kernel)
set_option maxRecDepth 20000 in
theorem gX4_addPump_X4_isOath : GoodIn wsX4_addPump (va_wsS RX4 106 yX4_isOath wsX4_isOath) := goodIn_app (goodIn_of _ (by decide +kernel)) ggX4_addPump_X4_isOath
set_option maxRecDepth 20000 in
theorem ggX4_addPump_X4_save : GoodIn wsX4_addPump wsX4_save := goodIn_r _ [18, 19, 20, 21, 22, 5, 23, 24, 25, 26, 27, 28, 29, 30, 31, 32, 33, 34, 35, 36, 37, 38, 39, 40, 41, 42, 43, 44, 45, 46, 47, 48, 49, 50, 51, 52, 53, 54, 55, 56, 57, 58, 59, 60, 61, 62, 63, 64, 65, 66, 67, 68, 69, 70, 75, 76, 77, 78, 79, 80, 81, 82, 83, 84, 85, 86, 87, 88, 89, 90, 91, 92, 93, 94, 95, 96, 97, 98, 99, 100, 101, 102, 103, 104, 105, 106, 107, 108] (by decide +kernel) (by decide +kernel)
set_option maxRecDepth 20000 in
theorem gX4_addPump_X4_save : GoodIn wsX4_addPump (wsV RX4 65 RX4 yX4_save wsX4_save) := goodIn_app (goodIn_of _ (by decide +kernel)) ggX4_addPump_X4_save
set_option maxRecDepth 20000 in
theorem ggX4_addPump_X2_join : GoodIn wsX4_addPump wsX2_join := goodIn_r _ [74, 53, 54, 56, 58, 98, 99, 100, 101, 102, 103, 104, 105, 106] (by decide +kernel) (by decide +kernel)
set_option maxRecDepth 20000 in
theorem gX4_addPump_X2_join : GoodIn wsX4_addPump (wsV RX4 122 RX2 yX2_join wsX2_join) := goodIn_app (goodIn_of _ (by decide +kernel)) ggX4_addPump_X2_join
theorem dX4_addPump_0 : decode cX4_addPump 0 = .ok (.iload_n 1, 1) := by decide +kernel
theorem dX4_addPump_1 : decode cX4_addPump 1 = .ok (.iconst 1, 1) := by decide +kernel
theorem dX4_addPump_2 : decode cX4_addPump 2 = .ok (.sipush 500, 3) := by decide +kernel
theorem dX4_addPump_5 : decode cX4_addPump 5 = .ok (.invokestatic 43, 3) := by decide +kernel
theorem dX4_addPump_8 : decode cX4_addPump 8 = .ok (.ifCond .eq 10, 3) := by decide +kernel
theorem dX4_addPump_11 : decode cX4_addPump 11 = .ok (.iload_n 2, 1) := by decide +kernel
theorem dX4_addPump_12 : decode cX4_addPump 12 = .ok (.invokestatic 106, 3) := by decide +kernel
theorem dX4_addPump_15 : decode cX4_addPump 15 = .ok (.ifCond .ne 13, 3) := by decide +kernel
theorem dX4_addPump_18 : decode cX4_addPump 18 = .ok (.new 47, 3) := by decide +kernel
theorem dX4_addPump_21 : decode cX4_addPump 21 = .ok (.dup, 1) := by decide +kernel
theorem dX4_addPump_22 : decode cX4_addPump 22 = .ok (.ldc 109, 2) := by decide +kernel
theorem dX4_addPump_24 : decode cX4_addPump 24 = .ok (.invokespecial 51, 3) := by decide +kernel
theorem dX4_addPump_27 : decode cX4_addPump 27 = .ok (.athrow, 1) := by decide +kernel
theorem dX4_addPump_28 : decode cX4_addPump 28 = .ok (.aload_n 0, 1) := by decide +kernel
theorem dX4_addPump_29 : decode cX4_addPump 29 = .ok (.getfield 10, 3) := by decide +kernel
theorem dX4_addPump_32 : decode cX4_addPump 32 = .ok (.getfield 111, 3) := by decide +kernel
theorem dX4_addPump_35 : decode cX4_addPump 35 = .ok (.getfield 115, 3) := by decide +kernel
theorem dX4_addPump_38 : decode cX4_addPump 38 = .ok (.bipush 6, 2) := by decide +kernel
theorem dX4_addPump_40 : decode cX4_addPump 40 = .ok (.if_icmp .lt 13, 3) := by decide +kernel
theorem dX4_addPump_43 : decode cX4_addPump 43 = .ok (.new 60, 3) := by decide +kernel
theorem dX4_addPump_46 : decode cX4_addPump 46 = .ok (.dup, 1) := by decide +kernel
theorem dX4_addPump_47 : decode cX4_addPump 47 = .ok (.ldc 120, 2) := by decide +kernel
theorem dX4_addPump_49 : decode cX4_addPump 49 = .ok (.invokespecial 64, 3) := by decide +kernel
theorem dX4_addPump_52 : decode cX4_addPump 52 = .ok (.athrow, 1) := by decide +kernel
theorem dX4_addPump_53 : decode cX4_addPump 53 = .ok (.aload_n 0, 1) := by decide +kernel
theorem dX4_addPump_54 : decode cX4_addPump 54 = .ok (.invokevirtual 65, 3) := by decide +kernel
theorem dX4_addPump_57 : decode cX4_addPump 57 = .ok (.aload_n 0, 1) := by decide +kernel
theorem dX4_addPump_58 : decode cX4_addPump 58 = .ok (.getfield 10, 3) := by decide +kernel
theorem dX4_addPump_61 : decode cX4_addPump 61 = .ok (.getfield 111, 3) := by decide +kernel
theorem dX4_addPump_64 : decode cX4_addPump 64 = .ok (.iload_n 1, 1) := by decide +kernel
theorem dX4_addPump_65 : decode cX4_addPump 65 = .ok (.iload_n 2, 1) := by decide +kernel
theorem dX4_addPump_66 : decode cX4_addPump 66 = .ok (.invokevirtual 122, 3) := by decide +kernel
theorem dX4_addPump_69 : decode cX4_addPump 69 = .ok (.ireturn, 1) := by decide +kernel
set_option maxRecDepth 20000 in
theorem ggX4_swear_X4_isPump : GoodIn wsX4_swear wsX4_isPump := goodIn_r _ [12, 5, 6, 13, 14, 15, 16, 17, 18, 79, 80, 81, 82, 83, 84, 85, 86, 87, 88, 89, 90, 91, 92, 93, 94, 95, 96, 97, 98, 99, 100, 101, 102, 103, 104, 105, 106, 107, 108, 109, 110] (by decide +kernel) (by decide +kernel)
set_option maxRecDepth 20000 in
theorem gX4_swear_X4_isPump : GoodIn wsX4_swear (wsV RX4 125 RX4 yX4_isPump wsX4_isPump) := goodIn_app (goodIn_of _ (by decide +kernel)) ggX4_swear_X4_isPump
set_option maxRecDepth 20000 in
theorem ggX4_swear_X4_isOath : GoodIn wsX4_swear wsX4_isOath := goodIn_r _ [21, 22, 23, 11, 24] (by decide +kernel) (by decide +kernel)
set_option maxRecDepth 20000 in
theorem gX4_swear_X4_isOath : GoodIn wsX4_swear (va_wsS RX4 106 yX4_isOath wsX4_isOath) := goodIn_app (goodIn_of _ (by decide +kernel)) ggX4_swear_X4_isOath
set_option maxRecDepth 20000 in
theorem ggX4_swear_X4_save : GoodIn wsX4_swear wsX4_save := goodIn_r _ [28, 29, 30, 31, 32, 5, 33, 34, 35, 36, 37, 38, 39, 40, 41, 42, 43, 44, 45, 46, 47, 48, 49, 50, 51, 52, 53, 54, 55, 56, 57, 58, 59, 60, 16, 61, 18, 62, 63, 64, 65, 66, 67, 68, 69, 70, 71, 72, 73, 74, 75, 76, 77, 78, 79, 80, 81, 82, 83, 84, 85, 86, 87, 88, 89, 90, 91, 92, 93, 94, 95, 96, 97, 98, 99, 100, 101, 102, 103, 104, 105, 106, 107, 108, 109, 110, 111, 112] (by decide +kernel) (by decide +kernel)
set_option maxRecDepth 20000 in
theorem gX4_swear_X4_save : GoodIn wsX4_swear (wsV RX4 65 RX4 yX4_save wsX4_save) := goodIn_app (goodIn_of _ (by decide +kernel)) ggX4_swear_X4_save
theorem dX4_swear_0 : decode cX4_swear 0 = .ok (.aload_n 0, 1) := by decide +kernel
theorem dX4_swear_1 : decode cX4_swear 1 = .ok (.iload_n 1, 1) := by decide +kernel
theorem dX4_swear_2 : decode cX4_swear 2 = .ok (.invokevirtual 125, 3) := by decide +kernel
theorem dX4_swear_5 : decode cX4_swear 5 = .ok (.ifCond .ne 13, 3) := by decide +kernel
theorem dX4_swear_8 : decode cX4_swear 8 = .ok (.new 96, 3) := by decide +kernel
theorem dX4_swear_11 : decode cX4_swear 11 = .ok (.dup, 1) := by decide +kernel
theorem dX4_swear_12 : decode cX4_swear 12 = .ok (.ldc 128, 2) := by decide +kernel
theorem dX4_swear_14 : decode cX4_swear 14 = .ok (.invokespecial 100, 3) := by decide +kernel
theorem dX4_swear_17 : decode cX4_swear 17 = .ok (.athrow, 1) := by decide +kernel
theorem dX4_swear_18 : decode cX4_swear 18 = .ok (.iload_n 2, 1) := by decide +kernel
theorem dX4_swear_19 : decode cX4_swear 19 = .ok (.invokestatic 106, 3) := by decide +kernel
theorem dX4_swear_22 : decode cX4_swear 22 = .ok (.ifCond .ne 13, 3) := by decide +kernel
theorem dX4_swear_25 : decode cX4_swear 25 = .ok (.new 47, 3) := by decide +kernel
theorem dX4_swear_28 : decode cX4_swear 28 = .ok (.dup, 1) := by decide +kernel
theorem dX4_swear_29 : decode cX4_swear 29 = .ok (.ldc 130, 2) := by decide +kernel
theorem dX4_swear_31 : decode cX4_swear 31 = .ok (.invokespecial 51, 3) := by decide +kernel
theorem dX4_swear_34 : decode cX4_swear 34 = .ok (.athrow, 1) := by decide +kernel
theorem dX4_swear_35 : decode cX4_swear 35 = .ok (.aload_n 0, 1) := by decide +kernel
theorem dX4_swear_36 : decode cX4_swear 36 = .ok (.invokevirtual 65, 3) := by decide +kernel
theorem dX4_swear_39 : decode cX4_swear 39 = .ok (.aload_n 0, 1) := by decide +kernel
theorem dX4_swear_40 : decode cX4_swear 40 = .ok (.getfield 10, 3) := by decide +kernel
theorem dX4_swear_43 : decode cX4_swear 43 = .ok (.getfield 111, 3) := by decide +kernel
theorem dX4_swear_46 : decode cX4_swear 46 = .ok (.getfield 132, 3) := by decide +kernel
theorem dX4_swear_49 : decode cX4_swear 49 = .ok (.iload_n 1, 1) := by decide +kernel
theorem dX4_swear_50 : decode cX4_swear 50 = .ok (.iaload, 1) := by decide +kernel
theorem dX4_swear_51 : decode cX4_swear 51 = .ok (.istore_n 3, 1) := by decide +kernel
theorem dX4_swear_52 : decode cX4_swear 52 = .ok (.aload_n 0, 1) := by decide +kernel
theorem dX4_swear_53 : decode cX4_swear 53 = .ok (.getfield 10, 3) := by decide +kernel
theorem dX4_swear_56 : decode cX4_swear 56 = .ok (.getfield 111, 3) := by decide +kernel
theorem dX4_swear_59 : decode cX4_swear 59 = .ok (.getfield 132, 3) := by decide +kernel
theorem dX4_swear_62 : decode cX4_swear 62 = .ok (.iload_n 1, 1) := by decide +kernel
theorem dX4_swear_63 : decode cX4_swear 63 = .ok (.iload_n 2, 1) := by decide +kernel
theorem dX4_swear_64 : decode cX4_swear 64 = .ok (.iastore, 1) := by decide +kernel
theorem dX4_swear_65 : decode cX4_swear 65 = .ok (.iload_n 3, 1) := by decide +kernel
theorem dX4_swear_66 : decode cX4_swear 66 = .ok (.ireturn, 1) := by decide +kernel
set_option maxRecDepth 20000 in
theorem ggX4_service_X4_isPump : GoodIn wsX4_service wsX4_isPump := goodIn_r _ [12, 5, 6, 13, 14, 15, 16, 17, 18, 77, 78, 79, 80, 81, 82, 83, 84, 85, 86, 87, 88, 89, 90, 91, 92, 93, 94, 95, 96, 97, 98, 99, 100, 101, 102, 103, 104, 105, 106, 107, 108] (by decide +kernel) (by decide +kernel)
set_option maxRecDepth 20000 in
theorem gX4_service_X4_isPump : GoodIn wsX4_service (wsV RX4 125 RX4 yX4_isPump wsX4_isPump) := goodIn_app (goodIn_of _ (by decide +kernel)) ggX4_service_X4_isPump
set_option maxRecDepth 20000 in
theorem ggX4_service_X4_isInService : GoodIn wsX4_service wsX4_isInService := goodIn_r _ [22, 5, 6, 7, 8, 9, 10, 11, 12, 13, 14, 15, 16, 17, 18, 77, 78, 79, 80, 81, 82, 83, 84, 85, 86, 87, 88, 89, 90, 91, 92, 93, 94, 95, 96, 97, 98, 99, 100, 101, 102, 103, 104, 105, 106, 107, 108] (by decide +kernel) (by decide +kernel)
set_option maxRecDepth 20000 in
theorem gX4_service_X4_isInService : GoodIn wsX4_service (wsV RX4 136 RX4 yX4_isInService wsX4_isInService) := goodIn_app (goodIn_of _ (by decide +kernel)) ggX4_service_X4_isInService
set_option maxRecDepth 20000 in
theorem ggX4_service_X4_save : GoodIn wsX4_service wsX4_save := goodIn_r _ [26, 27, 28, 29, 30, 5, 31, 32, 33, 34, 35, 36, 37, 38, 39, 40, 41, 42, 43, 44, 45, 46, 47, 48, 49, 50, 51, 52, 53, 54, 55, 56, 57, 58, 16, 59, 18, 60, 61, 62, 63, 64, 65, 66, 67, 68, 69, 70, 71, 72, 73, 74, 75, 76, 77, 78, 79, 80, 81, 82, 83, 84, 85, 86, 87, 88, 89, 90, 91, 92, 93, 94, 95, 96, 97, 98, 99, 100, 101, 102, 103, 104, 105, 106, 107, 108, 109, 110] (by decide +kernel) (by decide +kernel)
set_option maxRecDepth 20000 in
theorem gX4_service_X4_save : GoodIn wsX4_service (wsV RX4 65 RX4 yX4_save wsX4_save) := goodIn_app (goodIn_of _ (by decide +kernel)) ggX4_service_X4_save
theorem dX4_service_0 : decode cX4_service 0 = .ok (.aload_n 0, 1) := by decide +kernel
theorem dX4_service_1 : decode cX4_service 1 = .ok (.iload_n 1, 1) := by decide +kernel
theorem dX4_service_2 : decode cX4_service 2 = .ok (.invokevirtual 125, 3) := by decide +kernel
theorem dX4_service_5 : decode cX4_service 5 = .ok (.ifCond .ne 13, 3) := by decide +kernel
theorem dX4_service_8 : decode cX4_service 8 = .ok (.new 96, 3) := by decide +kernel
theorem dX4_service_11 : decode cX4_service 11 = .ok (.dup, 1) := by decide +kernel
theorem dX4_service_12 : decode cX4_service 12 = .ok (.ldc 128, 2) := by decide +kernel
theorem dX4_service_14 : decode cX4_service 14 = .ok (.invokespecial 100, 3) := by decide +kernel
theorem dX4_service_17 : decode cX4_service 17 = .ok (.athrow, 1) := by decide +kernel
theorem dX4_service_18 : decode cX4_service 18 = .ok (.aload_n 0, 1) := by decide +kernel
theorem dX4_service_19 : decode cX4_service 19 = .ok (.iload_n 1, 1) := by decide +kernel
theorem dX4_service_20 : decode cX4_service 20 = .ok (.invokevirtual 136, 3) := by decide +kernel
theorem dX4_service_23 : decode cX4_service 23 = .ok (.iload_n 2, 1) := by decide +kernel
theorem dX4_service_24 : decode cX4_service 24 = .ok (.if_icmp .ne 13, 3) := by decide +kernel
theorem dX4_service_27 : decode cX4_service 27 = .ok (.new 60, 3) := by decide +kernel
theorem dX4_service_30 : decode cX4_service 30 = .ok (.dup, 1) := by decide +kernel
theorem dX4_service_31 : decode cX4_service 31 = .ok (.ldc 139, 2) := by decide +kernel
theorem dX4_service_33 : decode cX4_service 33 = .ok (.invokespecial 64, 3) := by decide +kernel
theorem dX4_service_36 : decode cX4_service 36 = .ok (.athrow, 1) := by decide +kernel
theorem dX4_service_37 : decode cX4_service 37 = .ok (.aload_n 0, 1) := by decide +kernel
theorem dX4_service_38 : decode cX4_service 38 = .ok (.invokevirtual 65, 3) := by decide +kernel
theorem dX4_service_41 : decode cX4_service 41 = .ok (.aload_n 0, 1) := by decide +kernel
theorem dX4_service_42 : decode cX4_service 42 = .ok (.getfield 10, 3) := by decide +kernel

theorem dX4_service_45 : decode cX4_service 45 = .ok (.getfield 111, 3) := by decide +kernel
theorem dX4_service_48 : decode cX4_service 48 = .ok (.getfield 141, 3) := by decide +kernel
theorem dX4_service_51 : decode cX4_service 51 = .ok (.iload_n 1, 1) := by decide +kernel
theorem dX4_service_52 : decode cX4_service 52 = .ok (.iaload, 1) := by decide +kernel
theorem dX4_service_53 : decode cX4_service 53 = .ok (.iconst 1, 1) := by decide +kernel
theorem dX4_service_54 : decode cX4_service 54 = .ok (.if_icmp .ne 7, 3) := by decide +kernel
theorem dX4_service_57 : decode cX4_service 57 = .ok (.iconst 1, 1) := by decide +kernel
theorem dX4_service_58 : decode cX4_service 58 = .ok (.goto 4, 3) := by decide +kernel
theorem dX4_service_61 : decode cX4_service 61 = .ok (.iconst 0, 1) := by decide +kernel
theorem dX4_service_62 : decode cX4_service 62 = .ok (.istore_n 3, 1) := by decide +kernel
theorem dX4_service_63 : decode cX4_service 63 = .ok (.aload_n 0, 1) := by decide +kernel
theorem dX4_service_64 : decode cX4_service 64 = .ok (.getfield 10, 3) := by decide +kernel
theorem dX4_service_67 : decode cX4_service 67 = .ok (.getfield 111, 3) := by decide +kernel
theorem dX4_service_70 : decode cX4_service 70 = .ok (.getfield 141, 3) := by decide +kernel
theorem dX4_service_73 : decode cX4_service 73 = .ok (.iload_n 1, 1) := by decide +kernel
theorem dX4_service_74 : decode cX4_service 74 = .ok (.iload_n 2, 1) := by decide +kernel
theorem dX4_service_75 : decode cX4_service 75 = .ok (.ifCond .eq 7, 3) := by decide +kernel
theorem dX4_service_78 : decode cX4_service 78 = .ok (.iconst 0, 1) := by decide +kernel
theorem dX4_service_79 : decode cX4_service 79 = .ok (.goto 4, 3) := by decide +kernel
theorem dX4_service_82 : decode cX4_service 82 = .ok (.iconst 2, 1) := by decide +kernel
theorem dX4_service_83 : decode cX4_service 83 = .ok (.iastore, 1) := by decide +kernel
theorem dX4_service_84 : decode cX4_service 84 = .ok (.iload_n 3, 1) := by decide +kernel
theorem dX4_service_85 : decode cX4_service 85 = .ok (.ireturn, 1) := by decide +kernel
set_option maxRecDepth 20000 in
theorem ggX4_pass_X4_isIn : GoodIn wsX4_pass wsX4_isIn := goodIn_r _ [10] (by decide +kernel) (by decide +kernel)
set_option maxRecDepth 20000 in
theorem gX4_pass_X4_isIn : GoodIn wsX4_pass (va_wsS RX4 43 yX4_isIn wsX4_isIn) := goodIn_app (goodIn_of _ (by decide +kernel)) ggX4_pass_X4_isIn
set_option maxRecDepth 20000 in
theorem ggX4_pass_X4_hasTimeFor : GoodIn wsX4_pass wsX4_hasTimeFor := goodIn_r _ [14, 5, 15, 16, 155, 156, 157, 158, 159, 160, 161, 162, 163, 164, 165, 166, 167, 168, 169, 170, 171, 172, 173, 174, 175, 176, 177] (by decide +kernel) (by decide +kernel)
set_option maxRecDepth 20000 in
theorem gX4_pass_X4_hasTimeFor : GoodIn wsX4_pass (wsV RX4 146 RX4 yX4_hasTimeFor wsX4_hasTimeFor) := goodIn_app (goodIn_of _ (by decide +kernel)) ggX4_pass_X4_hasTimeFor
set_option maxRecDepth 20000 in
theorem ggX4_pass_X4_save : GoodIn wsX4_pass wsX4_save := goodIn_r _ [20, 21, 22, 23, 24, 5, 25, 26, 27, 28, 29, 30, 31, 32, 33, 34, 35, 36, 37, 38, 39, 40, 41, 42, 43, 44, 45, 46, 47, 48, 49, 50, 51, 52, 53, 54, 55, 56, 57, 58, 59, 60, 61, 62, 63, 64, 65, 66, 67, 68, 69, 70, 71, 72, 155, 156, 157, 158, 159, 160, 161, 162, 163, 164, 165, 166, 167, 168, 169, 170, 171, 172, 173, 174, 175, 176, 177, 178, 179, 180, 181, 182, 183, 184, 185, 186, 187, 188] (by decide +kernel) (by decide +kernel)
set_option maxRecDepth 20000 in
theorem gX4_pass_X4_save : GoodIn wsX4_pass (wsV RX4 65 RX4 yX4_save wsX4_save) := goodIn_app (goodIn_of _ (by decide +kernel)) ggX4_pass_X4_save
set_option maxRecDepth 20000 in
theorem ggX4_pass_X3_letPass : GoodIn wsX4_pass wsX3_letPass := goodIn_r _ [76, 77, 78, 79, 29, 80, 35, 39, 48, 32, 33, 37, 40, 38, 81, 82, 83, 84, 47, 85, 86, 87, 53, 88, 55, 61, 89, 90, 91, 92, 34, 41, 36, 49, 93, 94, 95, 96, 97, 59, 98, 99, 100, 101, 60, 102, 103, 104, 105, 106, 107, 108, 109, 110, 111, 112, 113, 114, 115, 116, 117, 118, 58, 119, 120, 121, 122, 123, 124, 125, 126, 62, 64, 127, 128, 129, 130, 68, 131, 71, 72, 43, 44, 45, 70, 132, 133, 134, 135, 31, 136, 137, 138, 139, 140, 141, 142, 143, 144, 145, 146, 63, 56, 147, 148, 149, 150, 151, 152, 153, 154, 46, 163, 164, 165, 166, 167, 168, 169, 170, 171, 172, 173, 174, 175, 176, 177, 178, 179, 180, 181, 182, 183, 184, 185, 186, 187, 188] (by decide +kernel) (by decide +kernel)
set_option maxRecDepth 20000 in
theorem gX4_pass_X3_letPass : GoodIn wsX4_pass (wsV RX4 154 RX3 yX3_letPass wsX3_letPass) := goodIn_app (goodIn_of _ (by decide +kernel)) ggX4_pass_X3_letPass
theorem dX4_pass_0 : decode cX4_pass 0 = .ok (.iload_n 1, 1) := by decide +kernel
theorem dX4_pass_1 : decode cX4_pass 1 = .ok (.iconst 1, 1) := by decide +kernel
theorem dX4_pass_2 : decode cX4_pass 2 = .ok (.sipush 1440, 3) := by decide +kernel
theorem dX4_pass_5 : decode cX4_pass 5 = .ok (.invokestatic 43, 3) := by decide +kernel
theorem dX4_pass_8 : decode cX4_pass 8 = .ok (.ifCond .ne 13, 3) := by decide +kernel
theorem dX4_pass_11 : decode cX4_pass 11 = .ok (.new 47, 3) := by decide +kernel
theorem dX4_pass_14 : decode cX4_pass 14 = .ok (.dup, 1) := by decide +kernel
theorem dX4_pass_15 : decode cX4_pass 15 = .ok (.ldc 144, 2) := by decide +kernel
theorem dX4_pass_17 : decode cX4_pass 17 = .ok (.invokespecial 51, 3) := by decide +kernel
theorem dX4_pass_20 : decode cX4_pass 20 = .ok (.athrow, 1) := by decide +kernel
theorem dX4_pass_21 : decode cX4_pass 21 = .ok (.aload_n 0, 1) := by decide +kernel
theorem dX4_pass_22 : decode cX4_pass 22 = .ok (.iload_n 1, 1) := by decide +kernel
theorem dX4_pass_23 : decode cX4_pass 23 = .ok (.invokevirtual 146, 3) := by decide +kernel
theorem dX4_pass_26 : decode cX4_pass 26 = .ok (.ifCond .ne 13, 3) := by decide +kernel
theorem dX4_pass_29 : decode cX4_pass 29 = .ok (.new 60, 3) := by decide +kernel
theorem dX4_pass_32 : decode cX4_pass 32 = .ok (.dup, 1) := by decide +kernel
theorem dX4_pass_33 : decode cX4_pass 33 = .ok (.ldc 149, 2) := by decide +kernel
theorem dX4_pass_35 : decode cX4_pass 35 = .ok (.invokespecial 64, 3) := by decide +kernel
theorem dX4_pass_38 : decode cX4_pass 38 = .ok (.athrow, 1) := by decide +kernel
theorem dX4_pass_39 : decode cX4_pass 39 = .ok (.aload_n 0, 1) := by decide +kernel
theorem dX4_pass_40 : decode cX4_pass 40 = .ok (.invokevirtual 65, 3) := by decide +kernel
theorem dX4_pass_43 : decode cX4_pass 43 = .ok (.aload_n 0, 1) := by decide +kernel
theorem dX4_pass_44 : decode cX4_pass 44 = .ok (.getfield 10, 3) := by decide +kernel
theorem dX4_pass_47 : decode cX4_pass 47 = .ok (.getfield 151, 3) := by decide +kernel
theorem dX4_pass_50 : decode cX4_pass 50 = .ok (.istore_n 2, 1) := by decide +kernel
theorem dX4_pass_51 : decode cX4_pass 51 = .ok (.aload_n 0, 1) := by decide +kernel
theorem dX4_pass_52 : decode cX4_pass 52 = .ok (.getfield 10, 3) := by decide +kernel
theorem dX4_pass_55 : decode cX4_pass 55 = .ok (.iload_n 1, 1) := by decide +kernel
theorem dX4_pass_56 : decode cX4_pass 56 = .ok (.invokevirtual 154, 3) := by decide +kernel
theorem dX4_pass_59 : decode cX4_pass 59 = .ok (.aload_n 0, 1) := by decide +kernel
theorem dX4_pass_60 : decode cX4_pass 60 = .ok (.getfield 10, 3) := by decide +kernel
theorem dX4_pass_63 : decode cX4_pass 63 = .ok (.getfield 151, 3) := by decide +kernel
theorem dX4_pass_66 : decode cX4_pass 66 = .ok (.iload_n 2, 1) := by decide +kernel
theorem dX4_pass_67 : decode cX4_pass 67 = .ok (.isub, 1) := by decide +kernel
theorem dX4_pass_68 : decode cX4_pass 68 = .ok (.ireturn, 1) := by decide +kernel
set_option maxRecDepth 20000 in
theorem ggX4_pump_X4_isPump : GoodIn wsX4_pump wsX4_isPump := goodIn_r _ [11, 5, 6, 12, 13, 14, 15, 16, 17, 34, 35, 36, 37, 38, 39, 40, 41, 42, 43, 44, 45, 46, 47, 48, 49, 50, 51, 52, 53, 54, 55, 56, 57, 58, 59, 60, 61, 62, 63, 64, 65] (by decide +kernel) (by decide +kernel)
set_option maxRecDepth 20000 in
theorem gX4_pump_X4_isPump : GoodIn wsX4_pump (wsV RX4 125 RX4 yX4_isPump wsX4_isPump) := goodIn_app (goodIn_of _ (by decide +kernel)) ggX4_pump_X4_isPump
set_option maxRecDepth 20000 in
theorem ggX4_pump_X4_isIn : GoodIn wsX4_pump wsX4_isIn := goodIn_r _ [20] (by decide +kernel) (by decide +kernel)
set_option maxRecDepth 20000 in
theorem gX4_pump_X4_isIn : GoodIn wsX4_pump (va_wsS RX4 43 yX4_isIn wsX4_isIn) := goodIn_app (goodIn_of _ (by decide +kernel)) ggX4_pump_X4_isIn
set_option maxRecDepth 20000 in
theorem ggX4_pump_X2_fact : GoodIn wsX4_pump wsX2_fact := goodIn_r _ [24, 25, 26, 27, 28, 29, 30, 31, 32, 33, 13, 14, 15, 16, 17, 57, 58, 59, 60, 61, 62, 63, 64, 65] (by decide +kernel) (by decide +kernel)
set_option maxRecDepth 20000 in
theorem gX4_pump_X2_fact : GoodIn wsX4_pump (wsV RX4 160 RX2 yX2_fact wsX2_fact) := goodIn_app (goodIn_of _ (by decide +kernel)) ggX4_pump_X2_fact
theorem dX4_pump_0 : decode cX4_pump 0 = .ok (.aload_n 0, 1) := by decide +kernel
theorem dX4_pump_1 : decode cX4_pump 1 = .ok (.iload_n 1, 1) := by decide +kernel
theorem dX4_pump_2 : decode cX4_pump 2 = .ok (.invokevirtual 125, 3) := by decide +kernel
theorem dX4_pump_5 : decode cX4_pump 5 = .ok (.ifCond .ne 13, 3) := by decide +kernel
theorem dX4_pump_8 : decode cX4_pump 8 = .ok (.new 96, 3) := by decide +kernel
theorem dX4_pump_11 : decode cX4_pump 11 = .ok (.dup, 1) := by decide +kernel
theorem dX4_pump_12 : decode cX4_pump 12 = .ok (.ldc 128, 2) := by decide +kernel
theorem dX4_pump_14 : decode cX4_pump 14 = .ok (.invokespecial 100, 3) := by decide +kernel
theorem dX4_pump_17 : decode cX4_pump 17 = .ok (.athrow, 1) := by decide +kernel
theorem dX4_pump_18 : decode cX4_pump 18 = .ok (.iload_n 2, 1) := by decide +kernel
theorem dX4_pump_19 : decode cX4_pump 19 = .ok (.iconst 0, 1) := by decide +kernel
theorem dX4_pump_20 : decode cX4_pump 20 = .ok (.bipush 7, 2) := by decide +kernel
theorem dX4_pump_22 : decode cX4_pump 22 = .ok (.invokestatic 43, 3) := by decide +kernel
theorem dX4_pump_25 : decode cX4_pump 25 = .ok (.ifCond .ne 13, 3) := by decide +kernel
theorem dX4_pump_28 : decode cX4_pump 28 = .ok (.new 47, 3) := by decide +kernel
theorem dX4_pump_31 : decode cX4_pump 31 = .ok (.dup, 1) := by decide +kernel
theorem dX4_pump_32 : decode cX4_pump 32 = .ok (.ldc 158, 2) := by decide +kernel
theorem dX4_pump_34 : decode cX4_pump 34 = .ok (.invokespecial 51, 3) := by decide +kernel
theorem dX4_pump_37 : decode cX4_pump 37 = .ok (.athrow, 1) := by decide +kernel
theorem dX4_pump_38 : decode cX4_pump 38 = .ok (.aload_n 0, 1) := by decide +kernel
theorem dX4_pump_39 : decode cX4_pump 39 = .ok (.getfield 10, 3) := by decide +kernel
theorem dX4_pump_42 : decode cX4_pump 42 = .ok (.getfield 111, 3) := by decide +kernel
theorem dX4_pump_45 : decode cX4_pump 45 = .ok (.iload_n 1, 1) := by decide +kernel
theorem dX4_pump_46 : decode cX4_pump 46 = .ok (.iload_n 2, 1) := by decide +kernel
theorem dX4_pump_47 : decode cX4_pump 47 = .ok (.invokevirtual 160, 3) := by decide +kernel
theorem dX4_pump_50 : decode cX4_pump 50 = .ok (.ireturn, 1) := by decide +kernel
set_option maxRecDepth 20000 in
theorem ggX4_demand_X4_isHour : GoodIn wsX4_demand wsX4_isHour := goodIn_r _ [7, 8, 9, 6, 10] (by decide +kernel) (by decide +kernel)
set_option maxRecDepth 20000 in
theorem gX4_demand_X4_isHour : GoodIn wsX4_demand (va_wsS RX4 92 yX4_isHour wsX4_isHour) := goodIn_app (goodIn_of _ (by decide +kernel)) ggX4_demand_X4_isHour
set_option maxRecDepth 20000 in
theorem ggX4_demand_X3_demandAt : GoodIn wsX4_demand wsX3_demandAt := goodIn_r _ [15, 16, 25, 26, 27, 28, 29, 30, 31, 32, 33, 34, 35, 36, 37, 38, 39] (by decide +kernel) (by decide +kernel)
set_option maxRecDepth 20000 in
theorem gX4_demand_X3_demandAt : GoodIn wsX4_demand (wsV RX4 163 RX3 yX3_demandAt wsX3_demandAt) := goodIn_app (goodIn_of _ (by decide +kernel)) ggX4_demand_X3_demandAt
theorem dX4_demand_0 : decode cX4_demand 0 = .ok (.iload_n 1, 1) := by decide +kernel
theorem dX4_demand_1 : decode cX4_demand 1 = .ok (.invokestatic 92, 3) := by decide +kernel
theorem dX4_demand_4 : decode cX4_demand 4 = .ok (.ifCond .ne 13, 3) := by decide +kernel
theorem dX4_demand_7 : decode cX4_demand 7 = .ok (.new 96, 3) := by decide +kernel
theorem dX4_demand_10 : decode cX4_demand 10 = .ok (.dup, 1) := by decide +kernel
theorem dX4_demand_11 : decode cX4_demand 11 = .ok (.ldc 98, 2) := by decide +kernel
theorem dX4_demand_13 : decode cX4_demand 13 = .ok (.invokespecial 100, 3) := by decide +kernel
theorem dX4_demand_16 : decode cX4_demand 16 = .ok (.athrow, 1) := by decide +kernel
theorem dX4_demand_17 : decode cX4_demand 17 = .ok (.aload_n 0, 1) := by decide +kernel
theorem dX4_demand_18 : decode cX4_demand 18 = .ok (.getfield 10, 3) := by decide +kernel
theorem dX4_demand_21 : decode cX4_demand 21 = .ok (.iload_n 1, 1) := by decide +kernel
theorem dX4_demand_22 : decode cX4_demand 22 = .ok (.invokevirtual 163, 3) := by decide +kernel
theorem dX4_demand_25 : decode cX4_demand 25 = .ok (.ireturn, 1) := by decide +kernel
set_option maxRecDepth 20000 in
theorem ggX4_value_X4_isIn : GoodIn wsX4_value wsX4_isIn := goodIn_r _ [7] (by decide +kernel) (by decide +kernel)
set_option maxRecDepth 20000 in
theorem gX4_value_X4_isIn : GoodIn wsX4_value (va_wsS RX4 43 yX4_isIn wsX4_isIn) := goodIn_app (goodIn_of _ (by decide +kernel)) ggX4_value_X4_isIn
set_option maxRecDepth 20000 in
theorem ggX4_value_X3_numberAt : GoodIn wsX4_value wsX3_numberAt := goodIn_r _ [12, 13, 14, 15, 16, 17, 18, 19, 20, 21, 22, 23, 24, 25, 26, 27, 28, 29, 30, 31, 32, 33, 34, 11, 35, 36, 37, 38, 39, 40, 49, 50, 51, 52, 53, 54, 55, 56, 57, 58, 59, 60, 61, 62, 63, 64, 65, 66, 67, 68, 69, 70, 71, 72, 73, 74] (by decide +kernel) (by decide +kernel)
set_option maxRecDepth 20000 in
theorem gX4_value_X3_numberAt : GoodIn wsX4_value (wsV RX4 167 RX3 yX3_numberAt wsX3_numberAt) := goodIn_app (goodIn_of _ (by decide +kernel)) ggX4_value_X3_numberAt
theorem dX4_value_0 : decode cX4_value 0 = .ok (.iload_n 1, 1) := by decide +kernel
theorem dX4_value_1 : decode cX4_value 1 = .ok (.iconst 0, 1) := by decide +kernel
theorem dX4_value_2 : decode cX4_value 2 = .ok (.bipush 13, 2) := by decide +kernel
theorem dX4_value_4 : decode cX4_value 4 = .ok (.invokestatic 43, 3) := by decide +kernel
theorem dX4_value_7 : decode cX4_value 7 = .ok (.ifCond .ne 13, 3) := by decide +kernel
theorem dX4_value_10 : decode cX4_value 10 = .ok (.new 47, 3) := by decide +kernel
theorem dX4_value_13 : decode cX4_value 13 = .ok (.dup, 1) := by decide +kernel
theorem dX4_value_14 : decode cX4_value 14 = .ok (.ldc 158, 2) := by decide +kernel
theorem dX4_value_16 : decode cX4_value 16 = .ok (.invokespecial 51, 3) := by decide +kernel
theorem dX4_value_19 : decode cX4_value 19 = .ok (.athrow, 1) := by decide +kernel
theorem dX4_value_20 : decode cX4_value 20 = .ok (.aload_n 0, 1) := by decide +kernel
theorem dX4_value_21 : decode cX4_value 21 = .ok (.getfield 10, 3) := by decide +kernel
theorem dX4_value_24 : decode cX4_value 24 = .ok (.iload_n 1, 1) := by decide +kernel
theorem dX4_value_25 : decode cX4_value 25 = .ok (.invokevirtual 167, 3) := by decide +kernel
theorem dX4_value_28 : decode cX4_value 28 = .ok (.ireturn, 1) := by decide +kernel
set_option maxRecDepth 20000 in
theorem ggX4_setting_X4_isIn : GoodIn wsX4_setting wsX4_isIn := goodIn_r _ [7] (by decide +kernel) (by decide +kernel)
set_option maxRecDepth 20000 in
theorem gX4_setting_X4_isIn : GoodIn wsX4_setting (va_wsS RX4 43 yX4_isIn wsX4_isIn) := goodIn_app (goodIn_of _ (by decide +kernel)) ggX4_setting_X4_isIn
set_option maxRecDepth 20000 in
theorem ggX4_setting_X3_settingAt : GoodIn wsX4_setting wsX3_settingAt := goodIn_r _ [12, 13, 22, 23, 24, 25, 26, 27, 28, 29, 30, 31, 32, 33, 34, 35, 36] (by decide +kernel) (by decide +kernel)
set_option maxRecDepth 20000 in
theorem gX4_setting_X3_settingAt : GoodIn wsX4_setting (wsV RX4 170 RX3 yX3_settingAt wsX3_settingAt) := goodIn_app (goodIn_of _ (by decide +kernel)) ggX4_setting_X3_settingAt
theorem dX4_setting_0 : decode cX4_setting 0 = .ok (.iload_n 1, 1) := by decide +kernel
theorem dX4_setting_1 : decode cX4_setting 1 = .ok (.iconst 0, 1) := by decide +kernel
theorem dX4_setting_2 : decode cX4_setting 2 = .ok (.iconst 2, 1) := by decide +kernel
theorem dX4_setting_3 : decode cX4_setting 3 = .ok (.invokestatic 43, 3) := by decide +kernel
theorem dX4_setting_6 : decode cX4_setting 6 = .ok (.ifCond .ne 13, 3) := by decide +kernel
theorem dX4_setting_9 : decode cX4_setting 9 = .ok (.new 47, 3) := by decide +kernel
theorem dX4_setting_12 : decode cX4_setting 12 = .ok (.dup, 1) := by decide +kernel
theorem dX4_setting_13 : decode cX4_setting 13 = .ok (.ldc 158, 2) := by decide +kernel
theorem dX4_setting_15 : decode cX4_setting 15 = .ok (.invokespecial 51, 3) := by decide +kernel
theorem dX4_setting_18 : decode cX4_setting 18 = .ok (.athrow, 1) := by decide +kernel
theorem dX4_setting_19 : decode cX4_setting 19 = .ok (.aload_n 0, 1) := by decide +kernel
theorem dX4_setting_20 : decode cX4_setting 20 = .ok (.getfield 10, 3) := by decide +kernel
theorem dX4_setting_23 : decode cX4_setting 23 = .ok (.iload_n 1, 1) := by decide +kernel
theorem dX4_setting_24 : decode cX4_setting 24 = .ok (.invokevirtual 170, 3) := by decide +kernel
theorem dX4_setting_27 : decode cX4_setting 27 = .ok (.ireturn, 1) := by decide +kernel
set_option maxRecDepth 20000 in
theorem ggX4_water_X4_isIn : GoodIn wsX4_water wsX4_isIn := goodIn_r _ [7] (by decide +kernel) (by decide +kernel)
set_option maxRecDepth 20000 in
theorem gX4_water_X4_isIn : GoodIn wsX4_water (va_wsS RX4 43 yX4_isIn wsX4_isIn) := goodIn_app (goodIn_of _ (by decide +kernel)) ggX4_water_X4_isIn
set_option maxRecDepth 20000 in
theorem ggX4_water_X3_waterAt : GoodIn wsX4_water wsX3_waterAt := goodIn_r _ [12, 13, 22, 23, 24, 25, 26, 27, 28, 29, 30, 31, 32, 33, 34, 35, 36] (by decide +kernel) (by decide +kernel)
set_option maxRecDepth 20000 in
theorem gX4_water_X3_waterAt : GoodIn wsX4_water (wsV RX4 173 RX3 yX3_waterAt wsX3_waterAt) := goodIn_app (goodIn_of _ (by decide +kernel)) ggX4_water_X3_waterAt
theorem dX4_water_0 : decode cX4_water 0 = .ok (.iload_n 1, 1) := by decide +kernel
theorem dX4_water_1 : decode cX4_water 1 = .ok (.iconst 0, 1) := by decide +kernel
theorem dX4_water_2 : decode cX4_water 2 = .ok (.iconst 4, 1) := by decide +kernel
theorem dX4_water_3 : decode cX4_water 3 = .ok (.invokestatic 43, 3) := by decide +kernel
theorem dX4_water_6 : decode cX4_water 6 = .ok (.ifCond .ne 13, 3) := by decide +kernel
theorem dX4_water_9 : decode cX4_water 9 = .ok (.new 47, 3) := by decide +kernel
theorem dX4_water_12 : decode cX4_water 12 = .ok (.dup, 1) := by decide +kernel
theorem dX4_water_13 : decode cX4_water 13 = .ok (.ldc 158, 2) := by decide +kernel
theorem dX4_water_15 : decode cX4_water 15 = .ok (.invokespecial 51, 3) := by decide +kernel
theorem dX4_water_18 : decode cX4_water 18 = .ok (.athrow, 1) := by decide +kernel
theorem dX4_water_19 : decode cX4_water 19 = .ok (.aload_n 0, 1) := by decide +kernel
theorem dX4_water_20 : decode cX4_water 20 = .ok (.getfield 10, 3) := by decide +kernel
theorem dX4_water_23 : decode cX4_water 23 = .ok (.iload_n 1, 1) := by decide +kernel
theorem dX4_water_24 : decode cX4_water 24 = .ok (.invokevirtual 173, 3) := by decide +kernel
theorem dX4_water_27 : decode cX4_water 27 = .ok (.lreturn, 1) := by decide +kernel
set_option maxRecDepth 20000 in
theorem ggX4_entry_X4_isIn : GoodIn wsX4_entry wsX4_isIn := goodIn_r _ [11] (by decide +kernel) (by decide +kernel)
set_option maxRecDepth 20000 in
theorem gX4_entry_X4_isIn : GoodIn wsX4_entry (va_wsS RX4 43 yX4_isIn wsX4_isIn) := goodIn_app (goodIn_of _ (by decide +kernel)) ggX4_entry_X4_isIn
set_option maxRecDepth 20000 in
theorem ggX4_entry_X0_part : GoodIn wsX4_entry wsX0_part := goodIn_r _ [16, 17, 41, 42] (by decide +kernel) (by decide +kernel)
set_option maxRecDepth 20000 in
theorem gX4_entry_X0_part : GoodIn wsX4_entry (wsV RX4 195 RX0 yX0_part wsX0_part) := goodIn_app (goodIn_of _ (by decide +kernel)) ggX4_entry_X0_part
theorem dX4_entry_0 : decode cX4_entry 0 = .ok (.iload_n 1, 1) := by decide +kernel
theorem dX4_entry_1 : decode cX4_entry 1 = .ok (.iconst 0, 1) := by decide +kernel
theorem dX4_entry_2 : decode cX4_entry 2 = .ok (.aload_n 0, 1) := by decide +kernel
theorem dX4_entry_3 : decode cX4_entry 3 = .ok (.getfield 10, 3) := by decide +kernel
theorem dX4_entry_6 : decode cX4_entry 6 = .ok (.getfield 186, 3) := by decide +kernel
theorem dX4_entry_9 : decode cX4_entry 9 = .ok (.getfield 190, 3) := by decide +kernel
theorem dX4_entry_12 : decode cX4_entry 12 = .ok (.iconst 1, 1) := by decide +kernel
theorem dX4_entry_13 : decode cX4_entry 13 = .ok (.isub, 1) := by decide +kernel
theorem dX4_entry_14 : decode cX4_entry 14 = .ok (.invokestatic 43, 3) := by decide +kernel
theorem dX4_entry_17 : decode cX4_entry 17 = .ok (.ifCond .ne 13, 3) := by decide +kernel
theorem dX4_entry_20 : decode cX4_entry 20 = .ok (.new 96, 3) := by decide +kernel
theorem dX4_entry_23 : decode cX4_entry 23 = .ok (.dup, 1) := by decide +kernel
theorem dX4_entry_24 : decode cX4_entry 24 = .ok (.ldc 193, 2) := by decide +kernel
theorem dX4_entry_26 : decode cX4_entry 26 = .ok (.invokespecial 100, 3) := by decide +kernel
theorem dX4_entry_29 : decode cX4_entry 29 = .ok (.athrow, 1) := by decide +kernel
theorem dX4_entry_30 : decode cX4_entry 30 = .ok (.iload_n 2, 1) := by decide +kernel
theorem dX4_entry_31 : decode cX4_entry 31 = .ok (.iconst 0, 1) := by decide +kernel
theorem dX4_entry_32 : decode cX4_entry 32 = .ok (.iconst 2, 1) := by decide +kernel
theorem dX4_entry_33 : decode cX4_entry 33 = .ok (.invokestatic 43, 3) := by decide +kernel
theorem dX4_entry_36 : decode cX4_entry 36 = .ok (.ifCond .ne 13, 3) := by decide +kernel
theorem dX4_entry_39 : decode cX4_entry 39 = .ok (.new 47, 3) := by decide +kernel
theorem dX4_entry_42 : decode cX4_entry 42 = .ok (.dup, 1) := by decide +kernel
theorem dX4_entry_43 : decode cX4_entry 43 = .ok (.ldc 158, 2) := by decide +kernel
theorem dX4_entry_45 : decode cX4_entry 45 = .ok (.invokespecial 51, 3) := by decide +kernel
theorem dX4_entry_48 : decode cX4_entry 48 = .ok (.athrow, 1) := by decide +kernel
theorem dX4_entry_49 : decode cX4_entry 49 = .ok (.aload_n 0, 1) := by decide +kernel
theorem dX4_entry_50 : decode cX4_entry 50 = .ok (.getfield 10, 3) := by decide +kernel
theorem dX4_entry_53 : decode cX4_entry 53 = .ok (.getfield 186, 3) := by decide +kernel
theorem dX4_entry_56 : decode cX4_entry 56 = .ok (.iload_n 1, 1) := by decide +kernel
theorem dX4_entry_57 : decode cX4_entry 57 = .ok (.iload_n 2, 1) := by decide +kernel
theorem dX4_entry_58 : decode cX4_entry 58 = .ok (.invokevirtual 195, 3) := by decide +kernel
theorem dX4_entry_61 : decode cX4_entry 61 = .ok (.ireturn, 1) := by decide +kernel
set_option maxRecDepth 20000 in
theorem ggX4_honesty_X2_allStarts : GoodIn wsX4_honesty wsX2_allStarts := goodIn_r _ [8, 9, 10, 34, 35, 36, 37, 38, 39, 40, 41, 42] (by decide +kernel) (by decide +kernel)
set_option maxRecDepth 20000 in
theorem gX4_honesty_X2_allStarts : GoodIn wsX4_honesty (wsV RX4 215 RX2 yX2_allStarts wsX2_allStarts) := goodIn_app (goodIn_of _ (by decide +kernel)) ggX4_honesty_X2_allStarts
theorem dX4_honesty_0 : decode cX4_honesty 0 = .ok (.aload_n 0, 1) := by decide +kernel
theorem dX4_honesty_1 : decode cX4_honesty 1 = .ok (.getfield 10, 3) := by decide +kernel
theorem dX4_honesty_4 : decode cX4_honesty 4 = .ok (.getfield 111, 3) := by decide +kernel
theorem dX4_honesty_7 : decode cX4_honesty 7 = .ok (.invokevirtual 215, 3) := by decide +kernel
theorem dX4_honesty_10 : decode cX4_honesty 10 = .ok (.istore_n 1, 1) := by decide +kernel
theorem dX4_honesty_11 : decode cX4_honesty 11 = .ok (.iload_n 1, 1) := by decide +kernel
theorem dX4_honesty_12 : decode cX4_honesty 12 = .ok (.ifCond .ne 5, 3) := by decide +kernel
theorem dX4_honesty_15 : decode cX4_honesty 15 = .ok (.dconst 1, 1) := by decide +kernel
theorem dX4_honesty_16 : decode cX4_honesty 16 = .ok (.dreturn, 1) := by decide +kernel
theorem dX4_honesty_17 : decode cX4_honesty 17 = .ok (.iload_n 1, 1) := by decide +kernel
theorem dX4_honesty_18 : decode cX4_honesty 18 = .ok (.aload_n 0, 1) := by decide +kernel
theorem dX4_honesty_19 : decode cX4_honesty 19 = .ok (.getfield 10, 3) := by decide +kernel
theorem dX4_honesty_22 : decode cX4_honesty 22 = .ok (.getfield 151, 3) := by decide +kernel
theorem dX4_honesty_25 : decode cX4_honesty 25 = .ok (.isub, 1) := by decide +kernel
theorem dX4_honesty_26 : decode cX4_honesty 26 = .ok (.i2d, 1) := by decide +kernel
theorem dX4_honesty_27 : decode cX4_honesty 27 = .ok (.iload_n 1, 1) := by decide +kernel
theorem dX4_honesty_28 : decode cX4_honesty 28 = .ok (.i2d, 1) := by decide +kernel
theorem dX4_honesty_29 : decode cX4_honesty 29 = .ok (.ddiv, 1) := by decide +kernel
theorem dX4_honesty_30 : decode cX4_honesty 30 = .ok (.dreturn, 1) := by decide +kernel
set_option maxRecDepth 20000 in
theorem ggX4_undo_X3_become : GoodIn wsX4_undo wsX3_become := goodIn_r _ [13, 14, 15, 16, 17, 18, 19, 20, 21, 22, 23, 24, 25, 26, 27, 28, 29, 30, 31, 32, 33, 34, 35, 36, 37, 38, 39, 40, 41, 42, 43, 44, 45, 46, 47, 48, 49, 50, 51, 52, 53, 54, 55, 64, 65, 66, 67, 68, 69, 70, 71, 72, 73, 74, 75, 76, 77, 78, 79, 80, 81, 82, 83, 84, 85, 86, 87, 88, 89] (by decide +kernel) (by decide +kernel)
set_option maxRecDepth 20000 in
theorem gX4_undo_X3_become : GoodIn wsX4_undo (wsV RX4 198 RX3 yX3_become wsX3_become) := goodIn_app (goodIn_of _ (by decide +kernel)) ggX4_undo_X3_become
theorem dX4_undo_0 : decode cX4_undo 0 = .ok (.aload_n 0, 1) := by decide +kernel
theorem dX4_undo_1 : decode cX4_undo 1 = .ok (.getfield 38, 3) := by decide +kernel
theorem dX4_undo_4 : decode cX4_undo 4 = .ok (.ifCond .ne 13, 3) := by decide +kernel
theorem dX4_undo_7 : decode cX4_undo 7 = .ok (.new 60, 3) := by decide +kernel
theorem dX4_undo_10 : decode cX4_undo 10 = .ok (.dup, 1) := by decide +kernel
theorem dX4_undo_11 : decode cX4_undo 11 = .ok (.ldc 237, 2) := by decide +kernel
theorem dX4_undo_13 : decode cX4_undo 13 = .ok (.invokespecial 64, 3) := by decide +kernel
theorem dX4_undo_16 : decode cX4_undo 16 = .ok (.athrow, 1) := by decide +kernel
theorem dX4_undo_17 : decode cX4_undo 17 = .ok (.aload_n 0, 1) := by decide +kernel
theorem dX4_undo_18 : decode cX4_undo 18 = .ok (.getfield 10, 3) := by decide +kernel
theorem dX4_undo_21 : decode cX4_undo 21 = .ok (.aload_n 0, 1) := by decide +kernel
theorem dX4_undo_22 : decode cX4_undo 22 = .ok (.getfield 19, 3) := by decide +kernel
theorem dX4_undo_25 : decode cX4_undo 25 = .ok (.invokevirtual 198, 3) := by decide +kernel
theorem dX4_undo_28 : decode cX4_undo 28 = .ok (.aload_n 0, 1) := by decide +kernel
theorem dX4_undo_29 : decode cX4_undo 29 = .ok (.getfield 19, 3) := by decide +kernel
theorem dX4_undo_32 : decode cX4_undo 32 = .ok (.aload_n 0, 1) := by decide +kernel
theorem dX4_undo_33 : decode cX4_undo 33 = .ok (.getfield 22, 3) := by decide +kernel
theorem dX4_undo_36 : decode cX4_undo 36 = .ok (.invokevirtual 198, 3) := by decide +kernel
theorem dX4_undo_39 : decode cX4_undo 39 = .ok (.aload_n 0, 1) := by decide +kernel
theorem dX4_undo_40 : decode cX4_undo 40 = .ok (.getfield 22, 3) := by decide +kernel
theorem dX4_undo_43 : decode cX4_undo 43 = .ok (.aload_n 0, 1) := by decide +kernel
theorem dX4_undo_44 : decode cX4_undo 44 = .ok (.getfield 25, 3) := by decide +kernel
theorem dX4_undo_47 : decode cX4_undo 47 = .ok (.invokevirtual 198, 3) := by decide +kernel
theorem dX4_undo_50 : decode cX4_undo 50 = .ok (.aload_n 0, 1) := by decide +kernel
theorem dX4_undo_51 : decode cX4_undo 51 = .ok (.getfield 25, 3) := by decide +kernel
theorem dX4_undo_54 : decode cX4_undo 54 = .ok (.aload_n 0, 1) := by decide +kernel
theorem dX4_undo_55 : decode cX4_undo 55 = .ok (.getfield 28, 3) := by decide +kernel
theorem dX4_undo_58 : decode cX4_undo 58 = .ok (.invokevirtual 198, 3) := by decide +kernel
theorem dX4_undo_61 : decode cX4_undo 61 = .ok (.aload_n 0, 1) := by decide +kernel
theorem dX4_undo_62 : decode cX4_undo 62 = .ok (.dup, 1) := by decide +kernel
theorem dX4_undo_63 : decode cX4_undo 63 = .ok (.getfield 38, 3) := by decide +kernel
theorem dX4_undo_66 : decode cX4_undo 66 = .ok (.iconst 1, 1) := by decide +kernel
theorem dX4_undo_67 : decode cX4_undo 67 = .ok (.isub, 1) := by decide +kernel
theorem dX4_undo_68 : decode cX4_undo 68 = .ok (.putfield 38, 3) := by decide +kernel
theorem dX4_undo_71 : decode cX4_undo 71 = .ok (.aload_n 0, 1) := by decide +kernel
theorem dX4_undo_72 : decode cX4_undo 72 = .ok (.getfield 38, 3) := by decide +kernel
theorem dX4_undo_75 : decode cX4_undo 75 = .ok (.ireturn, 1) := by decide +kernel
set_option maxRecDepth 20000 in
theorem ggX4_digest_X3_digestOnto : GoodIn wsX4_digest wsX3_digestOnto := goodIn_r _ [11, 12, 13, 14, 15, 16, 17, 18, 19, 20, 21, 10, 22, 23, 24, 25, 26, 27, 28, 29, 30, 31, 32, 33, 34, 35, 36, 37, 38, 39, 40, 41, 42, 43, 44, 45, 46, 47, 48, 49, 50, 51, 52, 53, 54, 55, 56, 57, 58, 59, 60, 61, 62, 63, 64, 65, 66, 67, 68, 69, 70, 71, 72, 73, 74, 75, 90, 91, 92, 93, 94, 95, 96, 97, 98, 99, 100, 101, 102, 103, 104, 105, 106, 107, 108, 109, 110, 111, 112, 113, 114, 115] (by decide +kernel) (by decide +kernel)
set_option maxRecDepth 20000 in
theorem gX4_digest_X3_digestOnto : GoodIn wsX4_digest (wsV RX4 241 RX3 yX3_digestOnto wsX3_digestOnto) := goodIn_app (goodIn_of _ (by decide +kernel)) ggX4_digest_X3_digestOnto
theorem dX4_digest_0 : decode cX4_digest 0 = .ok (.ldc2_w 239, 3) := by decide +kernel
theorem dX4_digest_3 : decode cX4_digest 3 = .ok (.aload_n 0, 1) := by decide +kernel
theorem dX4_digest_4 : decode cX4_digest 4 = .ok (.getfield 34, 3) := by decide +kernel
theorem dX4_digest_7 : decode cX4_digest 7 = .ok (.getfield 220, 3) := by decide +kernel
theorem dX4_digest_10 : decode cX4_digest 10 = .ok (.i2l, 1) := by decide +kernel
theorem dX4_digest_11 : decode cX4_digest 11 = .ok (.ladd, 1) := by decide +kernel
theorem dX4_digest_12 : decode cX4_digest 12 = .ok (.lstore_n 1, 1) := by decide +kernel
theorem dX4_digest_13 : decode cX4_digest 13 = .ok (.aload_n 0, 1) := by decide +kernel
theorem dX4_digest_14 : decode cX4_digest 14 = .ok (.getfield 10, 3) := by decide +kernel
theorem dX4_digest_17 : decode cX4_digest 17 = .ok (.lload_n 1, 1) := by decide +kernel
theorem dX4_digest_18 : decode cX4_digest 18 = .ok (.invokevirtual 241, 3) := by decide +kernel
theorem dX4_digest_21 : decode cX4_digest 21 = .ok (.lstore_n 1, 1) := by decide +kernel
theorem dX4_digest_22 : decode cX4_digest 22 = .ok (.ldc2_w 245, 3) := by decide +kernel
theorem dX4_digest_25 : decode cX4_digest 25 = .ok (.lload_n 1, 1) := by decide +kernel
theorem dX4_digest_26 : decode cX4_digest 26 = .ok (.lmul, 1) := by decide +kernel
theorem dX4_digest_27 : decode cX4_digest 27 = .ok (.aload_n 0, 1) := by decide +kernel
theorem dX4_digest_28 : decode cX4_digest 28 = .ok (.getfield 38, 3) := by decide +kernel
theorem dX4_digest_31 : decode cX4_digest 31 = .ok (.i2l, 1) := by decide +kernel
theorem dX4_digest_32 : decode cX4_digest 32 = .ok (.ladd, 1) := by decide +kernel
theorem dX4_digest_33 : decode cX4_digest 33 = .ok (.lreturn, 1) := by decide +kernel
set_option maxRecDepth 20000 in
theorem ggX4_save_X3_become : GoodIn wsX4_save wsX3_become := goodIn_r _ [11, 12, 13, 14, 15, 16, 17, 18, 19, 20, 21, 22, 23, 24, 25, 26, 27, 28, 29, 30, 31, 32, 33, 34, 35, 36, 37, 38, 39, 40, 41, 42, 43, 44, 45, 46, 47, 48, 49, 50, 51, 52, 53, 62, 63, 64, 65, 66, 67, 68, 69, 70, 71, 72, 73, 74, 75, 76, 77, 78, 79, 80, 81, 82, 83, 84, 85, 86, 87] (by decide +kernel) (by decide +kernel)
set_option maxRecDepth 20000 in
theorem gX4_save_X3_become : GoodIn wsX4_save (wsV RX4 198 RX3 yX3_become wsX3_become) := goodIn_app (goodIn_of _ (by decide +kernel)) ggX4_save_X3_become
theorem dX4_save_0 : decode cX4_save 0 = .ok (.aload_n 0, 1) := by decide +kernel
theorem dX4_save_1 : decode cX4_save 1 = .ok (.getfield 28, 3) := by decide +kernel
theorem dX4_save_4 : decode cX4_save 4 = .ok (.aload_n 0, 1) := by decide +kernel
theorem dX4_save_5 : decode cX4_save 5 = .ok (.getfield 25, 3) := by decide +kernel
theorem dX4_save_8 : decode cX4_save 8 = .ok (.invokevirtual 198, 3) := by decide +kernel
theorem dX4_save_11 : decode cX4_save 11 = .ok (.aload_n 0, 1) := by decide +kernel
theorem dX4_save_12 : decode cX4_save 12 = .ok (.getfield 25, 3) := by decide +kernel
theorem dX4_save_15 : decode cX4_save 15 = .ok (.aload_n 0, 1) := by decide +kernel
theorem dX4_save_16 : decode cX4_save 16 = .ok (.getfield 22, 3) := by decide +kernel
theorem dX4_save_19 : decode cX4_save 19 = .ok (.invokevirtual 198, 3) := by decide +kernel
theorem dX4_save_22 : decode cX4_save 22 = .ok (.aload_n 0, 1) := by decide +kernel
theorem dX4_save_23 : decode cX4_save 23 = .ok (.getfield 22, 3) := by decide +kernel
theorem dX4_save_26 : decode cX4_save 26 = .ok (.aload_n 0, 1) := by decide +kernel
theorem dX4_save_27 : decode cX4_save 27 = .ok (.getfield 19, 3) := by decide +kernel
theorem dX4_save_30 : decode cX4_save 30 = .ok (.invokevirtual 198, 3) := by decide +kernel
theorem dX4_save_33 : decode cX4_save 33 = .ok (.aload_n 0, 1) := by decide +kernel
theorem dX4_save_34 : decode cX4_save 34 = .ok (.getfield 19, 3) := by decide +kernel
theorem dX4_save_37 : decode cX4_save 37 = .ok (.aload_n 0, 1) := by decide +kernel
theorem dX4_save_38 : decode cX4_save 38 = .ok (.getfield 10, 3) := by decide +kernel
theorem dX4_save_41 : decode cX4_save 41 = .ok (.invokevirtual 198, 3) := by decide +kernel
theorem dX4_save_44 : decode cX4_save 44 = .ok (.aload_n 0, 1) := by decide +kernel
theorem dX4_save_45 : decode cX4_save 45 = .ok (.getfield 38, 3) := by decide +kernel
theorem dX4_save_48 : decode cX4_save 48 = .ok (.iconst 4, 1) := by decide +kernel
theorem dX4_save_49 : decode cX4_save 49 = .ok (.if_icmp .ge 13, 3) := by decide +kernel
theorem dX4_save_52 : decode cX4_save 52 = .ok (.aload_n 0, 1) := by decide +kernel
theorem dX4_save_53 : decode cX4_save 53 = .ok (.dup, 1) := by decide +kernel
theorem dX4_save_54 : decode cX4_save 54 = .ok (.getfield 38, 3) := by decide +kernel
theorem dX4_save_57 : decode cX4_save 57 = .ok (.iconst 1, 1) := by decide +kernel
theorem dX4_save_58 : decode cX4_save 58 = .ok (.iadd, 1) := by decide +kernel
theorem dX4_save_59 : decode cX4_save 59 = .ok (.putfield 38, 3) := by decide +kernel
theorem dX4_save_62 : decode cX4_save 62 = .ok (.return_, 1) := by decide +kernel
theorem dX4_isIn_0 : decode cX4_isIn 0 = .ok (.iload_n 0, 1) := by decide +kernel
theorem dX4_isIn_1 : decode cX4_isIn 1 = .ok (.iload_n 1, 1) := by decide +kernel
theorem dX4_isIn_2 : decode cX4_isIn 2 = .ok (.if_icmp .lt 12, 3) := by decide +kernel
theorem dX4_isIn_5 : decode cX4_isIn 5 = .ok (.iload_n 0, 1) := by decide +kernel
theorem dX4_isIn_6 : decode cX4_isIn 6 = .ok (.iload_n 2, 1) := by decide +kernel
theorem dX4_isIn_7 : decode cX4_isIn 7 = .ok (.if_icmp .gt 7, 3) := by decide +kernel
theorem dX4_isIn_10 : decode cX4_isIn 10 = .ok (.iconst 1, 1) := by decide +kernel

theorem dX3_init_73 : decode cX3_init 73 = .ok (.putfield 45, 3) := by decide +kernel
theorem dX3_init_76 : decode cX3_init 76 = .ok (.aload_n 0, 1) := by decide +kernel
theorem dX3_init_77 : decode cX3_init 77 = .ok (.getfield 24, 3) := by decide +kernel
theorem dX3_init_80 : decode cX3_init 80 = .ok (.iconst 0, 1) := by decide +kernel
theorem dX3_init_81 : decode cX3_init 81 = .ok (.sipush 500, 3) := by decide +kernel
theorem dX3_init_84 : decode cX3_init 84 = .ok (.iastore, 1) := by decide +kernel
theorem dX3_init_85 : decode cX3_init 85 = .ok (.aload_n 0, 1) := by decide +kernel
theorem dX3_init_86 : decode cX3_init 86 = .ok (.getfield 24, 3) := by decide +kernel
theorem dX3_init_89 : decode cX3_init 89 = .ok (.iconst 2, 1) := by decide +kernel
theorem dX3_init_90 : decode cX3_init 90 = .ok (.iconst 1, 1) := by decide +kernel
theorem dX3_init_91 : decode cX3_init 91 = .ok (.iastore, 1) := by decide +kernel
theorem dX3_init_92 : decode cX3_init 92 = .ok (.iconst 0, 1) := by decide +kernel
theorem dX3_init_93 : decode cX3_init 93 = .ok (.istore_n 1, 1) := by decide +kernel
theorem dX3_init_94 : decode cX3_init 94 = .ok (.iload_n 1, 1) := by decide +kernel
theorem dX3_init_95 : decode cX3_init 95 = .ok (.bipush 24, 2) := by decide +kernel
theorem dX3_init_97 : decode cX3_init 97 = .ok (.if_icmp .ge 17, 3) := by decide +kernel
theorem dX3_init_100 : decode cX3_init 100 = .ok (.aload_n 0, 1) := by decide +kernel
theorem dX3_init_101 : decode cX3_init 101 = .ok (.getfield 28, 3) := by decide +kernel
theorem dX3_init_104 : decode cX3_init 104 = .ok (.iload_n 1, 1) := by decide +kernel
theorem dX3_init_105 : decode cX3_init 105 = .ok (.bipush 20, 2) := by decide +kernel
theorem dX3_init_107 : decode cX3_init 107 = .ok (.iastore, 1) := by decide +kernel
theorem dX3_init_108 : decode cX3_init 108 = .ok (.iinc 1 1, 3) := by decide +kernel
theorem dX3_init_111 : decode cX3_init 111 = .ok (.goto (-17), 3) := by decide +kernel
theorem dX3_init_114 : decode cX3_init 114 = .ok (.return_, 1) := by decide +kernel
set_option maxRecDepth 20000 in
theorem ggX3_become_X2_become : GoodIn wsX3_become wsX2_become := goodIn_r _ [24, 25, 26, 27, 13, 14, 15, 28, 29, 30, 31, 32, 33, 34, 58, 59, 60, 61, 62, 63, 64, 65, 66] (by decide +kernel) (by decide +kernel)
set_option maxRecDepth 20000 in
theorem gX3_become_X2_become : GoodIn wsX3_become (wsV RX3 74 RX2 yX2_become wsX2_become) := goodIn_app (goodIn_of _ (by decide +kernel)) ggX3_become_X2_become
set_option maxRecDepth 20000 in
theorem ggX3_become_X0_become : GoodIn wsX3_become wsX0_become := goodIn_r _ [39, 40, 41, 42, 13, 14, 15, 67, 68] (by decide +kernel) (by decide +kernel)
set_option maxRecDepth 20000 in
theorem gX3_become_X0_become : GoodIn wsX3_become (wsV RX3 78 RX0 yX0_become wsX0_become) := goodIn_app (goodIn_of _ (by decide +kernel)) ggX3_become_X0_become
theorem dX3_become_0 : decode cX3_become 0 = .ok (.aload_n 0, 1) := by decide +kernel
theorem dX3_become_1 : decode cX3_become 1 = .ok (.aload_n 1, 1) := by decide +kernel
theorem dX3_become_2 : decode cX3_become 2 = .ok (.getfield 11, 3) := by decide +kernel
theorem dX3_become_5 : decode cX3_become 5 = .ok (.putfield 11, 3) := by decide +kernel
theorem dX3_become_8 : decode cX3_become 8 = .ok (.aload_n 0, 1) := by decide +kernel
theorem dX3_become_9 : decode cX3_become 9 = .ok (.aload_n 1, 1) := by decide +kernel
theorem dX3_become_10 : decode cX3_become 10 = .ok (.getfield 15, 3) := by decide +kernel
theorem dX3_become_13 : decode cX3_become 13 = .ok (.putfield 15, 3) := by decide +kernel
theorem dX3_become_16 : decode cX3_become 16 = .ok (.aload_n 0, 1) := by decide +kernel
theorem dX3_become_17 : decode cX3_become 17 = .ok (.aload_n 1, 1) := by decide +kernel
theorem dX3_become_18 : decode cX3_become 18 = .ok (.getfield 18, 3) := by decide +kernel
theorem dX3_become_21 : decode cX3_become 21 = .ok (.putfield 18, 3) := by decide +kernel
theorem dX3_become_24 : decode cX3_become 24 = .ok (.aload_n 0, 1) := by decide +kernel
theorem dX3_become_25 : decode cX3_become 25 = .ok (.aload_n 1, 1) := by decide +kernel
theorem dX3_become_26 : decode cX3_become 26 = .ok (.getfield 21, 3) := by decide +kernel
theorem dX3_become_29 : decode cX3_become 29 = .ok (.putfield 21, 3) := by decide +kernel
theorem dX3_become_32 : decode cX3_become 32 = .ok (.aload_n 0, 1) := by decide +kernel
theorem dX3_become_33 : decode cX3_become 33 = .ok (.aload_n 1, 1) := by decide +kernel
theorem dX3_become_34 : decode cX3_become 34 = .ok (.getfield 49, 3) := by decide +kernel
theorem dX3_become_37 : decode cX3_become 37 = .ok (.putfield 49, 3) := by decide +kernel
theorem dX3_become_40 : decode cX3_become 40 = .ok (.aload_n 0, 1) := by decide +kernel
theorem dX3_become_41 : decode cX3_become 41 = .ok (.aload_n 1, 1) := by decide +kernel
theorem dX3_become_42 : decode cX3_become 42 = .ok (.getfield 52, 3) := by decide +kernel
theorem dX3_become_45 : decode cX3_become 45 = .ok (.putfield 52, 3) := by decide +kernel
theorem dX3_become_48 : decode cX3_become 48 = .ok (.aload_n 0, 1) := by decide +kernel
theorem dX3_become_49 : decode cX3_become 49 = .ok (.aload_n 1, 1) := by decide +kernel
theorem dX3_become_50 : decode cX3_become 50 = .ok (.getfield 55, 3) := by decide +kernel
theorem dX3_become_53 : decode cX3_become 53 = .ok (.putfield 55, 3) := by decide +kernel
theorem dX3_become_56 : decode cX3_become 56 = .ok (.aload_n 0, 1) := by decide +kernel
theorem dX3_become_57 : decode cX3_become 57 = .ok (.aload_n 1, 1) := by decide +kernel
theorem dX3_become_58 : decode cX3_become 58 = .ok (.getfield 58, 3) := by decide +kernel
theorem dX3_become_61 : decode cX3_become 61 = .ok (.putfield 58, 3) := by decide +kernel
theorem dX3_become_64 : decode cX3_become 64 = .ok (.aload_n 0, 1) := by decide +kernel
theorem dX3_become_65 : decode cX3_become 65 = .ok (.aload_n 1, 1) := by decide +kernel
theorem dX3_become_66 : decode cX3_become 66 = .ok (.getfield 61, 3) := by decide +kernel
theorem dX3_become_69 : decode cX3_become 69 = .ok (.putfield 61, 3) := by decide +kernel
theorem dX3_become_72 : decode cX3_become 72 = .ok (.aload_n 0, 1) := by decide +kernel
theorem dX3_become_73 : decode cX3_become 73 = .ok (.aload_n 1, 1) := by decide +kernel
theorem dX3_become_74 : decode cX3_become 74 = .ok (.getfield 65, 3) := by decide +kernel
theorem dX3_become_77 : decode cX3_become 77 = .ok (.putfield 65, 3) := by decide +kernel
theorem dX3_become_80 : decode cX3_become 80 = .ok (.aload_n 1, 1) := by decide +kernel
theorem dX3_become_81 : decode cX3_become 81 = .ok (.getfield 24, 3) := by decide +kernel
theorem dX3_become_84 : decode cX3_become 84 = .ok (.iconst 0, 1) := by decide +kernel
theorem dX3_become_85 : decode cX3_become 85 = .ok (.aload_n 0, 1) := by decide +kernel
theorem dX3_become_86 : decode cX3_become 86 = .ok (.getfield 24, 3) := by decide +kernel
theorem dX3_become_89 : decode cX3_become 89 = .ok (.iconst 0, 1) := by decide +kernel
theorem dX3_become_90 : decode cX3_become 90 = .ok (.iconst 3, 1) := by decide +kernel
theorem dX3_become_91 : decode cX3_become 91 = .ok (.invokestatic 68, 3) := by decide +kernel
theorem dX3_become_94 : decode cX3_become 94 = .ok (.aload_n 1, 1) := by decide +kernel
theorem dX3_become_95 : decode cX3_become 95 = .ok (.getfield 28, 3) := by decide +kernel
theorem dX3_become_98 : decode cX3_become 98 = .ok (.iconst 0, 1) := by decide +kernel
theorem dX3_become_99 : decode cX3_become 99 = .ok (.aload_n 0, 1) := by decide +kernel
theorem dX3_become_100 : decode cX3_become 100 = .ok (.getfield 28, 3) := by decide +kernel
theorem dX3_become_103 : decode cX3_become 103 = .ok (.iconst 0, 1) := by decide +kernel
theorem dX3_become_104 : decode cX3_become 104 = .ok (.bipush 24, 2) := by decide +kernel
theorem dX3_become_106 : decode cX3_become 106 = .ok (.invokestatic 68, 3) := by decide +kernel
theorem dX3_become_109 : decode cX3_become 109 = .ok (.aload_n 1, 1) := by decide +kernel
theorem dX3_become_110 : decode cX3_become 110 = .ok (.getfield 31, 3) := by decide +kernel
theorem dX3_become_113 : decode cX3_become 113 = .ok (.iconst 0, 1) := by decide +kernel
theorem dX3_become_114 : decode cX3_become 114 = .ok (.aload_n 0, 1) := by decide +kernel
theorem dX3_become_115 : decode cX3_become 115 = .ok (.getfield 31, 3) := by decide +kernel
theorem dX3_become_118 : decode cX3_become 118 = .ok (.iconst 0, 1) := by decide +kernel
theorem dX3_become_119 : decode cX3_become 119 = .ok (.iconst 5, 1) := by decide +kernel
theorem dX3_become_120 : decode cX3_become 120 = .ok (.invokestatic 68, 3) := by decide +kernel
theorem dX3_become_123 : decode cX3_become 123 = .ok (.aload_n 0, 1) := by decide +kernel
theorem dX3_become_124 : decode cX3_become 124 = .ok (.getfield 38, 3) := by decide +kernel
theorem dX3_become_127 : decode cX3_become 127 = .ok (.aload_n 1, 1) := by decide +kernel
theorem dX3_become_128 : decode cX3_become 128 = .ok (.getfield 38, 3) := by decide +kernel
theorem dX3_become_131 : decode cX3_become 131 = .ok (.invokevirtual 74, 3) := by decide +kernel
theorem dX3_become_134 : decode cX3_become 134 = .ok (.aload_n 0, 1) := by decide +kernel
theorem dX3_become_135 : decode cX3_become 135 = .ok (.getfield 45, 3) := by decide +kernel
theorem dX3_become_138 : decode cX3_become 138 = .ok (.aload_n 1, 1) := by decide +kernel
theorem dX3_become_139 : decode cX3_become 139 = .ok (.getfield 45, 3) := by decide +kernel
theorem dX3_become_142 : decode cX3_become 142 = .ok (.invokevirtual 78, 3) := by decide +kernel
theorem dX3_become_145 : decode cX3_become 145 = .ok (.return_, 1) := by decide +kernel
theorem dX3_isSettingValue_0 : decode cX3_isSettingValue 0 = .ok (.iload_n 0, 1) := by decide +kernel
theorem dX3_isSettingValue_1 : decode cX3_isSettingValue 1 = .ok (.ifCond .lt 30, 3) := by decide +kernel
theorem dX3_isSettingValue_4 : decode cX3_isSettingValue 4 = .ok (.iload_n 0, 1) := by decide +kernel
theorem dX3_isSettingValue_5 : decode cX3_isSettingValue 5 = .ok (.iconst 3, 1) := by decide +kernel
theorem dX3_isSettingValue_6 : decode cX3_isSettingValue 6 = .ok (.if_icmp .ge 25, 3) := by decide +kernel
theorem dX3_isSettingValue_9 : decode cX3_isSettingValue 9 = .ok (.iload_n 1, 1) := by decide +kernel
theorem dX3_isSettingValue_10 : decode cX3_isSettingValue 10 = .ok (.getstatic 81, 3) := by decide +kernel
theorem dX3_isSettingValue_13 : decode cX3_isSettingValue 13 = .ok (.iload_n 0, 1) := by decide +kernel
theorem dX3_isSettingValue_14 : decode cX3_isSettingValue 14 = .ok (.iaload, 1) := by decide +kernel
theorem dX3_isSettingValue_15 : decode cX3_isSettingValue 15 = .ok (.if_icmp .lt 16, 3) := by decide +kernel
theorem dX3_isSettingValue_18 : decode cX3_isSettingValue 18 = .ok (.iload_n 1, 1) := by decide +kernel
theorem dX3_isSettingValue_19 : decode cX3_isSettingValue 19 = .ok (.getstatic 84, 3) := by decide +kernel
theorem dX3_isSettingValue_22 : decode cX3_isSettingValue 22 = .ok (.iload_n 0, 1) := by decide +kernel
theorem dX3_isSettingValue_23 : decode cX3_isSettingValue 23 = .ok (.iaload, 1) := by decide +kernel
theorem dX3_isSettingValue_24 : decode cX3_isSettingValue 24 = .ok (.if_icmp .gt 7, 3) := by decide +kernel
theorem dX3_isSettingValue_27 : decode cX3_isSettingValue 27 = .ok (.iconst 1, 1) := by decide +kernel
theorem dX3_isSettingValue_28 : decode cX3_isSettingValue 28 = .ok (.goto 4, 3) := by decide +kernel
theorem dX3_isSettingValue_31 : decode cX3_isSettingValue 31 = .ok (.iconst 0, 1) := by decide +kernel
theorem dX3_isSettingValue_32 : decode cX3_isSettingValue 32 = .ok (.ireturn, 1) := by decide +kernel
theorem dX3_settingAt_0 : decode cX3_settingAt 0 = .ok (.iload_n 1, 1) := by decide +kernel
theorem dX3_settingAt_1 : decode cX3_settingAt 1 = .ok (.ifCond .lt 17, 3) := by decide +kernel
theorem dX3_settingAt_4 : decode cX3_settingAt 4 = .ok (.iload_n 1, 1) := by decide +kernel
theorem dX3_settingAt_5 : decode cX3_settingAt 5 = .ok (.iconst 3, 1) := by decide +kernel
theorem dX3_settingAt_6 : decode cX3_settingAt 6 = .ok (.if_icmp .ge 12, 3) := by decide +kernel
theorem dX3_settingAt_9 : decode cX3_settingAt 9 = .ok (.aload_n 0, 1) := by decide +kernel
theorem dX3_settingAt_10 : decode cX3_settingAt 10 = .ok (.getfield 24, 3) := by decide +kernel
theorem dX3_settingAt_13 : decode cX3_settingAt 13 = .ok (.iload_n 1, 1) := by decide +kernel
theorem dX3_settingAt_14 : decode cX3_settingAt 14 = .ok (.iaload, 1) := by decide +kernel
theorem dX3_settingAt_15 : decode cX3_settingAt 15 = .ok (.goto 4, 3) := by decide +kernel
theorem dX3_settingAt_18 : decode cX3_settingAt 18 = .ok (.iconst 0, 1) := by decide +kernel
theorem dX3_settingAt_19 : decode cX3_settingAt 19 = .ok (.ireturn, 1) := by decide +kernel
theorem dX3_demandAt_0 : decode cX3_demandAt 0 = .ok (.iload_n 1, 1) := by decide +kernel
theorem dX3_demandAt_1 : decode cX3_demandAt 1 = .ok (.ifCond .lt 18, 3) := by decide +kernel
theorem dX3_demandAt_4 : decode cX3_demandAt 4 = .ok (.iload_n 1, 1) := by decide +kernel
theorem dX3_demandAt_5 : decode cX3_demandAt 5 = .ok (.bipush 24, 2) := by decide +kernel
theorem dX3_demandAt_7 : decode cX3_demandAt 7 = .ok (.if_icmp .ge 12, 3) := by decide +kernel
theorem dX3_demandAt_10 : decode cX3_demandAt 10 = .ok (.aload_n 0, 1) := by decide +kernel
theorem dX3_demandAt_11 : decode cX3_demandAt 11 = .ok (.getfield 28, 3) := by decide +kernel
theorem dX3_demandAt_14 : decode cX3_demandAt 14 = .ok (.iload_n 1, 1) := by decide +kernel
theorem dX3_demandAt_15 : decode cX3_demandAt 15 = .ok (.iaload, 1) := by decide +kernel
theorem dX3_demandAt_16 : decode cX3_demandAt 16 = .ok (.goto 4, 3) := by decide +kernel
theorem dX3_demandAt_19 : decode cX3_demandAt 19 = .ok (.iconst 0, 1) := by decide +kernel
theorem dX3_demandAt_20 : decode cX3_demandAt 20 = .ok (.ireturn, 1) := by decide +kernel
set_option maxRecDepth 20000 in
theorem ggX3_changeSetting_X3_settingAt : GoodIn wsX3_changeSetting wsX3_settingAt := goodIn_r _ [6, 1, 7, 8, 9, 10, 11, 12, 13, 14, 15, 16, 17, 18, 19, 20, 21] (by decide +kernel) (by decide +kernel)
set_option maxRecDepth 20000 in
theorem gX3_changeSetting_X3_settingAt : GoodIn wsX3_changeSetting (wsV RX3 87 RX3 yX3_settingAt wsX3_settingAt) := goodIn_app (goodIn_of _ (by decide +kernel)) ggX3_changeSetting_X3_settingAt
theorem dX3_changeSetting_0 : decode cX3_changeSetting 0 = .ok (.aload_n 0, 1) := by decide +kernel
theorem dX3_changeSetting_1 : decode cX3_changeSetting 1 = .ok (.iload_n 1, 1) := by decide +kernel
theorem dX3_changeSetting_2 : decode cX3_changeSetting 2 = .ok (.invokevirtual 87, 3) := by decide +kernel
theorem dX3_changeSetting_5 : decode cX3_changeSetting 5 = .ok (.istore_n 3, 1) := by decide +kernel
theorem dX3_changeSetting_6 : decode cX3_changeSetting 6 = .ok (.iload_n 1, 1) := by decide +kernel
theorem dX3_changeSetting_7 : decode cX3_changeSetting 7 = .ok (.ifCond .lt 15, 3) := by decide +kernel
theorem dX3_changeSetting_10 : decode cX3_changeSetting 10 = .ok (.iload_n 1, 1) := by decide +kernel
theorem dX3_changeSetting_11 : decode cX3_changeSetting 11 = .ok (.iconst 3, 1) := by decide +kernel
theorem dX3_changeSetting_12 : decode cX3_changeSetting 12 = .ok (.if_icmp .ge 10, 3) := by decide +kernel
theorem dX3_changeSetting_15 : decode cX3_changeSetting 15 = .ok (.aload_n 0, 1) := by decide +kernel
theorem dX3_changeSetting_16 : decode cX3_changeSetting 16 = .ok (.getfield 24, 3) := by decide +kernel
theorem dX3_changeSetting_19 : decode cX3_changeSetting 19 = .ok (.iload_n 1, 1) := by decide +kernel
theorem dX3_changeSetting_20 : decode cX3_changeSetting 20 = .ok (.iload_n 2, 1) := by decide +kernel
theorem dX3_changeSetting_21 : decode cX3_changeSetting 21 = .ok (.iastore, 1) := by decide +kernel
theorem dX3_changeSetting_22 : decode cX3_changeSetting 22 = .ok (.iload_n 3, 1) := by decide +kernel
theorem dX3_changeSetting_23 : decode cX3_changeSetting 23 = .ok (.ireturn, 1) := by decide +kernel
set_option maxRecDepth 20000 in
theorem ggX3_changeDemand_X3_demandAt : GoodIn wsX3_changeDemand wsX3_demandAt := goodIn_r _ [6, 1, 7, 8, 9, 10, 11, 12, 13, 14, 15, 16, 17, 18, 19, 20, 21] (by decide +kernel) (by decide +kernel)
set_option maxRecDepth 20000 in
theorem gX3_changeDemand_X3_demandAt : GoodIn wsX3_changeDemand (wsV RX3 91 RX3 yX3_demandAt wsX3_demandAt) := goodIn_app (goodIn_of _ (by decide +kernel)) ggX3_changeDemand_X3_demandAt
theorem dX3_changeDemand_0 : decode cX3_changeDemand 0 = .ok (.aload_n 0, 1) := by decide +kernel
theorem dX3_changeDemand_1 : decode cX3_changeDemand 1 = .ok (.iload_n 1, 1) := by decide +kernel
theorem dX3_changeDemand_2 : decode cX3_changeDemand 2 = .ok (.invokevirtual 91, 3) := by decide +kernel
theorem dX3_changeDemand_5 : decode cX3_changeDemand 5 = .ok (.istore_n 3, 1) := by decide +kernel
theorem dX3_changeDemand_6 : decode cX3_changeDemand 6 = .ok (.iload_n 1, 1) := by decide +kernel
theorem dX3_changeDemand_7 : decode cX3_changeDemand 7 = .ok (.ifCond .lt 16, 3) := by decide +kernel
theorem dX3_changeDemand_10 : decode cX3_changeDemand 10 = .ok (.iload_n 1, 1) := by decide +kernel
theorem dX3_changeDemand_11 : decode cX3_changeDemand 11 = .ok (.bipush 24, 2) := by decide +kernel
theorem dX3_changeDemand_13 : decode cX3_changeDemand 13 = .ok (.if_icmp .ge 10, 3) := by decide +kernel
theorem dX3_changeDemand_16 : decode cX3_changeDemand 16 = .ok (.aload_n 0, 1) := by decide +kernel
theorem dX3_changeDemand_17 : decode cX3_changeDemand 17 = .ok (.getfield 28, 3) := by decide +kernel
theorem dX3_changeDemand_20 : decode cX3_changeDemand 20 = .ok (.iload_n 1, 1) := by decide +kernel
theorem dX3_changeDemand_21 : decode cX3_changeDemand 21 = .ok (.iload_n 2, 1) := by decide +kernel
theorem dX3_changeDemand_22 : decode cX3_changeDemand 22 = .ok (.iastore, 1) := by decide +kernel
theorem dX3_changeDemand_23 : decode cX3_changeDemand 23 = .ok (.iload_n 3, 1) := by decide +kernel
theorem dX3_changeDemand_24 : decode cX3_changeDemand 24 = .ok (.ireturn, 1) := by decide +kernel
theorem dX3_waterAt_0 : decode cX3_waterAt 0 = .ok (.iload_n 1, 1) := by decide +kernel
theorem dX3_waterAt_1 : decode cX3_waterAt 1 = .ok (.ifCond .lt 17, 3) := by decide +kernel
theorem dX3_waterAt_4 : decode cX3_waterAt 4 = .ok (.iload_n 1, 1) := by decide +kernel
theorem dX3_waterAt_5 : decode cX3_waterAt 5 = .ok (.iconst 5, 1) := by decide +kernel
theorem dX3_waterAt_6 : decode cX3_waterAt 6 = .ok (.if_icmp .ge 12, 3) := by decide +kernel
theorem dX3_waterAt_9 : decode cX3_waterAt 9 = .ok (.aload_n 0, 1) := by decide +kernel
theorem dX3_waterAt_10 : decode cX3_waterAt 10 = .ok (.getfield 31, 3) := by decide +kernel
theorem dX3_waterAt_13 : decode cX3_waterAt 13 = .ok (.iload_n 1, 1) := by decide +kernel
theorem dX3_waterAt_14 : decode cX3_waterAt 14 = .ok (.laload, 1) := by decide +kernel
theorem dX3_waterAt_15 : decode cX3_waterAt 15 = .ok (.goto 4, 3) := by decide +kernel
theorem dX3_waterAt_18 : decode cX3_waterAt 18 = .ok (.lconst 0, 1) := by decide +kernel
theorem dX3_waterAt_19 : decode cX3_waterAt 19 = .ok (.lreturn, 1) := by decide +kernel
set_option maxRecDepth 20000 in
theorem ggX3_numberAt_X2_countIn : GoodIn wsX3_numberAt wsX2_countIn := goodIn_r _ [17, 18, 19, 45, 46, 47, 48, 49, 50, 51, 52, 53] (by decide +kernel) (by decide +kernel)
set_option maxRecDepth 20000 in
theorem gX3_numberAt_X2_countIn : GoodIn wsX3_numberAt (wsV RX3 97 RX2 yX2_countIn wsX2_countIn) := goodIn_app (goodIn_of _ (by decide +kernel)) ggX3_numberAt_X2_countIn
set_option maxRecDepth 20000 in
theorem ggX3_numberAt_X3_hourNow : GoodIn wsX3_numberAt wsX3_hourNow := goodIn_r _ [24, 7, 30, 31, 32, 33, 34, 35, 36, 37, 38, 39, 40, 41, 42, 43, 44] (by decide +kernel) (by decide +kernel)
set_option maxRecDepth 20000 in
theorem gX3_numberAt_X3_hourNow : GoodIn wsX3_numberAt (wsV RX3 100 RX3 yX3_hourNow wsX3_hourNow) := goodIn_app (goodIn_of _ (by decide +kernel)) ggX3_numberAt_X3_hourNow
set_option maxRecDepth 20000 in
theorem ggX3_numberAt_X2_lead : GoodIn wsX3_numberAt wsX2_lead := goodIn_r _ [28, 18, 29, 45, 46, 47, 48, 49, 50, 51, 52, 53] (by decide +kernel) (by decide +kernel)
set_option maxRecDepth 20000 in
theorem gX3_numberAt_X2_lead : GoodIn wsX3_numberAt (wsV RX3 104 RX2 yX2_lead wsX2_lead) := goodIn_app (goodIn_of _ (by decide +kernel)) ggX3_numberAt_X2_lead
theorem dX3_numberAt_0 : decode cX3_numberAt 0 = .ok (.iload_n 1, 1) := by decide +kernel
theorem dX3_numberAt_1 : decode cX3_numberAt 1 = .ok (.tableswitch 146 0 12 #[67, 72, 77, 82, 87, 95, 104, 113, 118, 123, 128, 133, 141], 67) := by decide +kernel
theorem dX3_numberAt_68 : decode cX3_numberAt 68 = .ok (.aload_n 0, 1) := by decide +kernel
theorem dX3_numberAt_69 : decode cX3_numberAt 69 = .ok (.getfield 11, 3) := by decide +kernel
theorem dX3_numberAt_72 : decode cX3_numberAt 72 = .ok (.ireturn, 1) := by decide +kernel
theorem dX3_numberAt_73 : decode cX3_numberAt 73 = .ok (.aload_n 0, 1) := by decide +kernel
theorem dX3_numberAt_74 : decode cX3_numberAt 74 = .ok (.getfield 15, 3) := by decide +kernel
theorem dX3_numberAt_77 : decode cX3_numberAt 77 = .ok (.ireturn, 1) := by decide +kernel
theorem dX3_numberAt_78 : decode cX3_numberAt 78 = .ok (.aload_n 0, 1) := by decide +kernel
theorem dX3_numberAt_79 : decode cX3_numberAt 79 = .ok (.getfield 18, 3) := by decide +kernel
theorem dX3_numberAt_82 : decode cX3_numberAt 82 = .ok (.ireturn, 1) := by decide +kernel
theorem dX3_numberAt_83 : decode cX3_numberAt 83 = .ok (.aload_n 0, 1) := by decide +kernel
theorem dX3_numberAt_84 : decode cX3_numberAt 84 = .ok (.getfield 21, 3) := by decide +kernel
theorem dX3_numberAt_87 : decode cX3_numberAt 87 = .ok (.ireturn, 1) := by decide +kernel
theorem dX3_numberAt_88 : decode cX3_numberAt 88 = .ok (.aload_n 0, 1) := by decide +kernel
theorem dX3_numberAt_89 : decode cX3_numberAt 89 = .ok (.getfield 38, 3) := by decide +kernel
theorem dX3_numberAt_92 : decode cX3_numberAt 92 = .ok (.getfield 94, 3) := by decide +kernel
theorem dX3_numberAt_95 : decode cX3_numberAt 95 = .ok (.ireturn, 1) := by decide +kernel
theorem dX3_numberAt_96 : decode cX3_numberAt 96 = .ok (.aload_n 0, 1) := by decide +kernel
theorem dX3_numberAt_97 : decode cX3_numberAt 97 = .ok (.getfield 38, 3) := by decide +kernel
theorem dX3_numberAt_100 : decode cX3_numberAt 100 = .ok (.iconst 1, 1) := by decide +kernel
theorem dX3_numberAt_101 : decode cX3_numberAt 101 = .ok (.invokevirtual 97, 3) := by decide +kernel
theorem dX3_numberAt_104 : decode cX3_numberAt 104 = .ok (.ireturn, 1) := by decide +kernel
theorem dX3_numberAt_105 : decode cX3_numberAt 105 = .ok (.aload_n 0, 1) := by decide +kernel
theorem dX3_numberAt_106 : decode cX3_numberAt 106 = .ok (.getfield 38, 3) := by decide +kernel
theorem dX3_numberAt_109 : decode cX3_numberAt 109 = .ok (.iconst 2, 1) := by decide +kernel
theorem dX3_numberAt_110 : decode cX3_numberAt 110 = .ok (.invokevirtual 97, 3) := by decide +kernel
theorem dX3_numberAt_113 : decode cX3_numberAt 113 = .ok (.ireturn, 1) := by decide +kernel
theorem dX3_numberAt_114 : decode cX3_numberAt 114 = .ok (.aload_n 0, 1) := by decide +kernel
theorem dX3_numberAt_115 : decode cX3_numberAt 115 = .ok (.getfield 49, 3) := by decide +kernel
theorem dX3_numberAt_118 : decode cX3_numberAt 118 = .ok (.ireturn, 1) := by decide +kernel
theorem dX3_numberAt_119 : decode cX3_numberAt 119 = .ok (.aload_n 0, 1) := by decide +kernel
theorem dX3_numberAt_120 : decode cX3_numberAt 120 = .ok (.invokevirtual 100, 3) := by decide +kernel
theorem dX3_numberAt_123 : decode cX3_numberAt 123 = .ok (.ireturn, 1) := by decide +kernel
theorem dX3_numberAt_124 : decode cX3_numberAt 124 = .ok (.aload_n 0, 1) := by decide +kernel
theorem dX3_numberAt_125 : decode cX3_numberAt 125 = .ok (.getfield 52, 3) := by decide +kernel
theorem dX3_numberAt_128 : decode cX3_numberAt 128 = .ok (.ireturn, 1) := by decide +kernel
theorem dX3_numberAt_129 : decode cX3_numberAt 129 = .ok (.aload_n 0, 1) := by decide +kernel
theorem dX3_numberAt_130 : decode cX3_numberAt 130 = .ok (.getfield 55, 3) := by decide +kernel
theorem dX3_numberAt_133 : decode cX3_numberAt 133 = .ok (.ireturn, 1) := by decide +kernel
theorem dX3_numberAt_134 : decode cX3_numberAt 134 = .ok (.aload_n 0, 1) := by decide +kernel
theorem dX3_numberAt_135 : decode cX3_numberAt 135 = .ok (.getfield 38, 3) := by decide +kernel
theorem dX3_numberAt_138 : decode cX3_numberAt 138 = .ok (.invokevirtual 104, 3) := by decide +kernel
theorem dX3_numberAt_141 : decode cX3_numberAt 141 = .ok (.ireturn, 1) := by decide +kernel
theorem dX3_numberAt_142 : decode cX3_numberAt 142 = .ok (.aload_n 0, 1) := by decide +kernel
theorem dX3_numberAt_143 : decode cX3_numberAt 143 = .ok (.getfield 58, 3) := by decide +kernel
theorem dX3_numberAt_146 : decode cX3_numberAt 146 = .ok (.ireturn, 1) := by decide +kernel
theorem dX3_numberAt_147 : decode cX3_numberAt 147 = .ok (.aload_n 0, 1) := by decide +kernel
theorem dX3_numberAt_148 : decode cX3_numberAt 148 = .ok (.getfield 45, 3) := by decide +kernel
theorem dX3_numberAt_151 : decode cX3_numberAt 151 = .ok (.getfield 107, 3) := by decide +kernel
theorem dX3_numberAt_154 : decode cX3_numberAt 154 = .ok (.ireturn, 1) := by decide +kernel
set_option maxRecDepth 20000 in
theorem ggX3_letPass_X3_passMinute : GoodIn wsX3_letPass wsX3_passMinute := goodIn_r _ [5, 6, 7, 8, 9, 10, 11, 12, 13, 14, 15, 16, 4, 17, 18, 19, 20, 21, 22, 23, 24, 25, 26, 27, 28, 29, 30, 31, 32, 33, 34, 35, 36, 37, 38, 39, 40, 41, 42, 43, 44, 45, 46, 47, 48, 49, 50, 51, 52, 53, 54, 55, 56, 57, 58, 59, 60, 61, 62, 63, 64, 65, 66, 67, 68, 69, 70, 71, 72, 73, 74, 75, 76, 77, 78, 79, 80, 81, 82, 83, 84, 85, 86, 87, 88, 89, 90, 91, 92, 93, 94, 95, 96, 97, 98, 99, 100, 101, 102, 103, 104, 105, 106, 107, 108, 109, 110, 111, 112, 113, 114, 115, 116, 117, 118, 119, 120, 121, 122, 123, 124, 125, 126, 127, 128, 129, 130, 131, 132, 133, 134, 135, 136, 137] (by decide +kernel) (by decide +kernel)
set_option maxRecDepth 20000 in
theorem gX3_letPass_X3_passMinute : GoodIn wsX3_letPass (wsV RX3 108 RX3 yX3_passMinute wsX3_passMinute) := goodIn_app (goodIn_of _ (by decide +kernel)) ggX3_letPass_X3_passMinute
theorem dX3_letPass_0 : decode cX3_letPass 0 = .ok (.iconst 0, 1) := by decide +kernel
theorem dX3_letPass_1 : decode cX3_letPass 1 = .ok (.istore_n 2, 1) := by decide +kernel
theorem dX3_letPass_2 : decode cX3_letPass 2 = .ok (.iload_n 2, 1) := by decide +kernel
theorem dX3_letPass_3 : decode cX3_letPass 3 = .ok (.iload_n 1, 1) := by decide +kernel
theorem dX3_letPass_4 : decode cX3_letPass 4 = .ok (.if_icmp .ge 14, 3) := by decide +kernel
theorem dX3_letPass_7 : decode cX3_letPass 7 = .ok (.aload_n 0, 1) := by decide +kernel
theorem dX3_letPass_8 : decode cX3_letPass 8 = .ok (.invokevirtual 108, 3) := by decide +kernel
theorem dX3_letPass_11 : decode cX3_letPass 11 = .ok (.pop, 1) := by decide +kernel
theorem dX3_letPass_12 : decode cX3_letPass 12 = .ok (.iinc 2 1, 3) := by decide +kernel
theorem dX3_letPass_15 : decode cX3_letPass 15 = .ok (.goto (-13), 3) := by decide +kernel
theorem dX3_letPass_18 : decode cX3_letPass 18 = .ok (.return_, 1) := by decide +kernel
set_option maxRecDepth 20000 in
theorem ggX3_passMinute_X3_balance : GoodIn wsX3_passMinute wsX3_balance := goodIn_r _ [13, 14, 4, 108, 109, 110, 111, 112, 113, 114, 115, 116, 117, 118, 119, 120, 121, 122] (by decide +kernel) (by decide +kernel)
set_option maxRecDepth 20000 in
theorem gX3_passMinute_X3_balance : GoodIn wsX3_passMinute (wsV RX3 111 RX3 yX3_balance wsX3_balance) := goodIn_app (goodIn_of _ (by decide +kernel)) ggX3_passMinute_X3_balance
set_option maxRecDepth 20000 in
theorem ggX3_passMinute_X2_beginHour : GoodIn wsX3_passMinute wsX2_beginHour := goodIn_r _ [19, 20, 21, 123, 124, 125, 126, 127, 128, 129, 130, 131] (by decide +kernel) (by decide +kernel)
set_option maxRecDepth 20000 in
theorem gX3_passMinute_X2_beginHour : GoodIn wsX3_passMinute (wsV RX3 115 RX2 yX2_beginHour wsX2_beginHour) := goodIn_app (goodIn_of _ (by decide +kernel)) ggX3_passMinute_X2_beginHour
set_option maxRecDepth 20000 in
theorem ggX3_passMinute_X3_switchPumps : GoodIn wsX3_passMinute wsX3_switchPumps := goodIn_r _ [25, 4, 26, 3, 27, 28, 29, 1, 30, 31, 32, 33, 18, 34, 20, 35, 36, 37, 38, 39, 40, 41, 42, 43, 44, 45, 46, 47, 12, 48, 49, 5, 50, 51, 52, 53, 54, 55, 56, 57, 21, 58, 59, 60, 61, 62, 63, 64, 65, 66, 67, 68, 69, 70, 71, 72, 73, 74, 75, 76, 77, 78, 79, 80, 108, 109, 110, 111, 112, 113, 114, 115, 116, 117, 118, 119, 120, 121, 122, 123, 124, 125, 126, 127, 128, 129, 130, 131, 132, 133] (by decide +kernel) (by decide +kernel)
set_option maxRecDepth 20000 in
theorem gX3_passMinute_X3_switchPumps : GoodIn wsX3_passMinute (wsV RX3 118 RX3 yX3_switchPumps wsX3_switchPumps) := goodIn_app (goodIn_of _ (by decide +kernel)) ggX3_passMinute_X3_switchPumps
set_option maxRecDepth 20000 in
theorem ggX3_passMinute_X3_moveWater : GoodIn wsX3_passMinute wsX3_moveWater := goodIn_r _ [84, 3, 4, 85, 86, 87, 88, 89, 90, 91, 92, 27, 14, 93, 94, 95, 18, 96, 20, 35, 97, 98, 99, 100, 101, 12, 102, 1, 103, 104, 105, 106, 107, 108, 109, 110, 111, 112, 113, 114, 115, 116, 117, 118, 119, 120, 121, 122, 123, 124, 125, 126, 127, 128, 129, 130, 131] (by decide +kernel) (by decide +kernel)
set_option maxRecDepth 20000 in
theorem gX3_passMinute_X3_moveWater : GoodIn wsX3_passMinute (wsV RX3 121 RX3 yX3_moveWater wsX3_moveWater) := goodIn_app (goodIn_of _ (by decide +kernel)) ggX3_passMinute_X3_moveWater
theorem dX3_passMinute_0 : decode cX3_passMinute 0 = .ok (.aload_n 0, 1) := by decide +kernel
theorem dX3_passMinute_1 : decode cX3_passMinute 1 = .ok (.getfield 49, 3) := by decide +kernel
theorem dX3_passMinute_4 : decode cX3_passMinute 4 = .ok (.sipush 1440, 3) := by decide +kernel
theorem dX3_passMinute_7 : decode cX3_passMinute 7 = .ok (.irem, 1) := by decide +kernel
theorem dX3_passMinute_8 : decode cX3_passMinute 8 = .ok (.istore_n 1, 1) := by decide +kernel
theorem dX3_passMinute_9 : decode cX3_passMinute 9 = .ok (.iload_n 1, 1) := by decide +kernel
theorem dX3_passMinute_10 : decode cX3_passMinute 10 = .ok (.sipush 1320, 3) := by decide +kernel
theorem dX3_passMinute_13 : decode cX3_passMinute 13 = .ok (.if_icmp .ne 11, 3) := by decide +kernel
theorem dX3_passMinute_16 : decode cX3_passMinute 16 = .ok (.aload_n 0, 1) := by decide +kernel
theorem dX3_passMinute_17 : decode cX3_passMinute 17 = .ok (.aload_n 0, 1) := by decide +kernel
theorem dX3_passMinute_18 : decode cX3_passMinute 18 = .ok (.invokevirtual 111, 3) := by decide +kernel
theorem dX3_passMinute_21 : decode cX3_passMinute 21 = .ok (.putfield 61, 3) := by decide +kernel
theorem dX3_passMinute_24 : decode cX3_passMinute 24 = .ok (.aload_n 0, 1) := by decide +kernel
theorem dX3_passMinute_25 : decode cX3_passMinute 25 = .ok (.getfield 49, 3) := by decide +kernel
theorem dX3_passMinute_28 : decode cX3_passMinute 28 = .ok (.bipush 60, 2) := by decide +kernel
theorem dX3_passMinute_30 : decode cX3_passMinute 30 = .ok (.irem, 1) := by decide +kernel
theorem dX3_passMinute_31 : decode cX3_passMinute 31 = .ok (.ifCond .ne 10, 3) := by decide +kernel
theorem dX3_passMinute_34 : decode cX3_passMinute 34 = .ok (.aload_n 0, 1) := by decide +kernel
theorem dX3_passMinute_35 : decode cX3_passMinute 35 = .ok (.getfield 38, 3) := by decide +kernel
theorem dX3_passMinute_38 : decode cX3_passMinute 38 = .ok (.invokevirtual 115, 3) := by decide +kernel
theorem dX3_passMinute_41 : decode cX3_passMinute 41 = .ok (.aload_n 0, 1) := by decide +kernel
theorem dX3_passMinute_42 : decode cX3_passMinute 42 = .ok (.invokevirtual 118, 3) := by decide +kernel
theorem dX3_passMinute_45 : decode cX3_passMinute 45 = .ok (.istore_n 2, 1) := by decide +kernel
theorem dX3_passMinute_46 : decode cX3_passMinute 46 = .ok (.aload_n 0, 1) := by decide +kernel
theorem dX3_passMinute_47 : decode cX3_passMinute 47 = .ok (.invokevirtual 121, 3) := by decide +kernel
theorem dX3_passMinute_50 : decode cX3_passMinute 50 = .ok (.aload_n 0, 1) := by decide +kernel
theorem dX3_passMinute_51 : decode cX3_passMinute 51 = .ok (.getfield 15, 3) := by decide +kernel
theorem dX3_passMinute_54 : decode cX3_passMinute 54 = .ok (.aload_n 0, 1) := by decide +kernel
theorem dX3_passMinute_55 : decode cX3_passMinute 55 = .ok (.getfield 18, 3) := by decide +kernel
theorem dX3_passMinute_58 : decode cX3_passMinute 58 = .ok (.if_icmp .ge 13, 3) := by decide +kernel
theorem dX3_passMinute_61 : decode cX3_passMinute 61 = .ok (.aload_n 0, 1) := by decide +kernel
theorem dX3_passMinute_62 : decode cX3_passMinute 62 = .ok (.dup, 1) := by decide +kernel
theorem dX3_passMinute_63 : decode cX3_passMinute 63 = .ok (.getfield 55, 3) := by decide +kernel
theorem dX3_passMinute_66 : decode cX3_passMinute 66 = .ok (.iconst 1, 1) := by decide +kernel
theorem dX3_passMinute_67 : decode cX3_passMinute 67 = .ok (.iadd, 1) := by decide +kernel
theorem dX3_passMinute_68 : decode cX3_passMinute 68 = .ok (.putfield 55, 3) := by decide +kernel
theorem dX3_passMinute_71 : decode cX3_passMinute 71 = .ok (.iload_n 1, 1) := by decide +kernel
theorem dX3_passMinute_72 : decode cX3_passMinute 72 = .ok (.sipush 359, 3) := by decide +kernel
theorem dX3_passMinute_75 : decode cX3_passMinute 75 = .ok (.if_icmp .ne 36, 3) := by decide +kernel
theorem dX3_passMinute_78 : decode cX3_passMinute 78 = .ok (.aload_n 0, 1) := by decide +kernel
theorem dX3_passMinute_79 : decode cX3_passMinute 79 = .ok (.getfield 49, 3) := by decide +kernel
theorem dX3_passMinute_82 : decode cX3_passMinute 82 = .ok (.sipush 1440, 3) := by decide +kernel
theorem dX3_passMinute_85 : decode cX3_passMinute 85 = .ok (.if_icmp .le 26, 3) := by decide +kernel
theorem dX3_passMinute_88 : decode cX3_passMinute 88 = .ok (.aload_n 0, 1) := by decide +kernel
theorem dX3_passMinute_89 : decode cX3_passMinute 89 = .ok (.aload_n 0, 1) := by decide +kernel
theorem dX3_passMinute_90 : decode cX3_passMinute 90 = .ok (.invokevirtual 111, 3) := by decide +kernel
theorem dX3_passMinute_93 : decode cX3_passMinute 93 = .ok (.aload_n 0, 1) := by decide +kernel
theorem dX3_passMinute_94 : decode cX3_passMinute 94 = .ok (.getfield 61, 3) := by decide +kernel
theorem dX3_passMinute_97 : decode cX3_passMinute 97 = .ok (.lsub, 1) := by decide +kernel
theorem dX3_passMinute_98 : decode cX3_passMinute 98 = .ok (.putfield 65, 3) := by decide +kernel
theorem dX3_passMinute_101 : decode cX3_passMinute 101 = .ok (.aload_n 0, 1) := by decide +kernel
theorem dX3_passMinute_102 : decode cX3_passMinute 102 = .ok (.dup, 1) := by decide +kernel
theorem dX3_passMinute_103 : decode cX3_passMinute 103 = .ok (.getfield 58, 3) := by decide +kernel
theorem dX3_passMinute_106 : decode cX3_passMinute 106 = .ok (.iconst 1, 1) := by decide +kernel
theorem dX3_passMinute_107 : decode cX3_passMinute 107 = .ok (.iadd, 1) := by decide +kernel
theorem dX3_passMinute_108 : decode cX3_passMinute 108 = .ok (.putfield 58, 3) := by decide +kernel
theorem dX3_passMinute_111 : decode cX3_passMinute 111 = .ok (.aload_n 0, 1) := by decide +kernel
theorem dX3_passMinute_112 : decode cX3_passMinute 112 = .ok (.dup, 1) := by decide +kernel

theorem dX3_passMinute_113 : decode cX3_passMinute 113 = .ok (.getfield 49, 3) := by decide +kernel
theorem dX3_passMinute_116 : decode cX3_passMinute 116 = .ok (.iconst 1, 1) := by decide +kernel
theorem dX3_passMinute_117 : decode cX3_passMinute 117 = .ok (.iadd, 1) := by decide +kernel
theorem dX3_passMinute_118 : decode cX3_passMinute 118 = .ok (.putfield 49, 3) := by decide +kernel
theorem dX3_passMinute_121 : decode cX3_passMinute 121 = .ok (.iload_n 2, 1) := by decide +kernel
theorem dX3_passMinute_122 : decode cX3_passMinute 122 = .ok (.ireturn, 1) := by decide +kernel
theorem dX3_hourNow_0 : decode cX3_hourNow 0 = .ok (.aload_n 0, 1) := by decide +kernel
theorem dX3_hourNow_1 : decode cX3_hourNow 1 = .ok (.getfield 49, 3) := by decide +kernel
theorem dX3_hourNow_4 : decode cX3_hourNow 4 = .ok (.bipush 60, 2) := by decide +kernel
theorem dX3_hourNow_6 : decode cX3_hourNow 6 = .ok (.idiv, 1) := by decide +kernel
theorem dX3_hourNow_7 : decode cX3_hourNow 7 = .ok (.bipush 24, 2) := by decide +kernel
theorem dX3_hourNow_9 : decode cX3_hourNow 9 = .ok (.irem, 1) := by decide +kernel
theorem dX3_hourNow_10 : decode cX3_hourNow 10 = .ok (.ireturn, 1) := by decide +kernel
theorem dX3_balance_0 : decode cX3_balance 0 = .ok (.aload_n 0, 1) := by decide +kernel
theorem dX3_balance_1 : decode cX3_balance 1 = .ok (.getfield 31, 3) := by decide +kernel
theorem dX3_balance_4 : decode cX3_balance 4 = .ok (.iconst 0, 1) := by decide +kernel
theorem dX3_balance_5 : decode cX3_balance 5 = .ok (.laload, 1) := by decide +kernel
theorem dX3_balance_6 : decode cX3_balance 6 = .ok (.aload_n 0, 1) := by decide +kernel
theorem dX3_balance_7 : decode cX3_balance 7 = .ok (.getfield 31, 3) := by decide +kernel
theorem dX3_balance_10 : decode cX3_balance 10 = .ok (.iconst 1, 1) := by decide +kernel
theorem dX3_balance_11 : decode cX3_balance 11 = .ok (.laload, 1) := by decide +kernel
theorem dX3_balance_12 : decode cX3_balance 12 = .ok (.lsub, 1) := by decide +kernel
theorem dX3_balance_13 : decode cX3_balance 13 = .ok (.aload_n 0, 1) := by decide +kernel
theorem dX3_balance_14 : decode cX3_balance 14 = .ok (.getfield 31, 3) := by decide +kernel
theorem dX3_balance_17 : decode cX3_balance 17 = .ok (.iconst 2, 1) := by decide +kernel
theorem dX3_balance_18 : decode cX3_balance 18 = .ok (.laload, 1) := by decide +kernel
theorem dX3_balance_19 : decode cX3_balance 19 = .ok (.lsub, 1) := by decide +kernel
theorem dX3_balance_20 : decode cX3_balance 20 = .ok (.aload_n 0, 1) := by decide +kernel
theorem dX3_balance_21 : decode cX3_balance 21 = .ok (.getfield 15, 3) := by decide +kernel
theorem dX3_balance_24 : decode cX3_balance 24 = .ok (.i2l, 1) := by decide +kernel
theorem dX3_balance_25 : decode cX3_balance 25 = .ok (.lsub, 1) := by decide +kernel
theorem dX3_balance_26 : decode cX3_balance 26 = .ok (.lreturn, 1) := by decide +kernel
set_option maxRecDepth 20000 in
theorem ggX3_switchPumps_X2_stopAll : GoodIn wsX3_switchPumps wsX2_stopAll := goodIn_r _ [13, 14, 15, 16, 17, 18, 12, 19, 20, 79, 80, 81, 82, 83, 84, 85, 86, 87] (by decide +kernel) (by decide +kernel)
set_option maxRecDepth 20000 in
theorem gX3_switchPumps_X2_stopAll : GoodIn wsX3_switchPumps (wsV RX3 124 RX2 yX2_stopAll wsX2_stopAll) := goodIn_app (goodIn_of _ (by decide +kernel)) ggX3_switchPumps_X2_stopAll
set_option maxRecDepth 20000 in
theorem ggX3_switchPumps_X2_countIn : GoodIn wsX3_switchPumps wsX2_countIn := goodIn_r _ [24, 14, 15, 79, 80, 81, 82, 83, 84, 85, 86, 87] (by decide +kernel) (by decide +kernel)
set_option maxRecDepth 20000 in
theorem gX3_switchPumps_X2_countIn : GoodIn wsX3_switchPumps (wsV RX3 97 RX2 yX2_countIn wsX2_countIn) := goodIn_app (goodIn_of _ (by decide +kernel)) ggX3_switchPumps_X2_countIn
set_option maxRecDepth 20000 in
theorem ggX3_switchPumps_X3_wanted : GoodIn wsX3_switchPumps wsX3_wanted := goodIn_r _ [29, 3, 30, 1, 31, 4, 64, 65, 66, 67, 68, 69, 70, 71, 72, 73, 74, 75, 76, 77, 78, 79, 80, 81, 82, 83, 84, 85, 86, 87] (by decide +kernel) (by decide +kernel)
set_option maxRecDepth 20000 in
theorem gX3_switchPumps_X3_wanted : GoodIn wsX3_switchPumps (wsV RX3 127 RX3 yX3_wanted wsX3_wanted) := goodIn_app (goodIn_of _ (by decide +kernel)) ggX3_switchPumps_X3_wanted
set_option maxRecDepth 20000 in
theorem ggX3_switchPumps_X2_nextToStart : GoodIn wsX3_switchPumps wsX2_nextToStart := goodIn_r _ [35, 36, 37, 38, 12, 39, 14, 40, 41, 15, 20, 79, 80, 81, 82, 83, 84, 85, 86, 87] (by decide +kernel) (by decide +kernel)
set_option maxRecDepth 20000 in
theorem gX3_switchPumps_X2_nextToStart : GoodIn wsX3_switchPumps (wsV RX3 130 RX2 yX2_nextToStart wsX2_nextToStart) := goodIn_app (goodIn_of _ (by decide +kernel)) ggX3_switchPumps_X2_nextToStart
set_option maxRecDepth 20000 in
theorem ggX3_switchPumps_X2_has : GoodIn wsX3_switchPumps wsX2_has := goodIn_r _ [45, 14, 79, 80, 81, 82, 83, 84, 85, 86, 87] (by decide +kernel) (by decide +kernel)
set_option maxRecDepth 20000 in
theorem gX3_switchPumps_X2_has : GoodIn wsX3_switchPumps (wsV RX3 134 RX2 yX2_has wsX2_has) := goodIn_app (goodIn_of _ (by decide +kernel)) ggX3_switchPumps_X2_has
set_option maxRecDepth 20000 in
theorem ggX3_switchPumps_X2_start : GoodIn wsX3_switchPumps wsX2_start := goodIn_r _ [49, 40, 41, 15, 50, 51, 52, 43, 44, 12, 45, 14, 79, 80, 81, 82, 83, 84, 85, 86, 87] (by decide +kernel) (by decide +kernel)
set_option maxRecDepth 20000 in
theorem gX3_switchPumps_X2_start : GoodIn wsX3_switchPumps (wsV RX3 138 RX2 yX2_start wsX2_start) := goodIn_app (goodIn_of _ (by decide +kernel)) ggX3_switchPumps_X2_start
set_option maxRecDepth 20000 in
theorem ggX3_switchPumps_X0_put : GoodIn wsX3_switchPumps wsX0_put := goodIn_r _ [57, 58, 59, 60, 61, 62, 63, 88, 89] (by decide +kernel) (by decide +kernel)
set_option maxRecDepth 20000 in
theorem gX3_switchPumps_X0_put : GoodIn wsX3_switchPumps (wsV RX3 144 RX0 yX0_put wsX0_put) := goodIn_app (goodIn_of _ (by decide +kernel)) ggX3_switchPumps_X0_put
theorem dX3_switchPumps_0 : decode cX3_switchPumps 0 = .ok (.aload_n 0, 1) := by decide +kernel
theorem dX3_switchPumps_1 : decode cX3_switchPumps 1 = .ok (.getfield 15, 3) := by decide +kernel
theorem dX3_switchPumps_4 : decode cX3_switchPumps 4 = .ok (.aload_n 0, 1) := by decide +kernel
theorem dX3_switchPumps_5 : decode cX3_switchPumps 5 = .ok (.getfield 21, 3) := by decide +kernel
theorem dX3_switchPumps_8 : decode cX3_switchPumps 8 = .ok (.if_icmp .lt 12, 3) := by decide +kernel
theorem dX3_switchPumps_11 : decode cX3_switchPumps 11 = .ok (.aload_n 0, 1) := by decide +kernel
theorem dX3_switchPumps_12 : decode cX3_switchPumps 12 = .ok (.getfield 38, 3) := by decide +kernel
theorem dX3_switchPumps_15 : decode cX3_switchPumps 15 = .ok (.invokevirtual 124, 3) := by decide +kernel
theorem dX3_switchPumps_18 : decode cX3_switchPumps 18 = .ok (.iconst (-1), 1) := by decide +kernel
theorem dX3_switchPumps_19 : decode cX3_switchPumps 19 = .ok (.ireturn, 1) := by decide +kernel
theorem dX3_switchPumps_20 : decode cX3_switchPumps 20 = .ok (.aload_n 0, 1) := by decide +kernel
theorem dX3_switchPumps_21 : decode cX3_switchPumps 21 = .ok (.getfield 38, 3) := by decide +kernel
theorem dX3_switchPumps_24 : decode cX3_switchPumps 24 = .ok (.iconst 1, 1) := by decide +kernel
theorem dX3_switchPumps_25 : decode cX3_switchPumps 25 = .ok (.invokevirtual 97, 3) := by decide +kernel
theorem dX3_switchPumps_28 : decode cX3_switchPumps 28 = .ok (.aload_n 0, 1) := by decide +kernel
theorem dX3_switchPumps_29 : decode cX3_switchPumps 29 = .ok (.invokevirtual 127, 3) := by decide +kernel
theorem dX3_switchPumps_32 : decode cX3_switchPumps 32 = .ok (.if_icmp .lt 5, 3) := by decide +kernel
theorem dX3_switchPumps_35 : decode cX3_switchPumps 35 = .ok (.iconst (-1), 1) := by decide +kernel
theorem dX3_switchPumps_36 : decode cX3_switchPumps 36 = .ok (.ireturn, 1) := by decide +kernel
theorem dX3_switchPumps_37 : decode cX3_switchPumps 37 = .ok (.aload_n 0, 1) := by decide +kernel
theorem dX3_switchPumps_38 : decode cX3_switchPumps 38 = .ok (.getfield 38, 3) := by decide +kernel
theorem dX3_switchPumps_41 : decode cX3_switchPumps 41 = .ok (.aload_n 0, 1) := by decide +kernel
theorem dX3_switchPumps_42 : decode cX3_switchPumps 42 = .ok (.getfield 24, 3) := by decide +kernel
theorem dX3_switchPumps_45 : decode cX3_switchPumps 45 = .ok (.iconst 2, 1) := by decide +kernel
theorem dX3_switchPumps_46 : decode cX3_switchPumps 46 = .ok (.iaload, 1) := by decide +kernel
theorem dX3_switchPumps_47 : decode cX3_switchPumps 47 = .ok (.iconst 1, 1) := by decide +kernel
theorem dX3_switchPumps_48 : decode cX3_switchPumps 48 = .ok (.if_icmp .ne 7, 3) := by decide +kernel
theorem dX3_switchPumps_51 : decode cX3_switchPumps 51 = .ok (.iconst 1, 1) := by decide +kernel
theorem dX3_switchPumps_52 : decode cX3_switchPumps 52 = .ok (.goto 4, 3) := by decide +kernel
theorem dX3_switchPumps_55 : decode cX3_switchPumps 55 = .ok (.iconst 0, 1) := by decide +kernel
theorem dX3_switchPumps_56 : decode cX3_switchPumps 56 = .ok (.invokevirtual 130, 3) := by decide +kernel
theorem dX3_switchPumps_59 : decode cX3_switchPumps 59 = .ok (.istore_n 1, 1) := by decide +kernel
theorem dX3_switchPumps_60 : decode cX3_switchPumps 60 = .ok (.aload_n 0, 1) := by decide +kernel
theorem dX3_switchPumps_61 : decode cX3_switchPumps 61 = .ok (.getfield 38, 3) := by decide +kernel
theorem dX3_switchPumps_64 : decode cX3_switchPumps 64 = .ok (.iload_n 1, 1) := by decide +kernel
theorem dX3_switchPumps_65 : decode cX3_switchPumps 65 = .ok (.invokevirtual 134, 3) := by decide +kernel
theorem dX3_switchPumps_68 : decode cX3_switchPumps 68 = .ok (.ifCond .ne 5, 3) := by decide +kernel
theorem dX3_switchPumps_71 : decode cX3_switchPumps 71 = .ok (.iconst (-1), 1) := by decide +kernel
theorem dX3_switchPumps_72 : decode cX3_switchPumps 72 = .ok (.ireturn, 1) := by decide +kernel
theorem dX3_switchPumps_73 : decode cX3_switchPumps 73 = .ok (.aload_n 0, 1) := by decide +kernel
theorem dX3_switchPumps_74 : decode cX3_switchPumps 74 = .ok (.getfield 38, 3) := by decide +kernel
theorem dX3_switchPumps_77 : decode cX3_switchPumps 77 = .ok (.iload_n 1, 1) := by decide +kernel
theorem dX3_switchPumps_78 : decode cX3_switchPumps 78 = .ok (.invokevirtual 138, 3) := by decide +kernel
theorem dX3_switchPumps_81 : decode cX3_switchPumps 81 = .ok (.ifCond .eq 34, 3) := by decide +kernel
theorem dX3_switchPumps_84 : decode cX3_switchPumps 84 = .ok (.aload_n 0, 1) := by decide +kernel
theorem dX3_switchPumps_85 : decode cX3_switchPumps 85 = .ok (.dup, 1) := by decide +kernel
theorem dX3_switchPumps_86 : decode cX3_switchPumps 86 = .ok (.getfield 52, 3) := by decide +kernel
theorem dX3_switchPumps_89 : decode cX3_switchPumps 89 = .ok (.iconst 1, 1) := by decide +kernel
theorem dX3_switchPumps_90 : decode cX3_switchPumps 90 = .ok (.iadd, 1) := by decide +kernel
theorem dX3_switchPumps_91 : decode cX3_switchPumps 91 = .ok (.putfield 52, 3) := by decide +kernel
theorem dX3_switchPumps_94 : decode cX3_switchPumps 94 = .ok (.aload_n 0, 1) := by decide +kernel
theorem dX3_switchPumps_95 : decode cX3_switchPumps 95 = .ok (.getfield 45, 3) := by decide +kernel
theorem dX3_switchPumps_98 : decode cX3_switchPumps 98 = .ok (.iload_n 1, 1) := by decide +kernel
theorem dX3_switchPumps_99 : decode cX3_switchPumps 99 = .ok (.aload_n 0, 1) := by decide +kernel
theorem dX3_switchPumps_100 : decode cX3_switchPumps 100 = .ok (.getfield 49, 3) := by decide +kernel
theorem dX3_switchPumps_103 : decode cX3_switchPumps 103 = .ok (.aload_n 0, 1) := by decide +kernel
theorem dX3_switchPumps_104 : decode cX3_switchPumps 104 = .ok (.getfield 38, 3) := by decide +kernel
theorem dX3_switchPumps_107 : decode cX3_switchPumps 107 = .ok (.getfield 141, 3) := by decide +kernel
theorem dX3_switchPumps_110 : decode cX3_switchPumps 110 = .ok (.iload_n 1, 1) := by decide +kernel
theorem dX3_switchPumps_111 : decode cX3_switchPumps 111 = .ok (.iaload, 1) := by decide +kernel
theorem dX3_switchPumps_112 : decode cX3_switchPumps 112 = .ok (.invokevirtual 144, 3) := by decide +kernel
theorem dX3_switchPumps_115 : decode cX3_switchPumps 115 = .ok (.iload_n 1, 1) := by decide +kernel
theorem dX3_switchPumps_116 : decode cX3_switchPumps 116 = .ok (.ireturn, 1) := by decide +kernel
theorem dX3_wanted_0 : decode cX3_wanted 0 = .ok (.iconst 0, 1) := by decide +kernel
theorem dX3_wanted_1 : decode cX3_wanted 1 = .ok (.istore_n 1, 1) := by decide +kernel
theorem dX3_wanted_2 : decode cX3_wanted 2 = .ok (.iconst 0, 1) := by decide +kernel
theorem dX3_wanted_3 : decode cX3_wanted 3 = .ok (.istore_n 2, 1) := by decide +kernel
theorem dX3_wanted_4 : decode cX3_wanted 4 = .ok (.iload_n 2, 1) := by decide +kernel
theorem dX3_wanted_5 : decode cX3_wanted 5 = .ok (.aload_n 0, 1) := by decide +kernel
theorem dX3_wanted_6 : decode cX3_wanted 6 = .ok (.getfield 38, 3) := by decide +kernel
theorem dX3_wanted_9 : decode cX3_wanted 9 = .ok (.getfield 94, 3) := by decide +kernel
theorem dX3_wanted_12 : decode cX3_wanted 12 = .ok (.if_icmp .ge 32, 3) := by decide +kernel
theorem dX3_wanted_15 : decode cX3_wanted 15 = .ok (.aload_n 0, 1) := by decide +kernel
theorem dX3_wanted_16 : decode cX3_wanted 16 = .ok (.getfield 15, 3) := by decide +kernel
theorem dX3_wanted_19 : decode cX3_wanted 19 = .ok (.aload_n 0, 1) := by decide +kernel
theorem dX3_wanted_20 : decode cX3_wanted 20 = .ok (.getfield 18, 3) := by decide +kernel
theorem dX3_wanted_23 : decode cX3_wanted 23 = .ok (.iload_n 2, 1) := by decide +kernel
theorem dX3_wanted_24 : decode cX3_wanted 24 = .ok (.aload_n 0, 1) := by decide +kernel
theorem dX3_wanted_25 : decode cX3_wanted 25 = .ok (.getfield 24, 3) := by decide +kernel
theorem dX3_wanted_28 : decode cX3_wanted 28 = .ok (.iconst 0, 1) := by decide +kernel
theorem dX3_wanted_29 : decode cX3_wanted 29 = .ok (.iaload, 1) := by decide +kernel
theorem dX3_wanted_30 : decode cX3_wanted 30 = .ok (.imul, 1) := by decide +kernel
theorem dX3_wanted_31 : decode cX3_wanted 31 = .ok (.isub, 1) := by decide +kernel
theorem dX3_wanted_32 : decode cX3_wanted 32 = .ok (.if_icmp .ge 6, 3) := by decide +kernel
theorem dX3_wanted_35 : decode cX3_wanted 35 = .ok (.iinc 1 1, 3) := by decide +kernel
theorem dX3_wanted_38 : decode cX3_wanted 38 = .ok (.iinc 2 1, 3) := by decide +kernel
theorem dX3_wanted_41 : decode cX3_wanted 41 = .ok (.goto (-37), 3) := by decide +kernel
theorem dX3_wanted_44 : decode cX3_wanted 44 = .ok (.iload_n 1, 1) := by decide +kernel
theorem dX3_wanted_45 : decode cX3_wanted 45 = .ok (.ireturn, 1) := by decide +kernel
set_option maxRecDepth 20000 in
theorem ggX3_moveWater_X2_runMinute : GoodIn wsX3_moveWater wsX2_runMinute := goodIn_r _ [17, 18, 19, 20, 21, 48, 49, 50, 51, 52, 53, 54, 55, 56] (by decide +kernel) (by decide +kernel)
set_option maxRecDepth 20000 in
theorem gX3_moveWater_X2_runMinute : GoodIn wsX3_moveWater (wsV RX3 148 RX2 yX2_runMinute wsX2_runMinute) := goodIn_app (goodIn_of _ (by decide +kernel)) ggX3_moveWater_X2_runMinute
set_option maxRecDepth 20000 in
theorem ggX3_moveWater_X3_hourNow : GoodIn wsX3_moveWater wsX3_hourNow := goodIn_r _ [26, 27, 33, 34, 35, 36, 37, 38, 39, 40, 41, 42, 43, 44, 45, 46, 47] (by decide +kernel) (by decide +kernel)
set_option maxRecDepth 20000 in
theorem gX3_moveWater_X3_hourNow : GoodIn wsX3_moveWater (wsV RX3 100 RX3 yX3_hourNow wsX3_hourNow) := goodIn_app (goodIn_of _ (by decide +kernel)) ggX3_moveWater_X3_hourNow
set_option maxRecDepth 20000 in
theorem ggX3_moveWater_X3_demandAt : GoodIn wsX3_moveWater wsX3_demandAt := goodIn_r _ [31, 32, 33, 34, 35, 36, 37, 38, 39, 40, 41, 42, 43, 44, 45, 46, 47] (by decide +kernel) (by decide +kernel)
set_option maxRecDepth 20000 in
theorem gX3_moveWater_X3_demandAt : GoodIn wsX3_moveWater (wsV RX3 91 RX3 yX3_demandAt wsX3_demandAt) := goodIn_app (goodIn_of _ (by decide +kernel)) ggX3_moveWater_X3_demandAt
theorem dX3_moveWater_0 : decode cX3_moveWater 0 = .ok (.aload_n 0, 1) := by decide +kernel
theorem dX3_moveWater_1 : decode cX3_moveWater 1 = .ok (.getfield 38, 3) := by decide +kernel
theorem dX3_moveWater_4 : decode cX3_moveWater 4 = .ok (.invokevirtual 148, 3) := by decide +kernel
theorem dX3_moveWater_7 : decode cX3_moveWater 7 = .ok (.istore_n 1, 1) := by decide +kernel
theorem dX3_moveWater_8 : decode cX3_moveWater 8 = .ok (.iconst 0, 1) := by decide +kernel
theorem dX3_moveWater_9 : decode cX3_moveWater 9 = .ok (.aload_n 0, 1) := by decide +kernel
theorem dX3_moveWater_10 : decode cX3_moveWater 10 = .ok (.getfield 15, 3) := by decide +kernel
theorem dX3_moveWater_13 : decode cX3_moveWater 13 = .ok (.iload_n 1, 1) := by decide +kernel
theorem dX3_moveWater_14 : decode cX3_moveWater 14 = .ok (.iadd, 1) := by decide +kernel
theorem dX3_moveWater_15 : decode cX3_moveWater 15 = .ok (.aload_n 0, 1) := by decide +kernel
theorem dX3_moveWater_16 : decode cX3_moveWater 16 = .ok (.getfield 11, 3) := by decide +kernel
theorem dX3_moveWater_19 : decode cX3_moveWater 19 = .ok (.isub, 1) := by decide +kernel
theorem dX3_moveWater_20 : decode cX3_moveWater 20 = .ok (.invokestatic 151, 3) := by decide +kernel
theorem dX3_moveWater_23 : decode cX3_moveWater 23 = .ok (.istore_n 2, 1) := by decide +kernel
theorem dX3_moveWater_24 : decode cX3_moveWater 24 = .ok (.aload_n 0, 1) := by decide +kernel
theorem dX3_moveWater_25 : decode cX3_moveWater 25 = .ok (.dup, 1) := by decide +kernel
theorem dX3_moveWater_26 : decode cX3_moveWater 26 = .ok (.getfield 15, 3) := by decide +kernel
theorem dX3_moveWater_29 : decode cX3_moveWater 29 = .ok (.iload_n 1, 1) := by decide +kernel
theorem dX3_moveWater_30 : decode cX3_moveWater 30 = .ok (.iload_n 2, 1) := by decide +kernel
theorem dX3_moveWater_31 : decode cX3_moveWater 31 = .ok (.isub, 1) := by decide +kernel
theorem dX3_moveWater_32 : decode cX3_moveWater 32 = .ok (.iadd, 1) := by decide +kernel
theorem dX3_moveWater_33 : decode cX3_moveWater 33 = .ok (.putfield 15, 3) := by decide +kernel
theorem dX3_moveWater_36 : decode cX3_moveWater 36 = .ok (.aload_n 0, 1) := by decide +kernel
theorem dX3_moveWater_37 : decode cX3_moveWater 37 = .ok (.aload_n 0, 1) := by decide +kernel
theorem dX3_moveWater_38 : decode cX3_moveWater 38 = .ok (.invokevirtual 100, 3) := by decide +kernel
theorem dX3_moveWater_41 : decode cX3_moveWater 41 = .ok (.invokevirtual 91, 3) := by decide +kernel
theorem dX3_moveWater_44 : decode cX3_moveWater 44 = .ok (.istore_n 3, 1) := by decide +kernel
theorem dX3_moveWater_45 : decode cX3_moveWater 45 = .ok (.iload_n 3, 1) := by decide +kernel
theorem dX3_moveWater_46 : decode cX3_moveWater 46 = .ok (.aload_n 0, 1) := by decide +kernel
theorem dX3_moveWater_47 : decode cX3_moveWater 47 = .ok (.getfield 15, 3) := by decide +kernel
theorem dX3_moveWater_50 : decode cX3_moveWater 50 = .ok (.invokestatic 157, 3) := by decide +kernel
theorem dX3_moveWater_53 : decode cX3_moveWater 53 = .ok (.istore 4, 2) := by decide +kernel
theorem dX3_moveWater_55 : decode cX3_moveWater 55 = .ok (.aload_n 0, 1) := by decide +kernel
theorem dX3_moveWater_56 : decode cX3_moveWater 56 = .ok (.dup, 1) := by decide +kernel
theorem dX3_moveWater_57 : decode cX3_moveWater 57 = .ok (.getfield 15, 3) := by decide +kernel
theorem dX3_moveWater_60 : decode cX3_moveWater 60 = .ok (.iload 4, 2) := by decide +kernel
theorem dX3_moveWater_62 : decode cX3_moveWater 62 = .ok (.isub, 1) := by decide +kernel
theorem dX3_moveWater_63 : decode cX3_moveWater 63 = .ok (.putfield 15, 3) := by decide +kernel
theorem dX3_moveWater_66 : decode cX3_moveWater 66 = .ok (.aload_n 0, 1) := by decide +kernel
theorem dX3_moveWater_67 : decode cX3_moveWater 67 = .ok (.getfield 24, 3) := by decide +kernel
theorem dX3_moveWater_70 : decode cX3_moveWater 70 = .ok (.iconst 1, 1) := by decide +kernel
theorem dX3_moveWater_71 : decode cX3_moveWater 71 = .ok (.iaload, 1) := by decide +kernel
theorem dX3_moveWater_72 : decode cX3_moveWater 72 = .ok (.aload_n 0, 1) := by decide +kernel
theorem dX3_moveWater_73 : decode cX3_moveWater 73 = .ok (.getfield 15, 3) := by decide +kernel
theorem dX3_moveWater_76 : decode cX3_moveWater 76 = .ok (.invokestatic 157, 3) := by decide +kernel
theorem dX3_moveWater_79 : decode cX3_moveWater 79 = .ok (.istore 5, 2) := by decide +kernel
theorem dX3_moveWater_81 : decode cX3_moveWater 81 = .ok (.aload_n 0, 1) := by decide +kernel
theorem dX3_moveWater_82 : decode cX3_moveWater 82 = .ok (.dup, 1) := by decide +kernel
theorem dX3_moveWater_83 : decode cX3_moveWater 83 = .ok (.getfield 15, 3) := by decide +kernel
theorem dX3_moveWater_86 : decode cX3_moveWater 86 = .ok (.iload 5, 2) := by decide +kernel
theorem dX3_moveWater_88 : decode cX3_moveWater 88 = .ok (.isub, 1) := by decide +kernel
theorem dX3_moveWater_89 : decode cX3_moveWater 89 = .ok (.putfield 15, 3) := by decide +kernel
theorem dX3_moveWater_92 : decode cX3_moveWater 92 = .ok (.aload_n 0, 1) := by decide +kernel
theorem dX3_moveWater_93 : decode cX3_moveWater 93 = .ok (.getfield 31, 3) := by decide +kernel
theorem dX3_moveWater_96 : decode cX3_moveWater 96 = .ok (.iconst 0, 1) := by decide +kernel
theorem dX3_moveWater_97 : decode cX3_moveWater 97 = .ok (.dup2, 1) := by decide +kernel
theorem dX3_moveWater_98 : decode cX3_moveWater 98 = .ok (.laload, 1) := by decide +kernel
theorem dX3_moveWater_99 : decode cX3_moveWater 99 = .ok (.iload_n 1, 1) := by decide +kernel
theorem dX3_moveWater_100 : decode cX3_moveWater 100 = .ok (.i2l, 1) := by decide +kernel
theorem dX3_moveWater_101 : decode cX3_moveWater 101 = .ok (.ladd, 1) := by decide +kernel
theorem dX3_moveWater_102 : decode cX3_moveWater 102 = .ok (.lastore, 1) := by decide +kernel
theorem dX3_moveWater_103 : decode cX3_moveWater 103 = .ok (.aload_n 0, 1) := by decide +kernel
theorem dX3_moveWater_104 : decode cX3_moveWater 104 = .ok (.getfield 31, 3) := by decide +kernel
theorem dX3_moveWater_107 : decode cX3_moveWater 107 = .ok (.iconst 1, 1) := by decide +kernel
theorem dX3_moveWater_108 : decode cX3_moveWater 108 = .ok (.dup2, 1) := by decide +kernel
theorem dX3_moveWater_109 : decode cX3_moveWater 109 = .ok (.laload, 1) := by decide +kernel
theorem dX3_moveWater_110 : decode cX3_moveWater 110 = .ok (.iload_n 2, 1) := by decide +kernel
theorem dX3_moveWater_111 : decode cX3_moveWater 111 = .ok (.i2l, 1) := by decide +kernel
theorem dX3_moveWater_112 : decode cX3_moveWater 112 = .ok (.ladd, 1) := by decide +kernel
theorem dX3_moveWater_113 : decode cX3_moveWater 113 = .ok (.lastore, 1) := by decide +kernel
theorem dX3_moveWater_114 : decode cX3_moveWater 114 = .ok (.aload_n 0, 1) := by decide +kernel
theorem dX3_moveWater_115 : decode cX3_moveWater 115 = .ok (.getfield 31, 3) := by decide +kernel
theorem dX3_moveWater_118 : decode cX3_moveWater 118 = .ok (.iconst 2, 1) := by decide +kernel
theorem dX3_moveWater_119 : decode cX3_moveWater 119 = .ok (.dup2, 1) := by decide +kernel
theorem dX3_moveWater_120 : decode cX3_moveWater 120 = .ok (.laload, 1) := by decide +kernel
theorem dX3_moveWater_121 : decode cX3_moveWater 121 = .ok (.iload 4, 2) := by decide +kernel
theorem dX3_moveWater_123 : decode cX3_moveWater 123 = .ok (.i2l, 1) := by decide +kernel
theorem dX3_moveWater_124 : decode cX3_moveWater 124 = .ok (.ladd, 1) := by decide +kernel
theorem dX3_moveWater_125 : decode cX3_moveWater 125 = .ok (.lastore, 1) := by decide +kernel
theorem dX3_moveWater_126 : decode cX3_moveWater 126 = .ok (.aload_n 0, 1) := by decide +kernel
theorem dX3_moveWater_127 : decode cX3_moveWater 127 = .ok (.getfield 31, 3) := by decide +kernel
theorem dX3_moveWater_130 : decode cX3_moveWater 130 = .ok (.iconst 3, 1) := by decide +kernel
theorem dX3_moveWater_131 : decode cX3_moveWater 131 = .ok (.dup2, 1) := by decide +kernel
theorem dX3_moveWater_132 : decode cX3_moveWater 132 = .ok (.laload, 1) := by decide +kernel
theorem dX3_moveWater_133 : decode cX3_moveWater 133 = .ok (.iload_n 3, 1) := by decide +kernel
theorem dX3_moveWater_134 : decode cX3_moveWater 134 = .ok (.iload 4, 2) := by decide +kernel
theorem dX3_moveWater_136 : decode cX3_moveWater 136 = .ok (.isub, 1) := by decide +kernel
theorem dX3_moveWater_137 : decode cX3_moveWater 137 = .ok (.i2l, 1) := by decide +kernel
theorem dX3_moveWater_138 : decode cX3_moveWater 138 = .ok (.ladd, 1) := by decide +kernel
theorem dX3_moveWater_139 : decode cX3_moveWater 139 = .ok (.lastore, 1) := by decide +kernel
theorem dX3_moveWater_140 : decode cX3_moveWater 140 = .ok (.aload_n 0, 1) := by decide +kernel
theorem dX3_moveWater_141 : decode cX3_moveWater 141 = .ok (.getfield 31, 3) := by decide +kernel
theorem dX3_moveWater_144 : decode cX3_moveWater 144 = .ok (.iconst 4, 1) := by decide +kernel
theorem dX3_moveWater_145 : decode cX3_moveWater 145 = .ok (.dup2, 1) := by decide +kernel
theorem dX3_moveWater_146 : decode cX3_moveWater 146 = .ok (.laload, 1) := by decide +kernel
theorem dX3_moveWater_147 : decode cX3_moveWater 147 = .ok (.iload 5, 2) := by decide +kernel
theorem dX3_moveWater_149 : decode cX3_moveWater 149 = .ok (.i2l, 1) := by decide +kernel
theorem dX3_moveWater_150 : decode cX3_moveWater 150 = .ok (.ladd, 1) := by decide +kernel
theorem dX3_moveWater_151 : decode cX3_moveWater 151 = .ok (.lastore, 1) := by decide +kernel
theorem dX3_moveWater_152 : decode cX3_moveWater 152 = .ok (.return_, 1) := by decide +kernel
set_option maxRecDepth 20000 in
theorem ggX3_digestOnto_X3_numberAt : GoodIn wsX3_digestOnto wsX3_numberAt := goodIn_r _ [12, 13, 14, 15, 16, 6, 17, 18, 19, 20, 21, 7, 22, 23, 24, 25, 26, 27, 28, 29, 30, 31, 32, 11, 33, 34, 35, 36, 37, 38, 66, 67, 68, 69, 70, 71, 72, 73, 74, 75, 76, 77, 78, 79, 80, 81, 82, 83, 84, 85, 86, 87, 88, 89, 90, 91] (by decide +kernel) (by decide +kernel)
set_option maxRecDepth 20000 in
theorem gX3_digestOnto_X3_numberAt : GoodIn wsX3_digestOnto (wsV RX3 162 RX3 yX3_numberAt wsX3_numberAt) := goodIn_app (goodIn_of _ (by decide +kernel)) ggX3_digestOnto_X3_numberAt
set_option maxRecDepth 20000 in
theorem ggX3_digestOnto_X2_digestOnto : GoodIn wsX3_digestOnto wsX2_digestOnto := goodIn_r _ [42, 28, 43, 44, 45, 46, 26, 47, 48, 49, 29, 38, 50, 51, 52, 53, 54, 55, 56, 57, 81, 82, 83, 84, 85, 86, 87, 88, 89] (by decide +kernel) (by decide +kernel)
set_option maxRecDepth 20000 in
theorem gX3_digestOnto_X2_digestOnto : GoodIn wsX3_digestOnto (wsV RX3 165 RX2 yX2_digestOnto wsX2_digestOnto) := goodIn_app (goodIn_of _ (by decide +kernel)) ggX3_digestOnto_X2_digestOnto
set_option maxRecDepth 20000 in
theorem ggX3_digestOnto_X0_digestOnto : GoodIn wsX3_digestOnto wsX0_digestOnto := goodIn_r _ [62, 63, 64, 65, 90, 91] (by decide +kernel) (by decide +kernel)
set_option maxRecDepth 20000 in
theorem gX3_digestOnto_X0_digestOnto : GoodIn wsX3_digestOnto (wsV RX3 169 RX0 yX0_digestOnto wsX0_digestOnto) := goodIn_app (goodIn_of _ (by decide +kernel)) ggX3_digestOnto_X0_digestOnto
theorem dX3_digestOnto_0 : decode cX3_digestOnto 0 = .ok (.lload_n 1, 1) := by decide +kernel
theorem dX3_digestOnto_1 : decode cX3_digestOnto 1 = .ok (.lstore_n 3, 1) := by decide +kernel
theorem dX3_digestOnto_2 : decode cX3_digestOnto 2 = .ok (.iconst 0, 1) := by decide +kernel
theorem dX3_digestOnto_3 : decode cX3_digestOnto 3 = .ok (.istore 5, 2) := by decide +kernel
theorem dX3_digestOnto_5 : decode cX3_digestOnto 5 = .ok (.iload 5, 2) := by decide +kernel
theorem dX3_digestOnto_7 : decode cX3_digestOnto 7 = .ok (.bipush 14, 2) := by decide +kernel
theorem dX3_digestOnto_9 : decode cX3_digestOnto 9 = .ok (.if_icmp .ge 23, 3) := by decide +kernel
theorem dX3_digestOnto_12 : decode cX3_digestOnto 12 = .ok (.ldc2_w 160, 3) := by decide +kernel
theorem dX3_digestOnto_15 : decode cX3_digestOnto 15 = .ok (.lload_n 3, 1) := by decide +kernel
theorem dX3_digestOnto_16 : decode cX3_digestOnto 16 = .ok (.lmul, 1) := by decide +kernel
theorem dX3_digestOnto_17 : decode cX3_digestOnto 17 = .ok (.aload_n 0, 1) := by decide +kernel
theorem dX3_digestOnto_18 : decode cX3_digestOnto 18 = .ok (.iload 5, 2) := by decide +kernel
theorem dX3_digestOnto_20 : decode cX3_digestOnto 20 = .ok (.invokevirtual 162, 3) := by decide +kernel
theorem dX3_digestOnto_23 : decode cX3_digestOnto 23 = .ok (.i2l, 1) := by decide +kernel
theorem dX3_digestOnto_24 : decode cX3_digestOnto 24 = .ok (.ladd, 1) := by decide +kernel
theorem dX3_digestOnto_25 : decode cX3_digestOnto 25 = .ok (.lstore_n 3, 1) := by decide +kernel
theorem dX3_digestOnto_26 : decode cX3_digestOnto 26 = .ok (.iinc 5 1, 3) := by decide +kernel
theorem dX3_digestOnto_29 : decode cX3_digestOnto 29 = .ok (.goto (-24), 3) := by decide +kernel
theorem dX3_digestOnto_32 : decode cX3_digestOnto 32 = .ok (.iconst 0, 1) := by decide +kernel
theorem dX3_digestOnto_33 : decode cX3_digestOnto 33 = .ok (.istore 5, 2) := by decide +kernel
theorem dX3_digestOnto_35 : decode cX3_digestOnto 35 = .ok (.iload 5, 2) := by decide +kernel
theorem dX3_digestOnto_37 : decode cX3_digestOnto 37 = .ok (.iconst 3, 1) := by decide +kernel
theorem dX3_digestOnto_38 : decode cX3_digestOnto 38 = .ok (.if_icmp .ge 24, 3) := by decide +kernel
theorem dX3_digestOnto_41 : decode cX3_digestOnto 41 = .ok (.ldc2_w 160, 3) := by decide +kernel
theorem dX3_digestOnto_44 : decode cX3_digestOnto 44 = .ok (.lload_n 3, 1) := by decide +kernel
theorem dX3_digestOnto_45 : decode cX3_digestOnto 45 = .ok (.lmul, 1) := by decide +kernel
theorem dX3_digestOnto_46 : decode cX3_digestOnto 46 = .ok (.aload_n 0, 1) := by decide +kernel
theorem dX3_digestOnto_47 : decode cX3_digestOnto 47 = .ok (.getfield 24, 3) := by decide +kernel
theorem dX3_digestOnto_50 : decode cX3_digestOnto 50 = .ok (.iload 5, 2) := by decide +kernel
theorem dX3_digestOnto_52 : decode cX3_digestOnto 52 = .ok (.iaload, 1) := by decide +kernel
theorem dX3_digestOnto_53 : decode cX3_digestOnto 53 = .ok (.i2l, 1) := by decide +kernel
theorem dX3_digestOnto_54 : decode cX3_digestOnto 54 = .ok (.ladd, 1) := by decide +kernel
theorem dX3_digestOnto_55 : decode cX3_digestOnto 55 = .ok (.lstore_n 3, 1) := by decide +kernel
theorem dX3_digestOnto_56 : decode cX3_digestOnto 56 = .ok (.iinc 5 1, 3) := by decide +kernel
theorem dX3_digestOnto_59 : decode cX3_digestOnto 59 = .ok (.goto (-24), 3) := by decide +kernel
theorem dX3_digestOnto_62 : decode cX3_digestOnto 62 = .ok (.iconst 0, 1) := by decide +kernel
theorem dX3_digestOnto_63 : decode cX3_digestOnto 63 = .ok (.istore 5, 2) := by decide +kernel
theorem dX3_digestOnto_65 : decode cX3_digestOnto 65 = .ok (.iload 5, 2) := by decide +kernel
theorem dX3_digestOnto_67 : decode cX3_digestOnto 67 = .ok (.bipush 24, 2) := by decide +kernel
theorem dX3_digestOnto_69 : decode cX3_digestOnto 69 = .ok (.if_icmp .ge 24, 3) := by decide +kernel
theorem dX3_digestOnto_72 : decode cX3_digestOnto 72 = .ok (.ldc2_w 160, 3) := by decide +kernel
theorem dX3_digestOnto_75 : decode cX3_digestOnto 75 = .ok (.lload_n 3, 1) := by decide +kernel
theorem dX3_digestOnto_76 : decode cX3_digestOnto 76 = .ok (.lmul, 1) := by decide +kernel
theorem dX3_digestOnto_77 : decode cX3_digestOnto 77 = .ok (.aload_n 0, 1) := by decide +kernel
theorem dX3_digestOnto_78 : decode cX3_digestOnto 78 = .ok (.getfield 28, 3) := by decide +kernel
theorem dX3_digestOnto_81 : decode cX3_digestOnto 81 = .ok (.iload 5, 2) := by decide +kernel
theorem dX3_digestOnto_83 : decode cX3_digestOnto 83 = .ok (.iaload, 1) := by decide +kernel
theorem dX3_digestOnto_84 : decode cX3_digestOnto 84 = .ok (.i2l, 1) := by decide +kernel
theorem dX3_digestOnto_85 : decode cX3_digestOnto 85 = .ok (.ladd, 1) := by decide +kernel
theorem dX3_digestOnto_86 : decode cX3_digestOnto 86 = .ok (.lstore_n 3, 1) := by decide +kernel
theorem dX3_digestOnto_87 : decode cX3_digestOnto 87 = .ok (.iinc 5 1, 3) := by decide +kernel
theorem dX3_digestOnto_90 : decode cX3_digestOnto 90 = .ok (.goto (-25), 3) := by decide +kernel
theorem dX3_digestOnto_93 : decode cX3_digestOnto 93 = .ok (.iconst 0, 1) := by decide +kernel
theorem dX3_digestOnto_94 : decode cX3_digestOnto 94 = .ok (.istore 5, 2) := by decide +kernel
theorem dX3_digestOnto_96 : decode cX3_digestOnto 96 = .ok (.iload 5, 2) := by decide +kernel
theorem dX3_digestOnto_98 : decode cX3_digestOnto 98 = .ok (.iconst 5, 1) := by decide +kernel
theorem dX3_digestOnto_99 : decode cX3_digestOnto 99 = .ok (.if_icmp .ge 23, 3) := by decide +kernel
theorem dX3_digestOnto_102 : decode cX3_digestOnto 102 = .ok (.ldc2_w 160, 3) := by decide +kernel
theorem dX3_digestOnto_105 : decode cX3_digestOnto 105 = .ok (.lload_n 3, 1) := by decide +kernel
theorem dX3_digestOnto_106 : decode cX3_digestOnto 106 = .ok (.lmul, 1) := by decide +kernel
theorem dX3_digestOnto_107 : decode cX3_digestOnto 107 = .ok (.aload_n 0, 1) := by decide +kernel
theorem dX3_digestOnto_108 : decode cX3_digestOnto 108 = .ok (.getfield 31, 3) := by decide +kernel
theorem dX3_digestOnto_111 : decode cX3_digestOnto 111 = .ok (.iload 5, 2) := by decide +kernel
theorem dX3_digestOnto_113 : decode cX3_digestOnto 113 = .ok (.laload, 1) := by decide +kernel
theorem dX3_digestOnto_114 : decode cX3_digestOnto 114 = .ok (.ladd, 1) := by decide +kernel
theorem dX3_digestOnto_115 : decode cX3_digestOnto 115 = .ok (.lstore_n 3, 1) := by decide +kernel
theorem dX3_digestOnto_116 : decode cX3_digestOnto 116 = .ok (.iinc 5 1, 3) := by decide +kernel
theorem dX3_digestOnto_119 : decode cX3_digestOnto 119 = .ok (.goto (-23), 3) := by decide +kernel
theorem dX3_digestOnto_122 : decode cX3_digestOnto 122 = .ok (.ldc2_w 160, 3) := by decide +kernel
theorem dX3_digestOnto_125 : decode cX3_digestOnto 125 = .ok (.lload_n 3, 1) := by decide +kernel
theorem dX3_digestOnto_126 : decode cX3_digestOnto 126 = .ok (.lmul, 1) := by decide +kernel
theorem dX3_digestOnto_127 : decode cX3_digestOnto 127 = .ok (.aload_n 0, 1) := by decide +kernel
theorem dX3_digestOnto_128 : decode cX3_digestOnto 128 = .ok (.getfield 65, 3) := by decide +kernel
theorem dX3_digestOnto_131 : decode cX3_digestOnto 131 = .ok (.ladd, 1) := by decide +kernel
theorem dX3_digestOnto_132 : decode cX3_digestOnto 132 = .ok (.lstore_n 3, 1) := by decide +kernel
theorem dX3_digestOnto_133 : decode cX3_digestOnto 133 = .ok (.aload_n 0, 1) := by decide +kernel
theorem dX3_digestOnto_134 : decode cX3_digestOnto 134 = .ok (.getfield 38, 3) := by decide +kernel
theorem dX3_digestOnto_137 : decode cX3_digestOnto 137 = .ok (.lload_n 3, 1) := by decide +kernel
theorem dX3_digestOnto_138 : decode cX3_digestOnto 138 = .ok (.invokevirtual 165, 3) := by decide +kernel
theorem dX3_digestOnto_141 : decode cX3_digestOnto 141 = .ok (.lstore_n 3, 1) := by decide +kernel
theorem dX3_digestOnto_142 : decode cX3_digestOnto 142 = .ok (.aload_n 0, 1) := by decide +kernel
theorem dX3_digestOnto_143 : decode cX3_digestOnto 143 = .ok (.getfield 45, 3) := by decide +kernel
theorem dX3_digestOnto_146 : decode cX3_digestOnto 146 = .ok (.lload_n 3, 1) := by decide +kernel

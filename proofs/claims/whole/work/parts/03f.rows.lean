theorem dX5_logs_21 : decode cX5_logs 21 = .ok (.goto (-17), 3) := by decide +kernel
theorem dX5_logs_24 : decode cX5_logs 24 = .ok (.aload_n 0, 1) := by decide +kernel
theorem dX5_logs_25 : decode cX5_logs 25 = .ok (.bipush 102, 2) := by decide +kernel
theorem dX5_logs_27 : decode cX5_logs 27 = .ok (.iload_n 1, 1) := by decide +kernel
theorem dX5_logs_28 : decode cX5_logs 28 = .ok (.i2l, 1) := by decide +kernel
theorem dX5_logs_29 : decode cX5_logs 29 = .ok (.lastore, 1) := by decide +kernel
theorem dX5_logs_30 : decode cX5_logs 30 = .ok (.aload_n 0, 1) := by decide +kernel
theorem dX5_logs_31 : decode cX5_logs 31 = .ok (.bipush 103, 2) := by decide +kernel
theorem dX5_logs_33 : decode cX5_logs 33 = .ok (.aload_n 0, 1) := by decide +kernel
theorem dX5_logs_34 : decode cX5_logs 34 = .ok (.bipush 8, 2) := by decide +kernel
theorem dX5_logs_36 : decode cX5_logs 36 = .ok (.laload, 1) := by decide +kernel
theorem dX5_logs_37 : decode cX5_logs 37 = .ok (.lastore, 1) := by decide +kernel
theorem dX5_logs_38 : decode cX5_logs 38 = .ok (.aload_n 0, 1) := by decide +kernel
theorem dX5_logs_39 : decode cX5_logs 39 = .ok (.bipush 104, 2) := by decide +kernel
theorem dX5_logs_41 : decode cX5_logs 41 = .ok (.aload_n 0, 1) := by decide +kernel
theorem dX5_logs_42 : decode cX5_logs 42 = .ok (.iload_n 1, 1) := by decide +kernel
theorem dX5_logs_43 : decode cX5_logs 43 = .ok (.iconst 3, 1) := by decide +kernel
theorem dX5_logs_44 : decode cX5_logs 44 = .ok (.invokestatic 82, 3) := by decide +kernel
theorem dX5_logs_47 : decode cX5_logs 47 = .ok (.laload, 1) := by decide +kernel
theorem dX5_logs_48 : decode cX5_logs 48 = .ok (.lastore, 1) := by decide +kernel
theorem dX5_logs_49 : decode cX5_logs 49 = .ok (.aload_n 0, 1) := by decide +kernel
theorem dX5_logs_50 : decode cX5_logs 50 = .ok (.bipush 13, 2) := by decide +kernel
theorem dX5_logs_52 : decode cX5_logs 52 = .ok (.dup2, 1) := by decide +kernel
theorem dX5_logs_53 : decode cX5_logs 53 = .ok (.laload, 1) := by decide +kernel
theorem dX5_logs_54 : decode cX5_logs 54 = .ok (.aload_n 0, 1) := by decide +kernel
theorem dX5_logs_55 : decode cX5_logs 55 = .ok (.bipush 13, 2) := by decide +kernel
theorem dX5_logs_57 : decode cX5_logs 57 = .ok (.laload, 1) := by decide +kernel
theorem dX5_logs_58 : decode cX5_logs 58 = .ok (.ldc2_w 78, 3) := by decide +kernel
theorem dX5_logs_61 : decode cX5_logs 61 = .ok (.lcmp, 1) := by decide +kernel
theorem dX5_logs_62 : decode cX5_logs 62 = .ok (.ifCond .ge 7, 3) := by decide +kernel
theorem dX5_logs_65 : decode cX5_logs 65 = .ok (.lconst 1, 1) := by decide +kernel
theorem dX5_logs_66 : decode cX5_logs 66 = .ok (.goto 4, 3) := by decide +kernel
theorem dX5_logs_69 : decode cX5_logs 69 = .ok (.lconst 0, 1) := by decide +kernel
theorem dX5_logs_70 : decode cX5_logs 70 = .ok (.ladd, 1) := by decide +kernel
theorem dX5_logs_71 : decode cX5_logs 71 = .ok (.lastore, 1) := by decide +kernel
theorem dX5_logs_72 : decode cX5_logs 72 = .ok (.return_, 1) := by decide +kernel
set_option maxRecDepth 20000 in
theorem ggX5_starts_X5_p : GoodIn wsX5_starts wsX5_p := goodIn_r _ [4] (by decide +kernel) (by decide +kernel)
set_option maxRecDepth 20000 in
theorem gX5_starts_X5_p : GoodIn wsX5_starts (va_wsS RX5 82 yX5_p wsX5_p) := goodIn_app (goodIn_of _ (by decide +kernel)) ggX5_starts_X5_p
set_option maxRecDepth 20000 in
theorem ggX5_starts_X5_logs : GoodIn wsX5_starts wsX5_logs := goodIn_r _ [7, 8, 1, 2, 3, 4] (by decide +kernel) (by decide +kernel)
set_option maxRecDepth 20000 in
theorem gX5_starts_X5_logs : GoodIn wsX5_starts (va_wsS RX5 99 yX5_logs wsX5_logs) := goodIn_app (goodIn_of _ (by decide +kernel)) ggX5_starts_X5_logs
theorem dX5_starts_0 : decode cX5_starts 0 = .ok (.aload_n 0, 1) := by decide +kernel
theorem dX5_starts_1 : decode cX5_starts 1 = .ok (.iload_n 1, 1) := by decide +kernel
theorem dX5_starts_2 : decode cX5_starts 2 = .ok (.iconst 3, 1) := by decide +kernel
theorem dX5_starts_3 : decode cX5_starts 3 = .ok (.invokestatic 82, 3) := by decide +kernel
theorem dX5_starts_6 : decode cX5_starts 6 = .ok (.laload, 1) := by decide +kernel
theorem dX5_starts_7 : decode cX5_starts 7 = .ok (.aload_n 0, 1) := by decide +kernel
theorem dX5_starts_8 : decode cX5_starts 8 = .ok (.iload_n 1, 1) := by decide +kernel
theorem dX5_starts_9 : decode cX5_starts 9 = .ok (.iconst 1, 1) := by decide +kernel
theorem dX5_starts_10 : decode cX5_starts 10 = .ok (.invokestatic 82, 3) := by decide +kernel
theorem dX5_starts_13 : decode cX5_starts 13 = .ok (.laload, 1) := by decide +kernel
theorem dX5_starts_14 : decode cX5_starts 14 = .ok (.lcmp, 1) := by decide +kernel
theorem dX5_starts_15 : decode cX5_starts 15 = .ok (.ifCond .lt 7, 3) := by decide +kernel
theorem dX5_starts_18 : decode cX5_starts 18 = .ok (.iconst 1, 1) := by decide +kernel
theorem dX5_starts_19 : decode cX5_starts 19 = .ok (.goto 4, 3) := by decide +kernel
theorem dX5_starts_22 : decode cX5_starts 22 = .ok (.iconst 0, 1) := by decide +kernel
theorem dX5_starts_23 : decode cX5_starts 23 = .ok (.istore_n 2, 1) := by decide +kernel
theorem dX5_starts_24 : decode cX5_starts 24 = .ok (.aload_n 0, 1) := by decide +kernel
theorem dX5_starts_25 : decode cX5_starts 25 = .ok (.iload_n 1, 1) := by decide +kernel
theorem dX5_starts_26 : decode cX5_starts 26 = .ok (.iconst 2, 1) := by decide +kernel
theorem dX5_starts_27 : decode cX5_starts 27 = .ok (.invokestatic 82, 3) := by decide +kernel
theorem dX5_starts_30 : decode cX5_starts 30 = .ok (.lconst 1, 1) := by decide +kernel
theorem dX5_starts_31 : decode cX5_starts 31 = .ok (.lastore, 1) := by decide +kernel
theorem dX5_starts_32 : decode cX5_starts 32 = .ok (.aload_n 0, 1) := by decide +kernel
theorem dX5_starts_33 : decode cX5_starts 33 = .ok (.iload_n 1, 1) := by decide +kernel
theorem dX5_starts_34 : decode cX5_starts 34 = .ok (.iconst 3, 1) := by decide +kernel
theorem dX5_starts_35 : decode cX5_starts 35 = .ok (.invokestatic 82, 3) := by decide +kernel
theorem dX5_starts_38 : decode cX5_starts 38 = .ok (.dup2, 1) := by decide +kernel
theorem dX5_starts_39 : decode cX5_starts 39 = .ok (.laload, 1) := by decide +kernel
theorem dX5_starts_40 : decode cX5_starts 40 = .ok (.lconst 1, 1) := by decide +kernel
theorem dX5_starts_41 : decode cX5_starts 41 = .ok (.ladd, 1) := by decide +kernel
theorem dX5_starts_42 : decode cX5_starts 42 = .ok (.lastore, 1) := by decide +kernel
theorem dX5_starts_43 : decode cX5_starts 43 = .ok (.aload_n 0, 1) := by decide +kernel
theorem dX5_starts_44 : decode cX5_starts 44 = .ok (.iload_n 1, 1) := by decide +kernel
theorem dX5_starts_45 : decode cX5_starts 45 = .ok (.iconst 4, 1) := by decide +kernel
theorem dX5_starts_46 : decode cX5_starts 46 = .ok (.invokestatic 82, 3) := by decide +kernel
theorem dX5_starts_49 : decode cX5_starts 49 = .ok (.dup2, 1) := by decide +kernel
theorem dX5_starts_50 : decode cX5_starts 50 = .ok (.laload, 1) := by decide +kernel
theorem dX5_starts_51 : decode cX5_starts 51 = .ok (.lconst 1, 1) := by decide +kernel
theorem dX5_starts_52 : decode cX5_starts 52 = .ok (.ladd, 1) := by decide +kernel
theorem dX5_starts_53 : decode cX5_starts 53 = .ok (.lastore, 1) := by decide +kernel
theorem dX5_starts_54 : decode cX5_starts 54 = .ok (.iload_n 2, 1) := by decide +kernel
theorem dX5_starts_55 : decode cX5_starts 55 = .ok (.ifCond .eq 28, 3) := by decide +kernel
theorem dX5_starts_58 : decode cX5_starts 58 = .ok (.aload_n 0, 1) := by decide +kernel
theorem dX5_starts_59 : decode cX5_starts 59 = .ok (.iload_n 1, 1) := by decide +kernel
theorem dX5_starts_60 : decode cX5_starts 60 = .ok (.bipush 6, 2) := by decide +kernel
theorem dX5_starts_62 : decode cX5_starts 62 = .ok (.invokestatic 82, 3) := by decide +kernel
theorem dX5_starts_65 : decode cX5_starts 65 = .ok (.dup2, 1) := by decide +kernel
theorem dX5_starts_66 : decode cX5_starts 66 = .ok (.laload, 1) := by decide +kernel
theorem dX5_starts_67 : decode cX5_starts 67 = .ok (.lconst 1, 1) := by decide +kernel
theorem dX5_starts_68 : decode cX5_starts 68 = .ok (.ladd, 1) := by decide +kernel
theorem dX5_starts_69 : decode cX5_starts 69 = .ok (.lastore, 1) := by decide +kernel
theorem dX5_starts_70 : decode cX5_starts 70 = .ok (.aload_n 0, 1) := by decide +kernel
theorem dX5_starts_71 : decode cX5_starts 71 = .ok (.bipush 9, 2) := by decide +kernel
theorem dX5_starts_73 : decode cX5_starts 73 = .ok (.dup2, 1) := by decide +kernel
theorem dX5_starts_74 : decode cX5_starts 74 = .ok (.laload, 1) := by decide +kernel
theorem dX5_starts_75 : decode cX5_starts 75 = .ok (.lconst 1, 1) := by decide +kernel
theorem dX5_starts_76 : decode cX5_starts 76 = .ok (.ladd, 1) := by decide +kernel
theorem dX5_starts_77 : decode cX5_starts 77 = .ok (.lastore, 1) := by decide +kernel
theorem dX5_starts_78 : decode cX5_starts 78 = .ok (.aload_n 0, 1) := by decide +kernel
theorem dX5_starts_79 : decode cX5_starts 79 = .ok (.iload_n 1, 1) := by decide +kernel
theorem dX5_starts_80 : decode cX5_starts 80 = .ok (.invokestatic 99, 3) := by decide +kernel
theorem dX5_starts_83 : decode cX5_starts 83 = .ok (.return_, 1) := by decide +kernel
theorem dX5_least_0 : decode cX5_least 0 = .ok (.lload_n 0, 1) := by decide +kernel
theorem dX5_least_1 : decode cX5_least 1 = .ok (.lload_n 2, 1) := by decide +kernel
theorem dX5_least_2 : decode cX5_least 2 = .ok (.lcmp, 1) := by decide +kernel
theorem dX5_least_3 : decode cX5_least 3 = .ok (.ifCond .ge 7, 3) := by decide +kernel
theorem dX5_least_6 : decode cX5_least 6 = .ok (.lload_n 0, 1) := by decide +kernel
theorem dX5_least_7 : decode cX5_least 7 = .ok (.goto 4, 3) := by decide +kernel
theorem dX5_least_10 : decode cX5_least 10 = .ok (.lload_n 2, 1) := by decide +kernel
theorem dX5_least_11 : decode cX5_least 11 = .ok (.lreturn, 1) := by decide +kernel
set_option maxRecDepth 20000 in
theorem ggX5_flows_X5_p : GoodIn wsX5_flows wsX5_p := goodIn_r _ [4] (by decide +kernel) (by decide +kernel)
set_option maxRecDepth 20000 in
theorem gX5_flows_X5_p : GoodIn wsX5_flows (va_wsS RX5 82 yX5_p wsX5_p) := goodIn_app (goodIn_of _ (by decide +kernel)) ggX5_flows_X5_p
set_option maxRecDepth 20000 in
theorem ggX5_flows_X5_least : GoodIn wsX5_flows wsX5_least := goodIn_r _ [7] (by decide +kernel) (by decide +kernel)
set_option maxRecDepth 20000 in
theorem gX5_flows_X5_least : GoodIn wsX5_flows (va_wsS RX5 103 yX5_least wsX5_least) := goodIn_app (goodIn_of _ (by decide +kernel)) ggX5_flows_X5_least
theorem dX5_flows_0 : decode cX5_flows 0 = .ok (.iconst 0, 1) := by decide +kernel
theorem dX5_flows_1 : decode cX5_flows 1 = .ok (.istore_n 2, 1) := by decide +kernel
theorem dX5_flows_2 : decode cX5_flows 2 = .ok (.iload_n 2, 1) := by decide +kernel
theorem dX5_flows_3 : decode cX5_flows 3 = .ok (.i2l, 1) := by decide +kernel
theorem dX5_flows_4 : decode cX5_flows 4 = .ok (.aload_n 0, 1) := by decide +kernel
theorem dX5_flows_5 : decode cX5_flows 5 = .ok (.bipush 7, 2) := by decide +kernel
theorem dX5_flows_7 : decode cX5_flows 7 = .ok (.laload, 1) := by decide +kernel
theorem dX5_flows_8 : decode cX5_flows 8 = .ok (.lcmp, 1) := by decide +kernel
theorem dX5_flows_9 : decode cX5_flows 9 = .ok (.ifCond .ge 59, 3) := by decide +kernel
theorem dX5_flows_12 : decode cX5_flows 12 = .ok (.aload_n 0, 1) := by decide +kernel
theorem dX5_flows_13 : decode cX5_flows 13 = .ok (.iload_n 2, 1) := by decide +kernel
theorem dX5_flows_14 : decode cX5_flows 14 = .ok (.iconst 2, 1) := by decide +kernel
theorem dX5_flows_15 : decode cX5_flows 15 = .ok (.invokestatic 82, 3) := by decide +kernel
theorem dX5_flows_18 : decode cX5_flows 18 = .ok (.laload, 1) := by decide +kernel
theorem dX5_flows_19 : decode cX5_flows 19 = .ok (.lconst 1, 1) := by decide +kernel
theorem dX5_flows_20 : decode cX5_flows 20 = .ok (.lcmp, 1) := by decide +kernel
theorem dX5_flows_21 : decode cX5_flows 21 = .ok (.ifCond .ne 41, 3) := by decide +kernel
theorem dX5_flows_24 : decode cX5_flows 24 = .ok (.aload_n 0, 1) := by decide +kernel
theorem dX5_flows_25 : decode cX5_flows 25 = .ok (.bipush 14, 2) := by decide +kernel
theorem dX5_flows_27 : decode cX5_flows 27 = .ok (.dup2, 1) := by decide +kernel
theorem dX5_flows_28 : decode cX5_flows 28 = .ok (.laload, 1) := by decide +kernel
theorem dX5_flows_29 : decode cX5_flows 29 = .ok (.aload_n 0, 1) := by decide +kernel
theorem dX5_flows_30 : decode cX5_flows 30 = .ok (.iload_n 2, 1) := by decide +kernel
theorem dX5_flows_31 : decode cX5_flows 31 = .ok (.iconst 0, 1) := by decide +kernel
theorem dX5_flows_32 : decode cX5_flows 32 = .ok (.invokestatic 82, 3) := by decide +kernel
theorem dX5_flows_35 : decode cX5_flows 35 = .ok (.laload, 1) := by decide +kernel
theorem dX5_flows_36 : decode cX5_flows 36 = .ok (.ladd, 1) := by decide +kernel
theorem dX5_flows_37 : decode cX5_flows 37 = .ok (.lastore, 1) := by decide +kernel
theorem dX5_flows_38 : decode cX5_flows 38 = .ok (.aload_n 0, 1) := by decide +kernel
theorem dX5_flows_39 : decode cX5_flows 39 = .ok (.iconst 1, 1) := by decide +kernel
theorem dX5_flows_40 : decode cX5_flows 40 = .ok (.dup2, 1) := by decide +kernel
theorem dX5_flows_41 : decode cX5_flows 41 = .ok (.laload, 1) := by decide +kernel
theorem dX5_flows_42 : decode cX5_flows 42 = .ok (.aload_n 0, 1) := by decide +kernel
theorem dX5_flows_43 : decode cX5_flows 43 = .ok (.iload_n 2, 1) := by decide +kernel
theorem dX5_flows_44 : decode cX5_flows 44 = .ok (.iconst 0, 1) := by decide +kernel
theorem dX5_flows_45 : decode cX5_flows 45 = .ok (.invokestatic 82, 3) := by decide +kernel
theorem dX5_flows_48 : decode cX5_flows 48 = .ok (.laload, 1) := by decide +kernel
theorem dX5_flows_49 : decode cX5_flows 49 = .ok (.ladd, 1) := by decide +kernel
theorem dX5_flows_50 : decode cX5_flows 50 = .ok (.lastore, 1) := by decide +kernel
theorem dX5_flows_51 : decode cX5_flows 51 = .ok (.aload_n 0, 1) := by decide +kernel
theorem dX5_flows_52 : decode cX5_flows 52 = .ok (.iload_n 2, 1) := by decide +kernel
theorem dX5_flows_53 : decode cX5_flows 53 = .ok (.iconst 5, 1) := by decide +kernel
theorem dX5_flows_54 : decode cX5_flows 54 = .ok (.invokestatic 82, 3) := by decide +kernel
theorem dX5_flows_57 : decode cX5_flows 57 = .ok (.dup2, 1) := by decide +kernel
theorem dX5_flows_58 : decode cX5_flows 58 = .ok (.laload, 1) := by decide +kernel
theorem dX5_flows_59 : decode cX5_flows 59 = .ok (.lconst 1, 1) := by decide +kernel
theorem dX5_flows_60 : decode cX5_flows 60 = .ok (.ladd, 1) := by decide +kernel
theorem dX5_flows_61 : decode cX5_flows 61 = .ok (.lastore, 1) := by decide +kernel
theorem dX5_flows_62 : decode cX5_flows 62 = .ok (.iinc 2 1, 3) := by decide +kernel
theorem dX5_flows_65 : decode cX5_flows 65 = .ok (.goto (-63), 3) := by decide +kernel
theorem dX5_flows_68 : decode cX5_flows 68 = .ok (.aload_n 0, 1) := by decide +kernel
theorem dX5_flows_69 : decode cX5_flows 69 = .ok (.iconst 1, 1) := by decide +kernel
theorem dX5_flows_70 : decode cX5_flows 70 = .ok (.laload, 1) := by decide +kernel
theorem dX5_flows_71 : decode cX5_flows 71 = .ok (.aload_n 0, 1) := by decide +kernel
theorem dX5_flows_72 : decode cX5_flows 72 = .ok (.iconst 0, 1) := by decide +kernel
theorem dX5_flows_73 : decode cX5_flows 73 = .ok (.laload, 1) := by decide +kernel
theorem dX5_flows_74 : decode cX5_flows 74 = .ok (.invokestatic 103, 3) := by decide +kernel
theorem dX5_flows_77 : decode cX5_flows 77 = .ok (.lstore_n 2, 1) := by decide +kernel
theorem dX5_flows_78 : decode cX5_flows 78 = .ok (.aload_n 0, 1) := by decide +kernel
theorem dX5_flows_79 : decode cX5_flows 79 = .ok (.bipush 15, 2) := by decide +kernel
theorem dX5_flows_81 : decode cX5_flows 81 = .ok (.dup2, 1) := by decide +kernel
theorem dX5_flows_82 : decode cX5_flows 82 = .ok (.laload, 1) := by decide +kernel
theorem dX5_flows_83 : decode cX5_flows 83 = .ok (.aload_n 0, 1) := by decide +kernel
theorem dX5_flows_84 : decode cX5_flows 84 = .ok (.iconst 1, 1) := by decide +kernel
theorem dX5_flows_85 : decode cX5_flows 85 = .ok (.laload, 1) := by decide +kernel
theorem dX5_flows_86 : decode cX5_flows 86 = .ok (.lload_n 2, 1) := by decide +kernel
theorem dX5_flows_87 : decode cX5_flows 87 = .ok (.lsub, 1) := by decide +kernel
theorem dX5_flows_88 : decode cX5_flows 88 = .ok (.ladd, 1) := by decide +kernel
theorem dX5_flows_89 : decode cX5_flows 89 = .ok (.lastore, 1) := by decide +kernel
theorem dX5_flows_90 : decode cX5_flows 90 = .ok (.lload_n 2, 1) := by decide +kernel
theorem dX5_flows_91 : decode cX5_flows 91 = .ok (.aload_n 0, 1) := by decide +kernel
theorem dX5_flows_92 : decode cX5_flows 92 = .ok (.bipush 24, 2) := by decide +kernel
theorem dX5_flows_94 : decode cX5_flows 94 = .ok (.iload_n 1, 1) := by decide +kernel
theorem dX5_flows_95 : decode cX5_flows 95 = .ok (.iadd, 1) := by decide +kernel
theorem dX5_flows_96 : decode cX5_flows 96 = .ok (.laload, 1) := by decide +kernel
theorem dX5_flows_97 : decode cX5_flows 97 = .ok (.invokestatic 103, 3) := by decide +kernel
theorem dX5_flows_100 : decode cX5_flows 100 = .ok (.lstore 4, 2) := by decide +kernel
theorem dX5_flows_102 : decode cX5_flows 102 = .ok (.aload_n 0, 1) := by decide +kernel
theorem dX5_flows_103 : decode cX5_flows 103 = .ok (.bipush 16, 2) := by decide +kernel
theorem dX5_flows_105 : decode cX5_flows 105 = .ok (.dup2, 1) := by decide +kernel
theorem dX5_flows_106 : decode cX5_flows 106 = .ok (.laload, 1) := by decide +kernel
theorem dX5_flows_107 : decode cX5_flows 107 = .ok (.lload 4, 2) := by decide +kernel
theorem dX5_flows_109 : decode cX5_flows 109 = .ok (.ladd, 1) := by decide +kernel
theorem dX5_flows_110 : decode cX5_flows 110 = .ok (.lastore, 1) := by decide +kernel
theorem dX5_flows_111 : decode cX5_flows 111 = .ok (.aload_n 0, 1) := by decide +kernel
theorem dX5_flows_112 : decode cX5_flows 112 = .ok (.bipush 17, 2) := by decide +kernel
theorem dX5_flows_114 : decode cX5_flows 114 = .ok (.dup2, 1) := by decide +kernel
theorem dX5_flows_115 : decode cX5_flows 115 = .ok (.laload, 1) := by decide +kernel
theorem dX5_flows_116 : decode cX5_flows 116 = .ok (.aload_n 0, 1) := by decide +kernel
theorem dX5_flows_117 : decode cX5_flows 117 = .ok (.bipush 24, 2) := by decide +kernel
theorem dX5_flows_119 : decode cX5_flows 119 = .ok (.iload_n 1, 1) := by decide +kernel
theorem dX5_flows_120 : decode cX5_flows 120 = .ok (.iadd, 1) := by decide +kernel
theorem dX5_flows_121 : decode cX5_flows 121 = .ok (.laload, 1) := by decide +kernel
theorem dX5_flows_122 : decode cX5_flows 122 = .ok (.lload 4, 2) := by decide +kernel
theorem dX5_flows_124 : decode cX5_flows 124 = .ok (.lsub, 1) := by decide +kernel
theorem dX5_flows_125 : decode cX5_flows 125 = .ok (.ladd, 1) := by decide +kernel
theorem dX5_flows_126 : decode cX5_flows 126 = .ok (.lastore, 1) := by decide +kernel
theorem dX5_flows_127 : decode cX5_flows 127 = .ok (.lload_n 2, 1) := by decide +kernel
theorem dX5_flows_128 : decode cX5_flows 128 = .ok (.lload 4, 2) := by decide +kernel
theorem dX5_flows_130 : decode cX5_flows 130 = .ok (.lsub, 1) := by decide +kernel
theorem dX5_flows_131 : decode cX5_flows 131 = .ok (.aload_n 0, 1) := by decide +kernel
theorem dX5_flows_132 : decode cX5_flows 132 = .ok (.iconst 5, 1) := by decide +kernel
theorem dX5_flows_133 : decode cX5_flows 133 = .ok (.laload, 1) := by decide +kernel
theorem dX5_flows_134 : decode cX5_flows 134 = .ok (.invokestatic 103, 3) := by decide +kernel
theorem dX5_flows_137 : decode cX5_flows 137 = .ok (.lstore 6, 2) := by decide +kernel
theorem dX5_flows_139 : decode cX5_flows 139 = .ok (.aload_n 0, 1) := by decide +kernel
theorem dX5_flows_140 : decode cX5_flows 140 = .ok (.bipush 18, 2) := by decide +kernel
theorem dX5_flows_142 : decode cX5_flows 142 = .ok (.dup2, 1) := by decide +kernel
theorem dX5_flows_143 : decode cX5_flows 143 = .ok (.laload, 1) := by decide +kernel
theorem dX5_flows_144 : decode cX5_flows 144 = .ok (.lload 6, 2) := by decide +kernel
theorem dX5_flows_146 : decode cX5_flows 146 = .ok (.ladd, 1) := by decide +kernel
theorem dX5_flows_147 : decode cX5_flows 147 = .ok (.lastore, 1) := by decide +kernel
theorem dX5_flows_148 : decode cX5_flows 148 = .ok (.aload_n 0, 1) := by decide +kernel
theorem dX5_flows_149 : decode cX5_flows 149 = .ok (.iconst 1, 1) := by decide +kernel
theorem dX5_flows_150 : decode cX5_flows 150 = .ok (.lload_n 2, 1) := by decide +kernel
theorem dX5_flows_151 : decode cX5_flows 151 = .ok (.lload 4, 2) := by decide +kernel
theorem dX5_flows_153 : decode cX5_flows 153 = .ok (.lsub, 1) := by decide +kernel
theorem dX5_flows_154 : decode cX5_flows 154 = .ok (.lload 6, 2) := by decide +kernel
theorem dX5_flows_156 : decode cX5_flows 156 = .ok (.lsub, 1) := by decide +kernel
theorem dX5_flows_157 : decode cX5_flows 157 = .ok (.lastore, 1) := by decide +kernel
theorem dX5_flows_158 : decode cX5_flows 158 = .ok (.return_, 1) := by decide +kernel
theorem dX5_balance_0 : decode cX5_balance 0 = .ok (.aload_n 0, 1) := by decide +kernel
theorem dX5_balance_1 : decode cX5_balance 1 = .ok (.iconst 1, 1) := by decide +kernel
theorem dX5_balance_2 : decode cX5_balance 2 = .ok (.laload, 1) := by decide +kernel
theorem dX5_balance_3 : decode cX5_balance 3 = .ok (.aload_n 0, 1) := by decide +kernel
theorem dX5_balance_4 : decode cX5_balance 4 = .ok (.bipush 14, 2) := by decide +kernel
theorem dX5_balance_6 : decode cX5_balance 6 = .ok (.laload, 1) := by decide +kernel
theorem dX5_balance_7 : decode cX5_balance 7 = .ok (.lsub, 1) := by decide +kernel
theorem dX5_balance_8 : decode cX5_balance 8 = .ok (.aload_n 0, 1) := by decide +kernel
theorem dX5_balance_9 : decode cX5_balance 9 = .ok (.bipush 15, 2) := by decide +kernel
theorem dX5_balance_11 : decode cX5_balance 11 = .ok (.laload, 1) := by decide +kernel
theorem dX5_balance_12 : decode cX5_balance 12 = .ok (.ladd, 1) := by decide +kernel
theorem dX5_balance_13 : decode cX5_balance 13 = .ok (.aload_n 0, 1) := by decide +kernel
theorem dX5_balance_14 : decode cX5_balance 14 = .ok (.bipush 16, 2) := by decide +kernel
theorem dX5_balance_16 : decode cX5_balance 16 = .ok (.laload, 1) := by decide +kernel
theorem dX5_balance_17 : decode cX5_balance 17 = .ok (.ladd, 1) := by decide +kernel
theorem dX5_balance_18 : decode cX5_balance 18 = .ok (.lreturn, 1) := by decide +kernel
set_option maxRecDepth 20000 in
theorem ggX5_passes_X5_balance : GoodIn wsX5_passes wsX5_balance := goodIn_r _ [5] (by decide +kernel) (by decide +kernel)
set_option maxRecDepth 20000 in
theorem gX5_passes_X5_balance : GoodIn wsX5_passes (va_wsS RX5 109 yX5_balance wsX5_balance) := goodIn_app (goodIn_of _ (by decide +kernel)) ggX5_passes_X5_balance
set_option maxRecDepth 20000 in
theorem ggX5_passes_X5_p : GoodIn wsX5_passes wsX5_p := goodIn_r _ [8] (by decide +kernel) (by decide +kernel)
set_option maxRecDepth 20000 in
theorem gX5_passes_X5_p : GoodIn wsX5_passes (va_wsS RX5 82 yX5_p wsX5_p) := goodIn_app (goodIn_of _ (by decide +kernel)) ggX5_passes_X5_p
set_option maxRecDepth 20000 in
theorem ggX5_passes_X5_rests : GoodIn wsX5_passes wsX5_rests := goodIn_r _ [11, 12, 13, 4, 14, 6, 7, 8] (by decide +kernel) (by decide +kernel)
set_option maxRecDepth 20000 in
theorem gX5_passes_X5_rests : GoodIn wsX5_passes (va_wsS RX5 113 yX5_rests wsX5_rests) := goodIn_app (goodIn_of _ (by decide +kernel)) ggX5_passes_X5_rests
set_option maxRecDepth 20000 in
theorem ggX5_passes_X5_starter : GoodIn wsX5_passes wsX5_starter := goodIn_r _ [17, 12, 13, 4, 14, 6, 7, 8, 18, 19, 20] (by decide +kernel) (by decide +kernel)
set_option maxRecDepth 20000 in
theorem gX5_passes_X5_starter : GoodIn wsX5_passes (va_wsS RX5 117 yX5_starter wsX5_starter) := goodIn_app (goodIn_of _ (by decide +kernel)) ggX5_passes_X5_starter
set_option maxRecDepth 20000 in
theorem ggX5_passes_X5_starts : GoodIn wsX5_passes wsX5_starts := goodIn_r _ [23, 6, 7, 4, 8, 24, 25, 26, 27] (by decide +kernel) (by decide +kernel)
set_option maxRecDepth 20000 in
theorem gX5_passes_X5_starts : GoodIn wsX5_passes (va_wsS RX5 121 yX5_starts wsX5_starts) := goodIn_app (goodIn_of _ (by decide +kernel)) ggX5_passes_X5_starts
set_option maxRecDepth 20000 in
theorem ggX5_passes_X5_flows : GoodIn wsX5_passes wsX5_flows := goodIn_r _ [30, 6, 7, 4, 8, 31, 32, 33] (by decide +kernel) (by decide +kernel)
set_option maxRecDepth 20000 in
theorem gX5_passes_X5_flows : GoodIn wsX5_passes (va_wsS RX5 124 yX5_flows wsX5_flows) := goodIn_app (goodIn_of _ (by decide +kernel)) ggX5_passes_X5_flows
theorem dX5_passes_0 : decode cX5_passes 0 = .ok (.aload_n 0, 1) := by decide +kernel
theorem dX5_passes_1 : decode cX5_passes 1 = .ok (.bipush 8, 2) := by decide +kernel
theorem dX5_passes_3 : decode cX5_passes 3 = .ok (.laload, 1) := by decide +kernel
theorem dX5_passes_4 : decode cX5_passes 4 = .ok (.ldc2_w 107, 3) := by decide +kernel
theorem dX5_passes_7 : decode cX5_passes 7 = .ok (.lrem, 1) := by decide +kernel
theorem dX5_passes_8 : decode cX5_passes 8 = .ok (.l2i, 1) := by decide +kernel
theorem dX5_passes_9 : decode cX5_passes 9 = .ok (.istore_n 1, 1) := by decide +kernel
theorem dX5_passes_10 : decode cX5_passes 10 = .ok (.iload_n 1, 1) := by decide +kernel
theorem dX5_passes_11 : decode cX5_passes 11 = .ok (.sipush 1320, 3) := by decide +kernel
theorem dX5_passes_14 : decode cX5_passes 14 = .ok (.if_icmp .ne 16, 3) := by decide +kernel
theorem dX5_passes_17 : decode cX5_passes 17 = .ok (.aload_n 0, 1) := by decide +kernel
theorem dX5_passes_18 : decode cX5_passes 18 = .ok (.bipush 23, 2) := by decide +kernel
theorem dX5_passes_20 : decode cX5_passes 20 = .ok (.lconst 1, 1) := by decide +kernel
theorem dX5_passes_21 : decode cX5_passes 21 = .ok (.lastore, 1) := by decide +kernel
theorem dX5_passes_22 : decode cX5_passes 22 = .ok (.aload_n 0, 1) := by decide +kernel
theorem dX5_passes_23 : decode cX5_passes 23 = .ok (.bipush 19, 2) := by decide +kernel
theorem dX5_passes_25 : decode cX5_passes 25 = .ok (.aload_n 0, 1) := by decide +kernel
theorem dX5_passes_26 : decode cX5_passes 26 = .ok (.invokestatic 109, 3) := by decide +kernel
theorem dX5_passes_29 : decode cX5_passes 29 = .ok (.lastore, 1) := by decide +kernel
theorem dX5_passes_30 : decode cX5_passes 30 = .ok (.iconst 0, 1) := by decide +kernel
theorem dX5_passes_31 : decode cX5_passes 31 = .ok (.istore_n 2, 1) := by decide +kernel
theorem dX5_passes_32 : decode cX5_passes 32 = .ok (.iload_n 2, 1) := by decide +kernel
theorem dX5_passes_33 : decode cX5_passes 33 = .ok (.i2l, 1) := by decide +kernel
theorem dX5_passes_34 : decode cX5_passes 34 = .ok (.aload_n 0, 1) := by decide +kernel
theorem dX5_passes_35 : decode cX5_passes 35 = .ok (.bipush 7, 2) := by decide +kernel
theorem dX5_passes_37 : decode cX5_passes 37 = .ok (.laload, 1) := by decide +kernel
theorem dX5_passes_38 : decode cX5_passes 38 = .ok (.lcmp, 1) := by decide +kernel
theorem dX5_passes_39 : decode cX5_passes 39 = .ok (.ifCond .ge 24, 3) := by decide +kernel
theorem dX5_passes_42 : decode cX5_passes 42 = .ok (.iload_n 1, 1) := by decide +kernel
theorem dX5_passes_43 : decode cX5_passes 43 = .ok (.bipush 60, 2) := by decide +kernel
theorem dX5_passes_45 : decode cX5_passes 45 = .ok (.irem, 1) := by decide +kernel
theorem dX5_passes_46 : decode cX5_passes 46 = .ok (.ifCond .ne 17, 3) := by decide +kernel
theorem dX5_passes_49 : decode cX5_passes 49 = .ok (.aload_n 0, 1) := by decide +kernel
theorem dX5_passes_50 : decode cX5_passes 50 = .ok (.iload_n 2, 1) := by decide +kernel
theorem dX5_passes_51 : decode cX5_passes 51 = .ok (.iconst 3, 1) := by decide +kernel
theorem dX5_passes_52 : decode cX5_passes 52 = .ok (.invokestatic 82, 3) := by decide +kernel
theorem dX5_passes_55 : decode cX5_passes 55 = .ok (.lconst 0, 1) := by decide +kernel
theorem dX5_passes_56 : decode cX5_passes 56 = .ok (.lastore, 1) := by decide +kernel
theorem dX5_passes_57 : decode cX5_passes 57 = .ok (.iinc 2 1, 3) := by decide +kernel
theorem dX5_passes_60 : decode cX5_passes 60 = .ok (.goto (-28), 3) := by decide +kernel
theorem dX5_passes_63 : decode cX5_passes 63 = .ok (.aload_n 0, 1) := by decide +kernel
theorem dX5_passes_64 : decode cX5_passes 64 = .ok (.iconst 1, 1) := by decide +kernel
theorem dX5_passes_65 : decode cX5_passes 65 = .ok (.laload, 1) := by decide +kernel
theorem dX5_passes_66 : decode cX5_passes 66 = .ok (.aload_n 0, 1) := by decide +kernel
theorem dX5_passes_67 : decode cX5_passes 67 = .ok (.iconst 3, 1) := by decide +kernel
theorem dX5_passes_68 : decode cX5_passes 68 = .ok (.laload, 1) := by decide +kernel
theorem dX5_passes_69 : decode cX5_passes 69 = .ok (.lcmp, 1) := by decide +kernel
theorem dX5_passes_70 : decode cX5_passes 70 = .ok (.ifCond .lt 10, 3) := by decide +kernel
theorem dX5_passes_73 : decode cX5_passes 73 = .ok (.aload_n 0, 1) := by decide +kernel
theorem dX5_passes_74 : decode cX5_passes 74 = .ok (.invokestatic 113, 3) := by decide +kernel
theorem dX5_passes_77 : decode cX5_passes 77 = .ok (.goto 18, 3) := by decide +kernel
theorem dX5_passes_80 : decode cX5_passes 80 = .ok (.aload_n 0, 1) := by decide +kernel
theorem dX5_passes_81 : decode cX5_passes 81 = .ok (.invokestatic 117, 3) := by decide +kernel
theorem dX5_passes_84 : decode cX5_passes 84 = .ok (.istore_n 2, 1) := by decide +kernel
theorem dX5_passes_85 : decode cX5_passes 85 = .ok (.iload_n 2, 1) := by decide +kernel
theorem dX5_passes_86 : decode cX5_passes 86 = .ok (.iconst (-1), 1) := by decide +kernel
theorem dX5_passes_87 : decode cX5_passes 87 = .ok (.if_icmp .eq 8, 3) := by decide +kernel
theorem dX5_passes_90 : decode cX5_passes 90 = .ok (.aload_n 0, 1) := by decide +kernel
theorem dX5_passes_91 : decode cX5_passes 91 = .ok (.iload_n 2, 1) := by decide +kernel
theorem dX5_passes_92 : decode cX5_passes 92 = .ok (.invokestatic 121, 3) := by decide +kernel
theorem dX5_passes_95 : decode cX5_passes 95 = .ok (.aload_n 0, 1) := by decide +kernel
theorem dX5_passes_96 : decode cX5_passes 96 = .ok (.iload_n 1, 1) := by decide +kernel
theorem dX5_passes_97 : decode cX5_passes 97 = .ok (.bipush 60, 2) := by decide +kernel
theorem dX5_passes_99 : decode cX5_passes 99 = .ok (.idiv, 1) := by decide +kernel
theorem dX5_passes_100 : decode cX5_passes 100 = .ok (.invokestatic 124, 3) := by decide +kernel
theorem dX5_passes_103 : decode cX5_passes 103 = .ok (.aload_n 0, 1) := by decide +kernel
theorem dX5_passes_104 : decode cX5_passes 104 = .ok (.bipush 10, 2) := by decide +kernel
theorem dX5_passes_106 : decode cX5_passes 106 = .ok (.dup2, 1) := by decide +kernel
theorem dX5_passes_107 : decode cX5_passes 107 = .ok (.laload, 1) := by decide +kernel
theorem dX5_passes_108 : decode cX5_passes 108 = .ok (.aload_n 0, 1) := by decide +kernel
theorem dX5_passes_109 : decode cX5_passes 109 = .ok (.iconst 1, 1) := by decide +kernel
theorem dX5_passes_110 : decode cX5_passes 110 = .ok (.laload, 1) := by decide +kernel
theorem dX5_passes_111 : decode cX5_passes 111 = .ok (.aload_n 0, 1) := by decide +kernel
theorem dX5_passes_112 : decode cX5_passes 112 = .ok (.iconst 2, 1) := by decide +kernel
theorem dX5_passes_113 : decode cX5_passes 113 = .ok (.laload, 1) := by decide +kernel
theorem dX5_passes_114 : decode cX5_passes 114 = .ok (.lcmp, 1) := by decide +kernel
theorem dX5_passes_115 : decode cX5_passes 115 = .ok (.ifCond .ge 7, 3) := by decide +kernel
theorem dX5_passes_118 : decode cX5_passes 118 = .ok (.lconst 1, 1) := by decide +kernel
theorem dX5_passes_119 : decode cX5_passes 119 = .ok (.goto 4, 3) := by decide +kernel
theorem dX5_passes_122 : decode cX5_passes 122 = .ok (.lconst 0, 1) := by decide +kernel
theorem dX5_passes_123 : decode cX5_passes 123 = .ok (.ladd, 1) := by decide +kernel
theorem dX5_passes_124 : decode cX5_passes 124 = .ok (.lastore, 1) := by decide +kernel
theorem dX5_passes_125 : decode cX5_passes 125 = .ok (.aload_n 0, 1) := by decide +kernel
theorem dX5_passes_126 : decode cX5_passes 126 = .ok (.bipush 8, 2) := by decide +kernel
theorem dX5_passes_128 : decode cX5_passes 128 = .ok (.dup2, 1) := by decide +kernel
theorem dX5_passes_129 : decode cX5_passes 129 = .ok (.laload, 1) := by decide +kernel
theorem dX5_passes_130 : decode cX5_passes 130 = .ok (.lconst 1, 1) := by decide +kernel
theorem dX5_passes_131 : decode cX5_passes 131 = .ok (.ladd, 1) := by decide +kernel
theorem dX5_passes_132 : decode cX5_passes 132 = .ok (.lastore, 1) := by decide +kernel
theorem dX5_passes_133 : decode cX5_passes 133 = .ok (.iload_n 1, 1) := by decide +kernel
theorem dX5_passes_134 : decode cX5_passes 134 = .ok (.sipush 359, 3) := by decide +kernel
theorem dX5_passes_137 : decode cX5_passes 137 = .ok (.if_icmp .ne 38, 3) := by decide +kernel
theorem dX5_passes_140 : decode cX5_passes 140 = .ok (.aload_n 0, 1) := by decide +kernel
theorem dX5_passes_141 : decode cX5_passes 141 = .ok (.bipush 23, 2) := by decide +kernel
theorem dX5_passes_143 : decode cX5_passes 143 = .ok (.laload, 1) := by decide +kernel
theorem dX5_passes_144 : decode cX5_passes 144 = .ok (.lconst 1, 1) := by decide +kernel
theorem dX5_passes_145 : decode cX5_passes 145 = .ok (.lcmp, 1) := by decide +kernel
theorem dX5_passes_146 : decode cX5_passes 146 = .ok (.ifCond .ne 29, 3) := by decide +kernel
theorem dX5_passes_149 : decode cX5_passes 149 = .ok (.aload_n 0, 1) := by decide +kernel
theorem dX5_passes_150 : decode cX5_passes 150 = .ok (.bipush 23, 2) := by decide +kernel
theorem dX5_passes_152 : decode cX5_passes 152 = .ok (.lconst 0, 1) := by decide +kernel
theorem dX5_passes_153 : decode cX5_passes 153 = .ok (.lastore, 1) := by decide +kernel
theorem dX5_passes_154 : decode cX5_passes 154 = .ok (.aload_n 0, 1) := by decide +kernel
theorem dX5_passes_155 : decode cX5_passes 155 = .ok (.bipush 11, 2) := by decide +kernel
theorem dX5_passes_157 : decode cX5_passes 157 = .ok (.dup2, 1) := by decide +kernel
theorem dX5_passes_158 : decode cX5_passes 158 = .ok (.laload, 1) := by decide +kernel
theorem dX5_passes_159 : decode cX5_passes 159 = .ok (.lconst 1, 1) := by decide +kernel
theorem dX5_passes_160 : decode cX5_passes 160 = .ok (.ladd, 1) := by decide +kernel
theorem dX5_passes_161 : decode cX5_passes 161 = .ok (.lastore, 1) := by decide +kernel
theorem dX5_passes_162 : decode cX5_passes 162 = .ok (.aload_n 0, 1) := by decide +kernel
theorem dX5_passes_163 : decode cX5_passes 163 = .ok (.bipush 12, 2) := by decide +kernel
theorem dX5_passes_165 : decode cX5_passes 165 = .ok (.aload_n 0, 1) := by decide +kernel
theorem dX5_passes_166 : decode cX5_passes 166 = .ok (.bipush 19, 2) := by decide +kernel
theorem dX5_passes_168 : decode cX5_passes 168 = .ok (.laload, 1) := by decide +kernel
theorem dX5_passes_169 : decode cX5_passes 169 = .ok (.aload_n 0, 1) := by decide +kernel
theorem dX5_passes_170 : decode cX5_passes 170 = .ok (.invokestatic 109, 3) := by decide +kernel
theorem dX5_passes_173 : decode cX5_passes 173 = .ok (.lsub, 1) := by decide +kernel
theorem dX5_passes_174 : decode cX5_passes 174 = .ok (.lastore, 1) := by decide +kernel
theorem dX5_passes_175 : decode cX5_passes 175 = .ok (.return_, 1) := by decide +kernel
set_option maxRecDepth 20000 in
theorem ggX5_pass_X5_in : GoodIn wsX5_pass wsX5_in := goodIn_r _ [7] (by decide +kernel) (by decide +kernel)
set_option maxRecDepth 20000 in
theorem gX5_pass_X5_in : GoodIn wsX5_pass (va_wsS RX5 48 yX5_in wsX5_in) := goodIn_app (goodIn_of _ (by decide +kernel)) ggX5_pass_X5_in
set_option maxRecDepth 20000 in
theorem ggX5_pass_X5_goes : GoodIn wsX5_pass wsX5_goes := goodIn_r _ [11, 12, 53, 54, 55, 56, 57, 58, 59, 60, 61, 62, 63, 64, 65, 66] (by decide +kernel) (by decide +kernel)
set_option maxRecDepth 20000 in
theorem gX5_pass_X5_goes : GoodIn wsX5_pass (wsV RX5 62 RX5 yX5_goes wsX5_goes) := goodIn_app (goodIn_of _ (by decide +kernel)) ggX5_pass_X5_goes
set_option maxRecDepth 20000 in
theorem ggX5_pass_X5_saves : GoodIn wsX5_pass wsX5_saves := goodIn_r _ [16, 17, 18, 2, 53, 54, 55, 56, 57, 58, 59, 60, 61, 62, 63, 64, 65, 66] (by decide +kernel) (by decide +kernel)
set_option maxRecDepth 20000 in
theorem gX5_pass_X5_saves : GoodIn wsX5_pass (wsV RX5 55 RX5 yX5_saves wsX5_saves) := goodIn_app (goodIn_of _ (by decide +kernel)) ggX5_pass_X5_saves
set_option maxRecDepth 20000 in
theorem ggX5_pass_X5_passes : GoodIn wsX5_pass wsX5_passes := goodIn_r _ [21, 1, 22, 23, 6, 24, 25, 26, 27, 28, 29, 30, 31, 32, 33, 34, 35, 36, 37, 38, 39, 40, 41, 42, 43, 44, 45, 46, 47, 48, 49, 50, 51, 52] (by decide +kernel) (by decide +kernel)
set_option maxRecDepth 20000 in
theorem gX5_pass_X5_passes : GoodIn wsX5_pass (va_wsS RX5 129 yX5_passes wsX5_passes) := goodIn_app (goodIn_of _ (by decide +kernel)) ggX5_pass_X5_passes
theorem dX5_pass_0 : decode cX5_pass 0 = .ok (.aload_n 0, 1) := by decide +kernel
theorem dX5_pass_1 : decode cX5_pass 1 = .ok (.iload_n 1, 1) := by decide +kernel
theorem dX5_pass_2 : decode cX5_pass 2 = .ok (.i2l, 1) := by decide +kernel
theorem dX5_pass_3 : decode cX5_pass 3 = .ok (.lconst 1, 1) := by decide +kernel
theorem dX5_pass_4 : decode cX5_pass 4 = .ok (.ldc2_w 107, 3) := by decide +kernel
theorem dX5_pass_7 : decode cX5_pass 7 = .ok (.invokestatic 48, 3) := by decide +kernel
theorem dX5_pass_10 : decode cX5_pass 10 = .ok (.ifCond .ne 7, 3) := by decide +kernel
theorem dX5_pass_13 : decode cX5_pass 13 = .ok (.iconst 1, 1) := by decide +kernel
theorem dX5_pass_14 : decode cX5_pass 14 = .ok (.goto 4, 3) := by decide +kernel
theorem dX5_pass_17 : decode cX5_pass 17 = .ok (.iconst 0, 1) := by decide +kernel
theorem dX5_pass_18 : decode cX5_pass 18 = .ok (.aload_n 0, 1) := by decide +kernel
theorem dX5_pass_19 : decode cX5_pass 19 = .ok (.getfield 7, 3) := by decide +kernel
theorem dX5_pass_22 : decode cX5_pass 22 = .ok (.bipush 8, 2) := by decide +kernel
theorem dX5_pass_24 : decode cX5_pass 24 = .ok (.laload, 1) := by decide +kernel
theorem dX5_pass_25 : decode cX5_pass 25 = .ok (.iload_n 1, 1) := by decide +kernel
theorem dX5_pass_26 : decode cX5_pass 26 = .ok (.i2l, 1) := by decide +kernel
theorem dX5_pass_27 : decode cX5_pass 27 = .ok (.ladd, 1) := by decide +kernel
theorem dX5_pass_28 : decode cX5_pass 28 = .ok (.ldc2_w 127, 3) := by decide +kernel
theorem dX5_pass_31 : decode cX5_pass 31 = .ok (.lcmp, 1) := by decide +kernel
theorem dX5_pass_32 : decode cX5_pass 32 = .ok (.ifCond .le 7, 3) := by decide +kernel
theorem dX5_pass_35 : decode cX5_pass 35 = .ok (.iconst 1, 1) := by decide +kernel
theorem dX5_pass_36 : decode cX5_pass 36 = .ok (.goto 4, 3) := by decide +kernel
theorem dX5_pass_39 : decode cX5_pass 39 = .ok (.iconst 0, 1) := by decide +kernel
theorem dX5_pass_40 : decode cX5_pass 40 = .ok (.invokevirtual 62, 3) := by decide +kernel
theorem dX5_pass_43 : decode cX5_pass 43 = .ok (.ifCond .ne 5, 3) := by decide +kernel
theorem dX5_pass_46 : decode cX5_pass 46 = .ok (.iconst 0, 1) := by decide +kernel
theorem dX5_pass_47 : decode cX5_pass 47 = .ok (.ireturn, 1) := by decide +kernel
theorem dX5_pass_48 : decode cX5_pass 48 = .ok (.aload_n 0, 1) := by decide +kernel
theorem dX5_pass_49 : decode cX5_pass 49 = .ok (.invokevirtual 55, 3) := by decide +kernel
theorem dX5_pass_52 : decode cX5_pass 52 = .ok (.aload_n 0, 1) := by decide +kernel
theorem dX5_pass_53 : decode cX5_pass 53 = .ok (.getfield 7, 3) := by decide +kernel
theorem dX5_pass_56 : decode cX5_pass 56 = .ok (.bipush 9, 2) := by decide +kernel
theorem dX5_pass_58 : decode cX5_pass 58 = .ok (.laload, 1) := by decide +kernel
theorem dX5_pass_59 : decode cX5_pass 59 = .ok (.lstore_n 2, 1) := by decide +kernel
theorem dX5_pass_60 : decode cX5_pass 60 = .ok (.iconst 0, 1) := by decide +kernel
theorem dX5_pass_61 : decode cX5_pass 61 = .ok (.istore 4, 2) := by decide +kernel
theorem dX5_pass_63 : decode cX5_pass 63 = .ok (.iload 4, 2) := by decide +kernel
theorem dX5_pass_65 : decode cX5_pass 65 = .ok (.iload_n 1, 1) := by decide +kernel
theorem dX5_pass_66 : decode cX5_pass 66 = .ok (.if_icmp .ge 16, 3) := by decide +kernel
theorem dX5_pass_69 : decode cX5_pass 69 = .ok (.aload_n 0, 1) := by decide +kernel
theorem dX5_pass_70 : decode cX5_pass 70 = .ok (.getfield 7, 3) := by decide +kernel
theorem dX5_pass_73 : decode cX5_pass 73 = .ok (.invokestatic 129, 3) := by decide +kernel
theorem dX5_pass_76 : decode cX5_pass 76 = .ok (.iinc 4 1, 3) := by decide +kernel
theorem dX5_pass_79 : decode cX5_pass 79 = .ok (.goto (-16), 3) := by decide +kernel
theorem dX5_pass_82 : decode cX5_pass 82 = .ok (.aload_n 0, 1) := by decide +kernel
theorem dX5_pass_83 : decode cX5_pass 83 = .ok (.getfield 7, 3) := by decide +kernel
theorem dX5_pass_86 : decode cX5_pass 86 = .ok (.bipush 9, 2) := by decide +kernel
theorem dX5_pass_88 : decode cX5_pass 88 = .ok (.laload, 1) := by decide +kernel
theorem dX5_pass_89 : decode cX5_pass 89 = .ok (.lload_n 2, 1) := by decide +kernel
theorem dX5_pass_90 : decode cX5_pass 90 = .ok (.lsub, 1) := by decide +kernel
theorem dX5_pass_91 : decode cX5_pass 91 = .ok (.l2i, 1) := by decide +kernel
theorem dX5_pass_92 : decode cX5_pass 92 = .ok (.ireturn, 1) := by decide +kernel
theorem dX5_placeOf_0 : decode cX5_placeOf 0 = .ok (.iconst 0, 1) := by decide +kernel
theorem dX5_placeOf_1 : decode cX5_placeOf 1 = .ok (.istore_n 2, 1) := by decide +kernel
theorem dX5_placeOf_2 : decode cX5_placeOf 2 = .ok (.aload_n 0, 1) := by decide +kernel
theorem dX5_placeOf_3 : decode cX5_placeOf 3 = .ok (.bipush 96, 2) := by decide +kernel
theorem dX5_placeOf_5 : decode cX5_placeOf 5 = .ok (.iload_n 2, 1) := by decide +kernel
theorem dX5_placeOf_6 : decode cX5_placeOf 6 = .ok (.iadd, 1) := by decide +kernel
theorem dX5_placeOf_7 : decode cX5_placeOf 7 = .ok (.laload, 1) := by decide +kernel
theorem dX5_placeOf_8 : decode cX5_placeOf 8 = .ok (.iload_n 1, 1) := by decide +kernel
theorem dX5_placeOf_9 : decode cX5_placeOf 9 = .ok (.i2l, 1) := by decide +kernel
theorem dX5_placeOf_10 : decode cX5_placeOf 10 = .ok (.lcmp, 1) := by decide +kernel
theorem dX5_placeOf_11 : decode cX5_placeOf 11 = .ok (.ifCond .eq 9, 3) := by decide +kernel
theorem dX5_placeOf_14 : decode cX5_placeOf 14 = .ok (.iinc 2 1, 3) := by decide +kernel
theorem dX5_placeOf_17 : decode cX5_placeOf 17 = .ok (.goto (-15), 3) := by decide +kernel
theorem dX5_placeOf_20 : decode cX5_placeOf 20 = .ok (.iload_n 2, 1) := by decide +kernel
theorem dX5_placeOf_21 : decode cX5_placeOf 21 = .ok (.ireturn, 1) := by decide +kernel
set_option maxRecDepth 20000 in
theorem ggX5_pumpValue_X5_placeOf : GoodIn wsX5_pumpValue wsX5_placeOf := goodIn_r _ [5] (by decide +kernel) (by decide +kernel)
set_option maxRecDepth 20000 in
theorem gX5_pumpValue_X5_placeOf : GoodIn wsX5_pumpValue (va_wsS RX5 132 yX5_placeOf wsX5_placeOf) := goodIn_app (goodIn_of _ (by decide +kernel)) ggX5_pumpValue_X5_placeOf
set_option maxRecDepth 20000 in
theorem ggX5_pumpValue_X5_p : GoodIn wsX5_pumpValue wsX5_p := goodIn_r _ [8] (by decide +kernel) (by decide +kernel)
set_option maxRecDepth 20000 in
theorem gX5_pumpValue_X5_p : GoodIn wsX5_pumpValue (va_wsS RX5 82 yX5_p wsX5_p) := goodIn_app (goodIn_of _ (by decide +kernel)) ggX5_pumpValue_X5_p
theorem dX5_pumpValue_0 : decode cX5_pumpValue 0 = .ok (.iload_n 2, 1) := by decide +kernel
theorem dX5_pumpValue_1 : decode cX5_pumpValue 1 = .ok (.iconst 3, 1) := by decide +kernel
theorem dX5_pumpValue_2 : decode cX5_pumpValue 2 = .ok (.if_icmp .ne 14, 3) := by decide +kernel
theorem dX5_pumpValue_5 : decode cX5_pumpValue 5 = .ok (.aload_n 0, 1) := by decide +kernel
theorem dX5_pumpValue_6 : decode cX5_pumpValue 6 = .ok (.getfield 7, 3) := by decide +kernel
theorem dX5_pumpValue_9 : decode cX5_pumpValue 9 = .ok (.iload_n 1, 1) := by decide +kernel
theorem dX5_pumpValue_10 : decode cX5_pumpValue 10 = .ok (.invokestatic 132, 3) := by decide +kernel
theorem dX5_pumpValue_13 : decode cX5_pumpValue 13 = .ok (.goto 25, 3) := by decide +kernel
theorem dX5_pumpValue_16 : decode cX5_pumpValue 16 = .ok (.aload_n 0, 1) := by decide +kernel
theorem dX5_pumpValue_17 : decode cX5_pumpValue 17 = .ok (.getfield 7, 3) := by decide +kernel
theorem dX5_pumpValue_20 : decode cX5_pumpValue 20 = .ok (.iload_n 1, 1) := by decide +kernel
theorem dX5_pumpValue_21 : decode cX5_pumpValue 21 = .ok (.iload_n 2, 1) := by decide +kernel
theorem dX5_pumpValue_22 : decode cX5_pumpValue 22 = .ok (.iconst 3, 1) := by decide +kernel
theorem dX5_pumpValue_23 : decode cX5_pumpValue 23 = .ok (.if_icmp .ge 7, 3) := by decide +kernel
theorem dX5_pumpValue_26 : decode cX5_pumpValue 26 = .ok (.iload_n 2, 1) := by decide +kernel
theorem dX5_pumpValue_27 : decode cX5_pumpValue 27 = .ok (.goto 6, 3) := by decide +kernel
theorem dX5_pumpValue_30 : decode cX5_pumpValue 30 = .ok (.iload_n 2, 1) := by decide +kernel
theorem dX5_pumpValue_31 : decode cX5_pumpValue 31 = .ok (.iconst 1, 1) := by decide +kernel
theorem dX5_pumpValue_32 : decode cX5_pumpValue 32 = .ok (.isub, 1) := by decide +kernel
theorem dX5_pumpValue_33 : decode cX5_pumpValue 33 = .ok (.invokestatic 82, 3) := by decide +kernel
theorem dX5_pumpValue_36 : decode cX5_pumpValue 36 = .ok (.laload, 1) := by decide +kernel
theorem dX5_pumpValue_37 : decode cX5_pumpValue 37 = .ok (.l2i, 1) := by decide +kernel
theorem dX5_pumpValue_38 : decode cX5_pumpValue 38 = .ok (.ireturn, 1) := by decide +kernel
set_option maxRecDepth 20000 in
theorem ggX5_pump_X5_isPump : GoodIn wsX5_pump wsX5_isPump := goodIn_r _ [6, 7, 8, 9, 5, 10, 26, 27, 28, 29, 30, 31, 32, 33, 34, 35, 36, 37, 38, 39] (by decide +kernel) (by decide +kernel)
set_option maxRecDepth 20000 in
theorem gX5_pump_X5_isPump : GoodIn wsX5_pump (wsV RX5 85 RX5 yX5_isPump wsX5_isPump) := goodIn_app (goodIn_of _ (by decide +kernel)) ggX5_pump_X5_isPump
set_option maxRecDepth 20000 in
theorem ggX5_pump_X5_in : GoodIn wsX5_pump wsX5_in := goodIn_r _ [10] (by decide +kernel) (by decide +kernel)
set_option maxRecDepth 20000 in
theorem gX5_pump_X5_in : GoodIn wsX5_pump (va_wsS RX5 48 yX5_in wsX5_in) := goodIn_app (goodIn_of _ (by decide +kernel)) ggX5_pump_X5_in
set_option maxRecDepth 20000 in
theorem ggX5_pump_X5_goes : GoodIn wsX5_pump wsX5_goes := goodIn_r _ [14, 15, 26, 27, 28, 29, 30, 31, 32, 33, 34, 35, 36, 37, 38, 39] (by decide +kernel) (by decide +kernel)
set_option maxRecDepth 20000 in
theorem gX5_pump_X5_goes : GoodIn wsX5_pump (wsV RX5 62 RX5 yX5_goes wsX5_goes) := goodIn_app (goodIn_of _ (by decide +kernel)) ggX5_pump_X5_goes
set_option maxRecDepth 20000 in
theorem ggX5_pump_X5_pumpValue : GoodIn wsX5_pump wsX5_pumpValue := goodIn_r _ [19, 7, 20, 21, 5, 22, 23, 24, 25, 26, 27, 28, 29, 30, 31, 32, 33, 34, 35, 36, 37, 38, 39] (by decide +kernel) (by decide +kernel)
set_option maxRecDepth 20000 in
theorem gX5_pump_X5_pumpValue : GoodIn wsX5_pump (wsV RX5 137 RX5 yX5_pumpValue wsX5_pumpValue) := goodIn_app (goodIn_of _ (by decide +kernel)) ggX5_pump_X5_pumpValue
theorem dX5_pump_0 : decode cX5_pump 0 = .ok (.aload_n 0, 1) := by decide +kernel
theorem dX5_pump_1 : decode cX5_pump 1 = .ok (.aload_n 0, 1) := by decide +kernel
theorem dX5_pump_2 : decode cX5_pump 2 = .ok (.iload_n 1, 1) := by decide +kernel
theorem dX5_pump_3 : decode cX5_pump 3 = .ok (.invokevirtual 85, 3) := by decide +kernel
theorem dX5_pump_6 : decode cX5_pump 6 = .ok (.ifCond .ne 7, 3) := by decide +kernel
theorem dX5_pump_9 : decode cX5_pump 9 = .ok (.iconst 1, 1) := by decide +kernel
theorem dX5_pump_10 : decode cX5_pump 10 = .ok (.goto 4, 3) := by decide +kernel
theorem dX5_pump_13 : decode cX5_pump 13 = .ok (.iconst 0, 1) := by decide +kernel
theorem dX5_pump_14 : decode cX5_pump 14 = .ok (.iload_n 2, 1) := by decide +kernel
theorem dX5_pump_15 : decode cX5_pump 15 = .ok (.i2l, 1) := by decide +kernel
theorem dX5_pump_16 : decode cX5_pump 16 = .ok (.lconst 0, 1) := by decide +kernel
theorem dX5_pump_17 : decode cX5_pump 17 = .ok (.ldc2_w 135, 3) := by decide +kernel
theorem dX5_pump_20 : decode cX5_pump 20 = .ok (.invokestatic 48, 3) := by decide +kernel
theorem dX5_pump_23 : decode cX5_pump 23 = .ok (.ifCond .ne 7, 3) := by decide +kernel
theorem dX5_pump_26 : decode cX5_pump 26 = .ok (.iconst 1, 1) := by decide +kernel
theorem dX5_pump_27 : decode cX5_pump 27 = .ok (.goto 4, 3) := by decide +kernel
theorem dX5_pump_30 : decode cX5_pump 30 = .ok (.iconst 0, 1) := by decide +kernel
theorem dX5_pump_31 : decode cX5_pump 31 = .ok (.invokevirtual 62, 3) := by decide +kernel
theorem dX5_pump_34 : decode cX5_pump 34 = .ok (.ifCond .eq 12, 3) := by decide +kernel
theorem dX5_pump_37 : decode cX5_pump 37 = .ok (.aload_n 0, 1) := by decide +kernel
theorem dX5_pump_38 : decode cX5_pump 38 = .ok (.iload_n 1, 1) := by decide +kernel
theorem dX5_pump_39 : decode cX5_pump 39 = .ok (.iload_n 2, 1) := by decide +kernel
theorem dX5_pump_40 : decode cX5_pump 40 = .ok (.invokevirtual 137, 3) := by decide +kernel
theorem dX5_pump_43 : decode cX5_pump 43 = .ok (.goto 4, 3) := by decide +kernel
theorem dX5_pump_46 : decode cX5_pump 46 = .ok (.iconst 0, 1) := by decide +kernel
theorem dX5_pump_47 : decode cX5_pump 47 = .ok (.ireturn, 1) := by decide +kernel
set_option maxRecDepth 20000 in
theorem ggX5_demand_X5_in : GoodIn wsX5_demand wsX5_in := goodIn_r _ [6] (by decide +kernel) (by decide +kernel)
set_option maxRecDepth 20000 in
theorem gX5_demand_X5_in : GoodIn wsX5_demand (va_wsS RX5 48 yX5_in wsX5_in) := goodIn_app (goodIn_of _ (by decide +kernel)) ggX5_demand_X5_in
set_option maxRecDepth 20000 in
theorem ggX5_demand_X5_goes : GoodIn wsX5_demand wsX5_goes := goodIn_r _ [10, 11, 12, 13, 14, 15, 16, 17, 18, 19, 20, 21, 22, 23, 24, 25] (by decide +kernel) (by decide +kernel)
set_option maxRecDepth 20000 in
theorem gX5_demand_X5_goes : GoodIn wsX5_demand (wsV RX5 62 RX5 yX5_goes wsX5_goes) := goodIn_app (goodIn_of _ (by decide +kernel)) ggX5_demand_X5_goes
theorem dX5_demand_0 : decode cX5_demand 0 = .ok (.aload_n 0, 1) := by decide +kernel
theorem dX5_demand_1 : decode cX5_demand 1 = .ok (.iload_n 1, 1) := by decide +kernel
theorem dX5_demand_2 : decode cX5_demand 2 = .ok (.i2l, 1) := by decide +kernel
theorem dX5_demand_3 : decode cX5_demand 3 = .ok (.lconst 0, 1) := by decide +kernel
theorem dX5_demand_4 : decode cX5_demand 4 = .ok (.ldc2_w 74, 3) := by decide +kernel
theorem dX5_demand_7 : decode cX5_demand 7 = .ok (.invokestatic 48, 3) := by decide +kernel
theorem dX5_demand_10 : decode cX5_demand 10 = .ok (.ifCond .ne 7, 3) := by decide +kernel
theorem dX5_demand_13 : decode cX5_demand 13 = .ok (.iconst 1, 1) := by decide +kernel
theorem dX5_demand_14 : decode cX5_demand 14 = .ok (.goto 4, 3) := by decide +kernel
theorem dX5_demand_17 : decode cX5_demand 17 = .ok (.iconst 0, 1) := by decide +kernel
theorem dX5_demand_18 : decode cX5_demand 18 = .ok (.iconst 0, 1) := by decide +kernel
theorem dX5_demand_19 : decode cX5_demand 19 = .ok (.invokevirtual 62, 3) := by decide +kernel
theorem dX5_demand_22 : decode cX5_demand 22 = .ok (.ifCond .eq 16, 3) := by decide +kernel
theorem dX5_demand_25 : decode cX5_demand 25 = .ok (.aload_n 0, 1) := by decide +kernel
theorem dX5_demand_26 : decode cX5_demand 26 = .ok (.getfield 7, 3) := by decide +kernel
theorem dX5_demand_29 : decode cX5_demand 29 = .ok (.bipush 24, 2) := by decide +kernel
theorem dX5_demand_31 : decode cX5_demand 31 = .ok (.iload_n 1, 1) := by decide +kernel
theorem dX5_demand_32 : decode cX5_demand 32 = .ok (.iadd, 1) := by decide +kernel
theorem dX5_demand_33 : decode cX5_demand 33 = .ok (.laload, 1) := by decide +kernel
theorem dX5_demand_34 : decode cX5_demand 34 = .ok (.l2i, 1) := by decide +kernel
theorem dX5_demand_35 : decode cX5_demand 35 = .ok (.goto 4, 3) := by decide +kernel
theorem dX5_demand_38 : decode cX5_demand 38 = .ok (.iconst 0, 1) := by decide +kernel
theorem dX5_demand_39 : decode cX5_demand 39 = .ok (.ireturn, 1) := by decide +kernel
set_option maxRecDepth 20000 in
theorem ggX5_one_X5_many : GoodIn wsX5_one wsX5_many := goodIn_r _ [8, 9, 10, 7, 11] (by decide +kernel) (by decide +kernel)
set_option maxRecDepth 20000 in
theorem gX5_one_X5_many : GoodIn wsX5_one (va_wsS RX5 91 yX5_many wsX5_many) := goodIn_app (goodIn_of _ (by decide +kernel)) ggX5_one_X5_many
theorem dX5_one_0 : decode cX5_one 0 = .ok (.iload_n 1, 1) := by decide +kernel
theorem dX5_one_1 : decode cX5_one 1 = .ok (.tableswitch 197 0 12 #[67, 74, 81, 88, 95, 103, 113, 123, 131, 147, 155, 163, 189], 67) := by decide +kernel
theorem dX5_one_68 : decode cX5_one 68 = .ok (.aload_n 0, 1) := by decide +kernel
theorem dX5_one_69 : decode cX5_one 69 = .ok (.getfield 7, 3) := by decide +kernel
theorem dX5_one_72 : decode cX5_one 72 = .ok (.iconst 0, 1) := by decide +kernel
theorem dX5_one_73 : decode cX5_one 73 = .ok (.laload, 1) := by decide +kernel
theorem dX5_one_74 : decode cX5_one 74 = .ok (.lreturn, 1) := by decide +kernel
theorem dX5_one_75 : decode cX5_one 75 = .ok (.aload_n 0, 1) := by decide +kernel
theorem dX5_one_76 : decode cX5_one 76 = .ok (.getfield 7, 3) := by decide +kernel
theorem dX5_one_79 : decode cX5_one 79 = .ok (.iconst 1, 1) := by decide +kernel
theorem dX5_one_80 : decode cX5_one 80 = .ok (.laload, 1) := by decide +kernel
theorem dX5_one_81 : decode cX5_one 81 = .ok (.lreturn, 1) := by decide +kernel
theorem dX5_one_82 : decode cX5_one 82 = .ok (.aload_n 0, 1) := by decide +kernel
theorem dX5_one_83 : decode cX5_one 83 = .ok (.getfield 7, 3) := by decide +kernel
theorem dX5_one_86 : decode cX5_one 86 = .ok (.iconst 2, 1) := by decide +kernel
theorem dX5_one_87 : decode cX5_one 87 = .ok (.laload, 1) := by decide +kernel
theorem dX5_one_88 : decode cX5_one 88 = .ok (.lreturn, 1) := by decide +kernel
theorem dX5_one_89 : decode cX5_one 89 = .ok (.aload_n 0, 1) := by decide +kernel
theorem dX5_one_90 : decode cX5_one 90 = .ok (.getfield 7, 3) := by decide +kernel
theorem dX5_one_93 : decode cX5_one 93 = .ok (.iconst 3, 1) := by decide +kernel
theorem dX5_one_94 : decode cX5_one 94 = .ok (.laload, 1) := by decide +kernel
theorem dX5_one_95 : decode cX5_one 95 = .ok (.lreturn, 1) := by decide +kernel
theorem dX5_one_96 : decode cX5_one 96 = .ok (.aload_n 0, 1) := by decide +kernel
theorem dX5_one_97 : decode cX5_one 97 = .ok (.getfield 7, 3) := by decide +kernel
theorem dX5_one_100 : decode cX5_one 100 = .ok (.bipush 7, 2) := by decide +kernel
theorem dX5_one_102 : decode cX5_one 102 = .ok (.laload, 1) := by decide +kernel
theorem dX5_one_103 : decode cX5_one 103 = .ok (.lreturn, 1) := by decide +kernel
theorem dX5_one_104 : decode cX5_one 104 = .ok (.aload_n 0, 1) := by decide +kernel
theorem dX5_one_105 : decode cX5_one 105 = .ok (.getfield 7, 3) := by decide +kernel
theorem dX5_one_108 : decode cX5_one 108 = .ok (.iconst 1, 1) := by decide +kernel
theorem dX5_one_109 : decode cX5_one 109 = .ok (.invokestatic 91, 3) := by decide +kernel
theorem dX5_one_112 : decode cX5_one 112 = .ok (.i2l, 1) := by decide +kernel
theorem dX5_one_113 : decode cX5_one 113 = .ok (.lreturn, 1) := by decide +kernel
theorem dX5_one_114 : decode cX5_one 114 = .ok (.aload_n 0, 1) := by decide +kernel
theorem dX5_one_115 : decode cX5_one 115 = .ok (.getfield 7, 3) := by decide +kernel
theorem dX5_one_118 : decode cX5_one 118 = .ok (.iconst 2, 1) := by decide +kernel
theorem dX5_one_119 : decode cX5_one 119 = .ok (.invokestatic 91, 3) := by decide +kernel
theorem dX5_one_122 : decode cX5_one 122 = .ok (.i2l, 1) := by decide +kernel
theorem dX5_one_123 : decode cX5_one 123 = .ok (.lreturn, 1) := by decide +kernel
theorem dX5_one_124 : decode cX5_one 124 = .ok (.aload_n 0, 1) := by decide +kernel
theorem dX5_one_125 : decode cX5_one 125 = .ok (.getfield 7, 3) := by decide +kernel
theorem dX5_one_128 : decode cX5_one 128 = .ok (.bipush 8, 2) := by decide +kernel
theorem dX5_one_130 : decode cX5_one 130 = .ok (.laload, 1) := by decide +kernel
theorem dX5_one_131 : decode cX5_one 131 = .ok (.lreturn, 1) := by decide +kernel
theorem dX5_one_132 : decode cX5_one 132 = .ok (.aload_n 0, 1) := by decide +kernel
theorem dX5_one_133 : decode cX5_one 133 = .ok (.getfield 7, 3) := by decide +kernel
theorem dX5_one_136 : decode cX5_one 136 = .ok (.bipush 8, 2) := by decide +kernel
theorem dX5_one_138 : decode cX5_one 138 = .ok (.laload, 1) := by decide +kernel
theorem dX5_one_139 : decode cX5_one 139 = .ok (.ldc2_w 140, 3) := by decide +kernel
theorem dX5_one_142 : decode cX5_one 142 = .ok (.ldiv, 1) := by decide +kernel
theorem dX5_one_143 : decode cX5_one 143 = .ok (.ldc2_w 142, 3) := by decide +kernel
theorem dX5_one_146 : decode cX5_one 146 = .ok (.lrem, 1) := by decide +kernel
theorem dX5_one_147 : decode cX5_one 147 = .ok (.lreturn, 1) := by decide +kernel
theorem dX5_one_148 : decode cX5_one 148 = .ok (.aload_n 0, 1) := by decide +kernel
theorem dX5_one_149 : decode cX5_one 149 = .ok (.getfield 7, 3) := by decide +kernel
theorem dX5_one_152 : decode cX5_one 152 = .ok (.bipush 9, 2) := by decide +kernel
theorem dX5_one_154 : decode cX5_one 154 = .ok (.laload, 1) := by decide +kernel
theorem dX5_one_155 : decode cX5_one 155 = .ok (.lreturn, 1) := by decide +kernel
theorem dX5_one_156 : decode cX5_one 156 = .ok (.aload_n 0, 1) := by decide +kernel
theorem dX5_one_157 : decode cX5_one 157 = .ok (.getfield 7, 3) := by decide +kernel
theorem dX5_one_160 : decode cX5_one 160 = .ok (.bipush 10, 2) := by decide +kernel
theorem dX5_one_162 : decode cX5_one 162 = .ok (.laload, 1) := by decide +kernel
theorem dX5_one_163 : decode cX5_one 163 = .ok (.lreturn, 1) := by decide +kernel
theorem dX5_one_164 : decode cX5_one 164 = .ok (.aload_n 0, 1) := by decide +kernel
theorem dX5_one_165 : decode cX5_one 165 = .ok (.getfield 7, 3) := by decide +kernel
theorem dX5_one_168 : decode cX5_one 168 = .ok (.bipush 7, 2) := by decide +kernel
theorem dX5_one_170 : decode cX5_one 170 = .ok (.laload, 1) := by decide +kernel
theorem dX5_one_171 : decode cX5_one 171 = .ok (.lconst 0, 1) := by decide +kernel
theorem dX5_one_172 : decode cX5_one 172 = .ok (.lcmp, 1) := by decide +kernel
theorem dX5_one_173 : decode cX5_one 173 = .ok (.ifCond .ne 9, 3) := by decide +kernel
theorem dX5_one_176 : decode cX5_one 176 = .ok (.ldc2_w 144, 3) := by decide +kernel
theorem dX5_one_179 : decode cX5_one 179 = .ok (.goto 10, 3) := by decide +kernel
theorem dX5_one_182 : decode cX5_one 182 = .ok (.aload_n 0, 1) := by decide +kernel
theorem dX5_one_183 : decode cX5_one 183 = .ok (.getfield 7, 3) := by decide +kernel
theorem dX5_one_186 : decode cX5_one 186 = .ok (.bipush 96, 2) := by decide +kernel
theorem dX5_one_188 : decode cX5_one 188 = .ok (.laload, 1) := by decide +kernel
theorem dX5_one_189 : decode cX5_one 189 = .ok (.lreturn, 1) := by decide +kernel
theorem dX5_one_190 : decode cX5_one 190 = .ok (.aload_n 0, 1) := by decide +kernel
theorem dX5_one_191 : decode cX5_one 191 = .ok (.getfield 7, 3) := by decide +kernel
theorem dX5_one_194 : decode cX5_one 194 = .ok (.bipush 11, 2) := by decide +kernel
theorem dX5_one_196 : decode cX5_one 196 = .ok (.laload, 1) := by decide +kernel
theorem dX5_one_197 : decode cX5_one 197 = .ok (.lreturn, 1) := by decide +kernel
theorem dX5_one_198 : decode cX5_one 198 = .ok (.aload_n 0, 1) := by decide +kernel
theorem dX5_one_199 : decode cX5_one 199 = .ok (.getfield 7, 3) := by decide +kernel
theorem dX5_one_202 : decode cX5_one 202 = .ok (.bipush 13, 2) := by decide +kernel
theorem dX5_one_204 : decode cX5_one 204 = .ok (.laload, 1) := by decide +kernel
theorem dX5_one_205 : decode cX5_one 205 = .ok (.lreturn, 1) := by decide +kernel
set_option maxRecDepth 20000 in
theorem ggX5_value_X5_in : GoodIn wsX5_value wsX5_in := goodIn_r _ [5] (by decide +kernel) (by decide +kernel)
set_option maxRecDepth 20000 in
theorem gX5_value_X5_in : GoodIn wsX5_value (va_wsS RX5 48 yX5_in wsX5_in) := goodIn_app (goodIn_of _ (by decide +kernel)) ggX5_value_X5_in
set_option maxRecDepth 20000 in
theorem ggX5_value_X5_goes : GoodIn wsX5_value wsX5_goes := goodIn_r _ [9, 10, 25, 26, 27, 28, 29, 30, 31, 32, 33, 34, 35, 36, 37, 38] (by decide +kernel) (by decide +kernel)
set_option maxRecDepth 20000 in
theorem gX5_value_X5_goes : GoodIn wsX5_value (wsV RX5 62 RX5 yX5_goes wsX5_goes) := goodIn_app (goodIn_of _ (by decide +kernel)) ggX5_value_X5_goes
set_option maxRecDepth 20000 in
theorem ggX5_value_X5_one : GoodIn wsX5_value wsX5_one := goodIn_r _ [14, 15, 16, 17, 18, 19, 20, 4, 21, 22, 23, 24, 25, 26, 27, 28, 29, 30, 31, 32, 33, 34, 35, 36, 37, 38] (by decide +kernel) (by decide +kernel)
set_option maxRecDepth 20000 in
theorem gX5_value_X5_one : GoodIn wsX5_value (wsV RX5 148 RX5 yX5_one wsX5_one) := goodIn_app (goodIn_of _ (by decide +kernel)) ggX5_value_X5_one
theorem dX5_value_0 : decode cX5_value 0 = .ok (.aload_n 0, 1) := by decide +kernel
theorem dX5_value_1 : decode cX5_value 1 = .ok (.iload_n 1, 1) := by decide +kernel
theorem dX5_value_2 : decode cX5_value 2 = .ok (.i2l, 1) := by decide +kernel
theorem dX5_value_3 : decode cX5_value 3 = .ok (.lconst 0, 1) := by decide +kernel
theorem dX5_value_4 : decode cX5_value 4 = .ok (.ldc2_w 146, 3) := by decide +kernel
theorem dX5_value_7 : decode cX5_value 7 = .ok (.invokestatic 48, 3) := by decide +kernel
theorem dX5_value_10 : decode cX5_value 10 = .ok (.ifCond .ne 7, 3) := by decide +kernel
theorem dX5_value_13 : decode cX5_value 13 = .ok (.iconst 1, 1) := by decide +kernel
theorem dX5_value_14 : decode cX5_value 14 = .ok (.goto 4, 3) := by decide +kernel
theorem dX5_value_17 : decode cX5_value 17 = .ok (.iconst 0, 1) := by decide +kernel
theorem dX5_value_18 : decode cX5_value 18 = .ok (.iconst 0, 1) := by decide +kernel
theorem dX5_value_19 : decode cX5_value 19 = .ok (.invokevirtual 62, 3) := by decide +kernel
theorem dX5_value_22 : decode cX5_value 22 = .ok (.ifCond .eq 12, 3) := by decide +kernel
theorem dX5_value_25 : decode cX5_value 25 = .ok (.aload_n 0, 1) := by decide +kernel
theorem dX5_value_26 : decode cX5_value 26 = .ok (.iload_n 1, 1) := by decide +kernel
theorem dX5_value_27 : decode cX5_value 27 = .ok (.invokevirtual 148, 3) := by decide +kernel
theorem dX5_value_30 : decode cX5_value 30 = .ok (.l2i, 1) := by decide +kernel
theorem dX5_value_31 : decode cX5_value 31 = .ok (.goto 4, 3) := by decide +kernel
theorem dX5_value_34 : decode cX5_value 34 = .ok (.iconst 0, 1) := by decide +kernel
theorem dX5_value_35 : decode cX5_value 35 = .ok (.ireturn, 1) := by decide +kernel
set_option maxRecDepth 20000 in
theorem ggX5_setting_X5_in : GoodIn wsX5_setting wsX5_in := goodIn_r _ [6] (by decide +kernel) (by decide +kernel)
set_option maxRecDepth 20000 in
theorem gX5_setting_X5_in : GoodIn wsX5_setting (va_wsS RX5 48 yX5_in wsX5_in) := goodIn_app (goodIn_of _ (by decide +kernel)) ggX5_setting_X5_in
set_option maxRecDepth 20000 in
theorem ggX5_setting_X5_goes : GoodIn wsX5_setting wsX5_goes := goodIn_r _ [10, 11, 12, 13, 14, 15, 16, 17, 18, 19, 20, 21, 22, 23, 24, 25] (by decide +kernel) (by decide +kernel)
set_option maxRecDepth 20000 in
theorem gX5_setting_X5_goes : GoodIn wsX5_setting (wsV RX5 62 RX5 yX5_goes wsX5_goes) := goodIn_app (goodIn_of _ (by decide +kernel)) ggX5_setting_X5_goes
theorem dX5_setting_0 : decode cX5_setting 0 = .ok (.aload_n 0, 1) := by decide +kernel
theorem dX5_setting_1 : decode cX5_setting 1 = .ok (.iload_n 1, 1) := by decide +kernel
theorem dX5_setting_2 : decode cX5_setting 2 = .ok (.i2l, 1) := by decide +kernel
theorem dX5_setting_3 : decode cX5_setting 3 = .ok (.lconst 0, 1) := by decide +kernel
theorem dX5_setting_4 : decode cX5_setting 4 = .ok (.ldc2_w 89, 3) := by decide +kernel
theorem dX5_setting_7 : decode cX5_setting 7 = .ok (.invokestatic 48, 3) := by decide +kernel
theorem dX5_setting_10 : decode cX5_setting 10 = .ok (.ifCond .ne 7, 3) := by decide +kernel
theorem dX5_setting_13 : decode cX5_setting 13 = .ok (.iconst 1, 1) := by decide +kernel
theorem dX5_setting_14 : decode cX5_setting 14 = .ok (.goto 4, 3) := by decide +kernel
theorem dX5_setting_17 : decode cX5_setting 17 = .ok (.iconst 0, 1) := by decide +kernel
theorem dX5_setting_18 : decode cX5_setting 18 = .ok (.iconst 0, 1) := by decide +kernel
theorem dX5_setting_19 : decode cX5_setting 19 = .ok (.invokevirtual 62, 3) := by decide +kernel
theorem dX5_setting_22 : decode cX5_setting 22 = .ok (.ifCond .eq 15, 3) := by decide +kernel
theorem dX5_setting_25 : decode cX5_setting 25 = .ok (.aload_n 0, 1) := by decide +kernel
theorem dX5_setting_26 : decode cX5_setting 26 = .ok (.getfield 7, 3) := by decide +kernel
theorem dX5_setting_29 : decode cX5_setting 29 = .ok (.iconst 4, 1) := by decide +kernel
theorem dX5_setting_30 : decode cX5_setting 30 = .ok (.iload_n 1, 1) := by decide +kernel
theorem dX5_setting_31 : decode cX5_setting 31 = .ok (.iadd, 1) := by decide +kernel
theorem dX5_setting_32 : decode cX5_setting 32 = .ok (.laload, 1) := by decide +kernel
theorem dX5_setting_33 : decode cX5_setting 33 = .ok (.l2i, 1) := by decide +kernel
theorem dX5_setting_34 : decode cX5_setting 34 = .ok (.goto 4, 3) := by decide +kernel
theorem dX5_setting_37 : decode cX5_setting 37 = .ok (.iconst 0, 1) := by decide +kernel
theorem dX5_setting_38 : decode cX5_setting 38 = .ok (.ireturn, 1) := by decide +kernel
set_option maxRecDepth 20000 in
theorem ggX5_water_X5_in : GoodIn wsX5_water wsX5_in := goodIn_r _ [6] (by decide +kernel) (by decide +kernel)
set_option maxRecDepth 20000 in
theorem gX5_water_X5_in : GoodIn wsX5_water (va_wsS RX5 48 yX5_in wsX5_in) := goodIn_app (goodIn_of _ (by decide +kernel)) ggX5_water_X5_in
set_option maxRecDepth 20000 in
theorem ggX5_water_X5_goes : GoodIn wsX5_water wsX5_goes := goodIn_r _ [10, 11, 12, 13, 14, 15, 16, 17, 18, 19, 20, 21, 22, 23, 24, 25] (by decide +kernel) (by decide +kernel)
set_option maxRecDepth 20000 in
theorem gX5_water_X5_goes : GoodIn wsX5_water (wsV RX5 62 RX5 yX5_goes wsX5_goes) := goodIn_app (goodIn_of _ (by decide +kernel)) ggX5_water_X5_goes
theorem dX5_water_0 : decode cX5_water 0 = .ok (.aload_n 0, 1) := by decide +kernel
theorem dX5_water_1 : decode cX5_water 1 = .ok (.iload_n 1, 1) := by decide +kernel
theorem dX5_water_2 : decode cX5_water 2 = .ok (.i2l, 1) := by decide +kernel
theorem dX5_water_3 : decode cX5_water 3 = .ok (.lconst 0, 1) := by decide +kernel
theorem dX5_water_4 : decode cX5_water 4 = .ok (.ldc2_w 152, 3) := by decide +kernel
theorem dX5_water_7 : decode cX5_water 7 = .ok (.invokestatic 48, 3) := by decide +kernel
theorem dX5_water_10 : decode cX5_water 10 = .ok (.ifCond .ne 7, 3) := by decide +kernel
theorem dX5_water_13 : decode cX5_water 13 = .ok (.iconst 1, 1) := by decide +kernel
theorem dX5_water_14 : decode cX5_water 14 = .ok (.goto 4, 3) := by decide +kernel
theorem dX5_water_17 : decode cX5_water 17 = .ok (.iconst 0, 1) := by decide +kernel
theorem dX5_water_18 : decode cX5_water 18 = .ok (.iconst 0, 1) := by decide +kernel
theorem dX5_water_19 : decode cX5_water 19 = .ok (.invokevirtual 62, 3) := by decide +kernel
theorem dX5_water_22 : decode cX5_water 22 = .ok (.ifCond .eq 15, 3) := by decide +kernel
theorem dX5_water_25 : decode cX5_water 25 = .ok (.aload_n 0, 1) := by decide +kernel
theorem dX5_water_26 : decode cX5_water 26 = .ok (.getfield 7, 3) := by decide +kernel
theorem dX5_water_29 : decode cX5_water 29 = .ok (.bipush 14, 2) := by decide +kernel
theorem dX5_water_31 : decode cX5_water 31 = .ok (.iload_n 1, 1) := by decide +kernel
theorem dX5_water_32 : decode cX5_water 32 = .ok (.iadd, 1) := by decide +kernel
theorem dX5_water_33 : decode cX5_water 33 = .ok (.laload, 1) := by decide +kernel
theorem dX5_water_34 : decode cX5_water 34 = .ok (.goto 4, 3) := by decide +kernel
theorem dX5_water_37 : decode cX5_water 37 = .ok (.lconst 0, 1) := by decide +kernel
theorem dX5_water_38 : decode cX5_water 38 = .ok (.lreturn, 1) := by decide +kernel
set_option maxRecDepth 20000 in
theorem ggX5_nightLeak_X5_goes : GoodIn wsX5_nightLeak wsX5_goes := goodIn_r _ [6, 7, 8, 9, 10, 11, 12, 13, 14, 15, 16, 17, 18, 19, 20, 21] (by decide +kernel) (by decide +kernel)
set_option maxRecDepth 20000 in
theorem gX5_nightLeak_X5_goes : GoodIn wsX5_nightLeak (wsV RX5 62 RX5 yX5_goes wsX5_goes) := goodIn_app (goodIn_of _ (by decide +kernel)) ggX5_nightLeak_X5_goes
theorem dX5_nightLeak_0 : decode cX5_nightLeak 0 = .ok (.aload_n 0, 1) := by decide +kernel
theorem dX5_nightLeak_1 : decode cX5_nightLeak 1 = .ok (.aload_n 0, 1) := by decide +kernel
theorem dX5_nightLeak_2 : decode cX5_nightLeak 2 = .ok (.getfield 7, 3) := by decide +kernel
theorem dX5_nightLeak_5 : decode cX5_nightLeak 5 = .ok (.bipush 11, 2) := by decide +kernel
theorem dX5_nightLeak_7 : decode cX5_nightLeak 7 = .ok (.laload, 1) := by decide +kernel
theorem dX5_nightLeak_8 : decode cX5_nightLeak 8 = .ok (.lconst 0, 1) := by decide +kernel
theorem dX5_nightLeak_9 : decode cX5_nightLeak 9 = .ok (.lcmp, 1) := by decide +kernel
theorem dX5_nightLeak_10 : decode cX5_nightLeak 10 = .ok (.ifCond .ne 7, 3) := by decide +kernel
theorem dX5_nightLeak_13 : decode cX5_nightLeak 13 = .ok (.iconst 1, 1) := by decide +kernel
theorem dX5_nightLeak_14 : decode cX5_nightLeak 14 = .ok (.goto 4, 3) := by decide +kernel
theorem dX5_nightLeak_17 : decode cX5_nightLeak 17 = .ok (.iconst 0, 1) := by decide +kernel
theorem dX5_nightLeak_18 : decode cX5_nightLeak 18 = .ok (.iconst 0, 1) := by decide +kernel
theorem dX5_nightLeak_19 : decode cX5_nightLeak 19 = .ok (.invokevirtual 62, 3) := by decide +kernel
theorem dX5_nightLeak_22 : decode cX5_nightLeak 22 = .ok (.ifCond .eq 13, 3) := by decide +kernel
theorem dX5_nightLeak_25 : decode cX5_nightLeak 25 = .ok (.aload_n 0, 1) := by decide +kernel
theorem dX5_nightLeak_26 : decode cX5_nightLeak 26 = .ok (.getfield 7, 3) := by decide +kernel
theorem dX5_nightLeak_29 : decode cX5_nightLeak 29 = .ok (.bipush 12, 2) := by decide +kernel
theorem dX5_nightLeak_31 : decode cX5_nightLeak 31 = .ok (.laload, 1) := by decide +kernel
theorem dX5_nightLeak_32 : decode cX5_nightLeak 32 = .ok (.goto 4, 3) := by decide +kernel
theorem dX5_nightLeak_35 : decode cX5_nightLeak 35 = .ok (.lconst 0, 1) := by decide +kernel
theorem dX5_nightLeak_36 : decode cX5_nightLeak 36 = .ok (.lreturn, 1) := by decide +kernel
set_option maxRecDepth 20000 in
theorem ggX5_entry_X5_in : GoodIn wsX5_entry wsX5_in := goodIn_r _ [6] (by decide +kernel) (by decide +kernel)
set_option maxRecDepth 20000 in
theorem gX5_entry_X5_in : GoodIn wsX5_entry (va_wsS RX5 48 yX5_in wsX5_in) := goodIn_app (goodIn_of _ (by decide +kernel)) ggX5_entry_X5_in
set_option maxRecDepth 20000 in
theorem ggX5_entry_X5_goes : GoodIn wsX5_entry wsX5_goes := goodIn_r _ [10, 11, 12, 13, 14, 15, 16, 17, 18, 19, 20, 21, 22, 23, 24, 25] (by decide +kernel) (by decide +kernel)
set_option maxRecDepth 20000 in
theorem gX5_entry_X5_goes : GoodIn wsX5_entry (wsV RX5 62 RX5 yX5_goes wsX5_goes) := goodIn_app (goodIn_of _ (by decide +kernel)) ggX5_entry_X5_goes
theorem dX5_entry_0 : decode cX5_entry 0 = .ok (.aload_n 0, 1) := by decide +kernel
theorem dX5_entry_1 : decode cX5_entry 1 = .ok (.iload_n 1, 1) := by decide +kernel
theorem dX5_entry_2 : decode cX5_entry 2 = .ok (.i2l, 1) := by decide +kernel
theorem dX5_entry_3 : decode cX5_entry 3 = .ok (.lconst 0, 1) := by decide +kernel
theorem dX5_entry_4 : decode cX5_entry 4 = .ok (.aload_n 0, 1) := by decide +kernel
theorem dX5_entry_5 : decode cX5_entry 5 = .ok (.getfield 7, 3) := by decide +kernel
theorem dX5_entry_8 : decode cX5_entry 8 = .ok (.bipush 13, 2) := by decide +kernel
theorem dX5_entry_10 : decode cX5_entry 10 = .ok (.laload, 1) := by decide +kernel
theorem dX5_entry_11 : decode cX5_entry 11 = .ok (.lconst 1, 1) := by decide +kernel
theorem dX5_entry_12 : decode cX5_entry 12 = .ok (.lsub, 1) := by decide +kernel
theorem dX5_entry_13 : decode cX5_entry 13 = .ok (.invokestatic 48, 3) := by decide +kernel
theorem dX5_entry_16 : decode cX5_entry 16 = .ok (.ifCond .ne 7, 3) := by decide +kernel
theorem dX5_entry_19 : decode cX5_entry 19 = .ok (.iconst 1, 1) := by decide +kernel
theorem dX5_entry_20 : decode cX5_entry 20 = .ok (.goto 4, 3) := by decide +kernel
theorem dX5_entry_23 : decode cX5_entry 23 = .ok (.iconst 0, 1) := by decide +kernel
theorem dX5_entry_24 : decode cX5_entry 24 = .ok (.iload_n 2, 1) := by decide +kernel
theorem dX5_entry_25 : decode cX5_entry 25 = .ok (.i2l, 1) := by decide +kernel
theorem dX5_entry_26 : decode cX5_entry 26 = .ok (.lconst 0, 1) := by decide +kernel
theorem dX5_entry_27 : decode cX5_entry 27 = .ok (.ldc2_w 89, 3) := by decide +kernel
theorem dX5_entry_30 : decode cX5_entry 30 = .ok (.invokestatic 48, 3) := by decide +kernel
theorem dX5_entry_33 : decode cX5_entry 33 = .ok (.ifCond .ne 7, 3) := by decide +kernel
theorem dX5_entry_36 : decode cX5_entry 36 = .ok (.iconst 1, 1) := by decide +kernel
theorem dX5_entry_37 : decode cX5_entry 37 = .ok (.goto 4, 3) := by decide +kernel
theorem dX5_entry_40 : decode cX5_entry 40 = .ok (.iconst 0, 1) := by decide +kernel
theorem dX5_entry_41 : decode cX5_entry 41 = .ok (.invokevirtual 62, 3) := by decide +kernel
theorem dX5_entry_44 : decode cX5_entry 44 = .ok (.ifCond .eq 20, 3) := by decide +kernel
theorem dX5_entry_47 : decode cX5_entry 47 = .ok (.aload_n 0, 1) := by decide +kernel
theorem dX5_entry_48 : decode cX5_entry 48 = .ok (.getfield 7, 3) := by decide +kernel
theorem dX5_entry_51 : decode cX5_entry 51 = .ok (.bipush 102, 2) := by decide +kernel
theorem dX5_entry_53 : decode cX5_entry 53 = .ok (.iconst 3, 1) := by decide +kernel
theorem dX5_entry_54 : decode cX5_entry 54 = .ok (.iload_n 1, 1) := by decide +kernel
theorem dX5_entry_55 : decode cX5_entry 55 = .ok (.imul, 1) := by decide +kernel
theorem dX5_entry_56 : decode cX5_entry 56 = .ok (.iadd, 1) := by decide +kernel
theorem dX5_entry_57 : decode cX5_entry 57 = .ok (.iload_n 2, 1) := by decide +kernel
theorem dX5_entry_58 : decode cX5_entry 58 = .ok (.iadd, 1) := by decide +kernel
theorem dX5_entry_59 : decode cX5_entry 59 = .ok (.laload, 1) := by decide +kernel
theorem dX5_entry_60 : decode cX5_entry 60 = .ok (.l2i, 1) := by decide +kernel
theorem dX5_entry_61 : decode cX5_entry 61 = .ok (.goto 4, 3) := by decide +kernel
theorem dX5_entry_64 : decode cX5_entry 64 = .ok (.iconst 0, 1) := by decide +kernel
theorem dX5_entry_65 : decode cX5_entry 65 = .ok (.ireturn, 1) := by decide +kernel
theorem dX5_tries_0 : decode cX5_tries 0 = .ok (.iconst 0, 1) := by decide +kernel
theorem dX5_tries_1 : decode cX5_tries 1 = .ok (.istore_n 1, 1) := by decide +kernel
theorem dX5_tries_2 : decode cX5_tries 2 = .ok (.iload_n 1, 1) := by decide +kernel
theorem dX5_tries_3 : decode cX5_tries 3 = .ok (.sipush 138, 3) := by decide +kernel
theorem dX5_tries_6 : decode cX5_tries 6 = .ok (.if_icmp .ge 21, 3) := by decide +kernel
theorem dX5_tries_9 : decode cX5_tries 9 = .ok (.aload_n 0, 1) := by decide +kernel
theorem dX5_tries_10 : decode cX5_tries 10 = .ok (.getfield 13, 3) := by decide +kernel
theorem dX5_tries_13 : decode cX5_tries 13 = .ok (.iload_n 1, 1) := by decide +kernel
theorem dX5_tries_14 : decode cX5_tries 14 = .ok (.aload_n 0, 1) := by decide +kernel
theorem dX5_tries_15 : decode cX5_tries 15 = .ok (.getfield 7, 3) := by decide +kernel
theorem dX5_tries_18 : decode cX5_tries 18 = .ok (.iload_n 1, 1) := by decide +kernel
theorem dX5_tries_19 : decode cX5_tries 19 = .ok (.laload, 1) := by decide +kernel
theorem dX5_tries_20 : decode cX5_tries 20 = .ok (.lastore, 1) := by decide +kernel
theorem dX5_tries_21 : decode cX5_tries 21 = .ok (.iinc 1 1, 3) := by decide +kernel
theorem dX5_tries_24 : decode cX5_tries 24 = .ok (.goto (-22), 3) := by decide +kernel
theorem dX5_tries_27 : decode cX5_tries 27 = .ok (.return_, 1) := by decide +kernel
set_option maxRecDepth 20000 in
theorem ggX5_goesOn_X5_passes : GoodIn wsX5_goesOn wsX5_passes := goodIn_r _ [5, 6, 7, 8, 4, 9, 10, 11, 12, 13, 14, 15, 16, 17, 18, 19, 20, 21, 22, 23, 24, 25, 26, 27, 28, 29, 30, 31, 32, 33, 34, 35, 36, 37] (by decide +kernel) (by decide +kernel)
set_option maxRecDepth 20000 in
theorem gX5_goesOn_X5_passes : GoodIn wsX5_goesOn (va_wsS RX5 129 yX5_passes wsX5_passes) := goodIn_app (goodIn_of _ (by decide +kernel)) ggX5_goesOn_X5_passes
theorem dX5_goesOn_0 : decode cX5_goesOn 0 = .ok (.iconst 0, 1) := by decide +kernel
theorem dX5_goesOn_1 : decode cX5_goesOn 1 = .ok (.istore_n 2, 1) := by decide +kernel
theorem dX5_goesOn_2 : decode cX5_goesOn 2 = .ok (.iload_n 2, 1) := by decide +kernel
theorem dX5_goesOn_3 : decode cX5_goesOn 3 = .ok (.iload_n 1, 1) := by decide +kernel
theorem dX5_goesOn_4 : decode cX5_goesOn 4 = .ok (.if_icmp .ge 16, 3) := by decide +kernel
theorem dX5_goesOn_7 : decode cX5_goesOn 7 = .ok (.aload_n 0, 1) := by decide +kernel
theorem dX5_goesOn_8 : decode cX5_goesOn 8 = .ok (.getfield 13, 3) := by decide +kernel
theorem dX5_goesOn_11 : decode cX5_goesOn 11 = .ok (.invokestatic 129, 3) := by decide +kernel
theorem dX5_goesOn_14 : decode cX5_goesOn 14 = .ok (.iinc 2 1, 3) := by decide +kernel
theorem dX5_goesOn_17 : decode cX5_goesOn 17 = .ok (.goto (-15), 3) := by decide +kernel
theorem dX5_goesOn_20 : decode cX5_goesOn 20 = .ok (.return_, 1) := by decide +kernel
set_option maxRecDepth 20000 in
theorem ggX5_levelIn_X5_in : GoodIn wsX5_levelIn wsX5_in := goodIn_r _ [6] (by decide +kernel) (by decide +kernel)
set_option maxRecDepth 20000 in
theorem gX5_levelIn_X5_in : GoodIn wsX5_levelIn (va_wsS RX5 48 yX5_in wsX5_in) := goodIn_app (goodIn_of _ (by decide +kernel)) ggX5_levelIn_X5_in
set_option maxRecDepth 20000 in
theorem ggX5_levelIn_X5_goes : GoodIn wsX5_levelIn wsX5_goes := goodIn_r _ [10, 11, 55, 56, 57, 58, 59, 60, 61, 62, 63, 64, 65, 66, 67, 68] (by decide +kernel) (by decide +kernel)
set_option maxRecDepth 20000 in
theorem gX5_levelIn_X5_goes : GoodIn wsX5_levelIn (wsV RX5 62 RX5 yX5_goes wsX5_goes) := goodIn_app (goodIn_of _ (by decide +kernel)) ggX5_levelIn_X5_goes
set_option maxRecDepth 20000 in
theorem ggX5_levelIn_X5_tries : GoodIn wsX5_levelIn wsX5_tries := goodIn_r _ [15, 2, 16, 55, 56, 57, 58, 59, 60, 61, 62, 63, 64, 65, 66, 67, 68] (by decide +kernel) (by decide +kernel)
set_option maxRecDepth 20000 in
theorem gX5_levelIn_X5_tries : GoodIn wsX5_levelIn (wsV RX5 154 RX5 yX5_tries wsX5_tries) := goodIn_app (goodIn_of _ (by decide +kernel)) ggX5_levelIn_X5_tries
set_option maxRecDepth 20000 in
theorem ggX5_levelIn_X5_goesOn : GoodIn wsX5_levelIn wsX5_goesOn := goodIn_r _ [20, 2, 21, 22, 5, 23, 1, 24, 25, 26, 27, 28, 29, 30, 31, 32, 33, 34, 35, 36, 37, 38, 39, 40, 41, 42, 43, 44, 45, 46, 47, 48, 49, 50, 51, 52, 53, 54, 55, 56, 57, 58, 59, 60, 61, 62, 63, 64, 65, 66, 67, 68] (by decide +kernel) (by decide +kernel)
set_option maxRecDepth 20000 in
theorem gX5_levelIn_X5_goesOn : GoodIn wsX5_levelIn (wsV RX5 157 RX5 yX5_goesOn wsX5_goesOn) := goodIn_app (goodIn_of _ (by decide +kernel)) ggX5_levelIn_X5_goesOn
theorem dX5_levelIn_0 : decode cX5_levelIn 0 = .ok (.aload_n 0, 1) := by decide +kernel
theorem dX5_levelIn_1 : decode cX5_levelIn 1 = .ok (.iload_n 1, 1) := by decide +kernel
theorem dX5_levelIn_2 : decode cX5_levelIn 2 = .ok (.i2l, 1) := by decide +kernel
theorem dX5_levelIn_3 : decode cX5_levelIn 3 = .ok (.lconst 0, 1) := by decide +kernel
theorem dX5_levelIn_4 : decode cX5_levelIn 4 = .ok (.ldc2_w 107, 3) := by decide +kernel
theorem dX5_levelIn_7 : decode cX5_levelIn 7 = .ok (.invokestatic 48, 3) := by decide +kernel
theorem dX5_levelIn_10 : decode cX5_levelIn 10 = .ok (.ifCond .ne 7, 3) := by decide +kernel
theorem dX5_levelIn_13 : decode cX5_levelIn 13 = .ok (.iconst 1, 1) := by decide +kernel
theorem dX5_levelIn_14 : decode cX5_levelIn 14 = .ok (.goto 4, 3) := by decide +kernel
theorem dX5_levelIn_17 : decode cX5_levelIn 17 = .ok (.iconst 0, 1) := by decide +kernel
theorem dX5_levelIn_18 : decode cX5_levelIn 18 = .ok (.iconst 0, 1) := by decide +kernel
theorem dX5_levelIn_19 : decode cX5_levelIn 19 = .ok (.invokevirtual 62, 3) := by decide +kernel
theorem dX5_levelIn_22 : decode cX5_levelIn 22 = .ok (.ifCond .ne 5, 3) := by decide +kernel
theorem dX5_levelIn_25 : decode cX5_levelIn 25 = .ok (.iconst 0, 1) := by decide +kernel
theorem dX5_levelIn_26 : decode cX5_levelIn 26 = .ok (.ireturn, 1) := by decide +kernel
theorem dX5_levelIn_27 : decode cX5_levelIn 27 = .ok (.aload_n 0, 1) := by decide +kernel
theorem dX5_levelIn_28 : decode cX5_levelIn 28 = .ok (.invokevirtual 154, 3) := by decide +kernel
theorem dX5_levelIn_31 : decode cX5_levelIn 31 = .ok (.aload_n 0, 1) := by decide +kernel
theorem dX5_levelIn_32 : decode cX5_levelIn 32 = .ok (.iload_n 1, 1) := by decide +kernel
theorem dX5_levelIn_33 : decode cX5_levelIn 33 = .ok (.invokevirtual 157, 3) := by decide +kernel
theorem dX5_levelIn_36 : decode cX5_levelIn 36 = .ok (.aload_n 0, 1) := by decide +kernel
theorem dX5_levelIn_37 : decode cX5_levelIn 37 = .ok (.getfield 13, 3) := by decide +kernel
theorem dX5_levelIn_40 : decode cX5_levelIn 40 = .ok (.iconst 1, 1) := by decide +kernel
theorem dX5_levelIn_41 : decode cX5_levelIn 41 = .ok (.laload, 1) := by decide +kernel
theorem dX5_levelIn_42 : decode cX5_levelIn 42 = .ok (.l2i, 1) := by decide +kernel
theorem dX5_levelIn_43 : decode cX5_levelIn 43 = .ok (.ireturn, 1) := by decide +kernel
set_option maxRecDepth 20000 in
theorem ggX5_startsIn_X5_isPump : GoodIn wsX5_startsIn wsX5_isPump := goodIn_r _ [8, 3, 9, 10, 7, 11, 59, 60, 61, 62, 63, 64, 65, 66, 67, 68, 69, 70, 71, 72] (by decide +kernel) (by decide +kernel)
set_option maxRecDepth 20000 in
theorem gX5_startsIn_X5_isPump : GoodIn wsX5_startsIn (wsV RX5 85 RX5 yX5_isPump wsX5_isPump) := goodIn_app (goodIn_of _ (by decide +kernel)) ggX5_startsIn_X5_isPump
set_option maxRecDepth 20000 in
theorem ggX5_startsIn_X5_in : GoodIn wsX5_startsIn wsX5_in := goodIn_r _ [11] (by decide +kernel) (by decide +kernel)
set_option maxRecDepth 20000 in
theorem gX5_startsIn_X5_in : GoodIn wsX5_startsIn (va_wsS RX5 48 yX5_in wsX5_in) := goodIn_app (goodIn_of _ (by decide +kernel)) ggX5_startsIn_X5_in
set_option maxRecDepth 20000 in
theorem ggX5_startsIn_X5_goes : GoodIn wsX5_startsIn wsX5_goes := goodIn_r _ [15, 16, 59, 60, 61, 62, 63, 64, 65, 66, 67, 68, 69, 70, 71, 72] (by decide +kernel) (by decide +kernel)
set_option maxRecDepth 20000 in
theorem gX5_startsIn_X5_goes : GoodIn wsX5_startsIn (wsV RX5 62 RX5 yX5_goes wsX5_goes) := goodIn_app (goodIn_of _ (by decide +kernel)) ggX5_startsIn_X5_goes
set_option maxRecDepth 20000 in
theorem ggX5_startsIn_X5_tries : GoodIn wsX5_startsIn wsX5_tries := goodIn_r _ [20, 2, 3, 59, 60, 61, 62, 63, 64, 65, 66, 67, 68, 69, 70, 71, 72] (by decide +kernel) (by decide +kernel)
set_option maxRecDepth 20000 in
theorem gX5_startsIn_X5_tries : GoodIn wsX5_startsIn (wsV RX5 154 RX5 yX5_tries wsX5_tries) := goodIn_app (goodIn_of _ (by decide +kernel)) ggX5_startsIn_X5_tries
set_option maxRecDepth 20000 in
theorem ggX5_startsIn_X5_goesOn : GoodIn wsX5_startsIn wsX5_goesOn := goodIn_r _ [24, 2, 25, 26, 7, 27, 1, 28, 29, 30, 31, 32, 33, 34, 35, 36, 37, 38, 39, 40, 41, 42, 43, 44, 45, 46, 47, 48, 49, 50, 51, 52, 53, 54, 55, 56, 57, 58, 59, 60, 61, 62, 63, 64, 65, 66, 67, 68, 69, 70, 71, 72] (by decide +kernel) (by decide +kernel)
set_option maxRecDepth 20000 in
theorem gX5_startsIn_X5_goesOn : GoodIn wsX5_startsIn (wsV RX5 157 RX5 yX5_goesOn wsX5_goesOn) := goodIn_app (goodIn_of _ (by decide +kernel)) ggX5_startsIn_X5_goesOn
set_option maxRecDepth 20000 in
theorem ggX5_startsIn_X5_p : GoodIn wsX5_startsIn wsX5_p := goodIn_r _ [33] (by decide +kernel) (by decide +kernel)
set_option maxRecDepth 20000 in
theorem gX5_startsIn_X5_p : GoodIn wsX5_startsIn (va_wsS RX5 82 yX5_p wsX5_p) := goodIn_app (goodIn_of _ (by decide +kernel)) ggX5_startsIn_X5_p
theorem dX5_startsIn_0 : decode cX5_startsIn 0 = .ok (.aload_n 0, 1) := by decide +kernel
theorem dX5_startsIn_1 : decode cX5_startsIn 1 = .ok (.aload_n 0, 1) := by decide +kernel
theorem dX5_startsIn_2 : decode cX5_startsIn 2 = .ok (.iload_n 1, 1) := by decide +kernel
theorem dX5_startsIn_3 : decode cX5_startsIn 3 = .ok (.invokevirtual 85, 3) := by decide +kernel
theorem dX5_startsIn_6 : decode cX5_startsIn 6 = .ok (.ifCond .ne 7, 3) := by decide +kernel
theorem dX5_startsIn_9 : decode cX5_startsIn 9 = .ok (.iconst 1, 1) := by decide +kernel
theorem dX5_startsIn_10 : decode cX5_startsIn 10 = .ok (.goto 4, 3) := by decide +kernel
theorem dX5_startsIn_13 : decode cX5_startsIn 13 = .ok (.iconst 0, 1) := by decide +kernel
theorem dX5_startsIn_14 : decode cX5_startsIn 14 = .ok (.iload_n 2, 1) := by decide +kernel
theorem dX5_startsIn_15 : decode cX5_startsIn 15 = .ok (.i2l, 1) := by decide +kernel
theorem dX5_startsIn_16 : decode cX5_startsIn 16 = .ok (.lconst 0, 1) := by decide +kernel
theorem dX5_startsIn_17 : decode cX5_startsIn 17 = .ok (.ldc2_w 107, 3) := by decide +kernel
theorem dX5_startsIn_20 : decode cX5_startsIn 20 = .ok (.invokestatic 48, 3) := by decide +kernel
theorem dX5_startsIn_23 : decode cX5_startsIn 23 = .ok (.ifCond .ne 7, 3) := by decide +kernel
theorem dX5_startsIn_26 : decode cX5_startsIn 26 = .ok (.iconst 1, 1) := by decide +kernel
theorem dX5_startsIn_27 : decode cX5_startsIn 27 = .ok (.goto 4, 3) := by decide +kernel
theorem dX5_startsIn_30 : decode cX5_startsIn 30 = .ok (.iconst 0, 1) := by decide +kernel
theorem dX5_startsIn_31 : decode cX5_startsIn 31 = .ok (.invokevirtual 62, 3) := by decide +kernel
theorem dX5_startsIn_34 : decode cX5_startsIn 34 = .ok (.ifCond .ne 5, 3) := by decide +kernel
theorem dX5_startsIn_37 : decode cX5_startsIn 37 = .ok (.iconst 0, 1) := by decide +kernel
theorem dX5_startsIn_38 : decode cX5_startsIn 38 = .ok (.ireturn, 1) := by decide +kernel
theorem dX5_startsIn_39 : decode cX5_startsIn 39 = .ok (.aload_n 0, 1) := by decide +kernel
theorem dX5_startsIn_40 : decode cX5_startsIn 40 = .ok (.invokevirtual 154, 3) := by decide +kernel
theorem dX5_startsIn_43 : decode cX5_startsIn 43 = .ok (.aload_n 0, 1) := by decide +kernel
theorem dX5_startsIn_44 : decode cX5_startsIn 44 = .ok (.iload_n 2, 1) := by decide +kernel
theorem dX5_startsIn_45 : decode cX5_startsIn 45 = .ok (.invokevirtual 157, 3) := by decide +kernel
theorem dX5_startsIn_48 : decode cX5_startsIn 48 = .ok (.aload_n 0, 1) := by decide +kernel
theorem dX5_startsIn_49 : decode cX5_startsIn 49 = .ok (.getfield 13, 3) := by decide +kernel
theorem dX5_startsIn_52 : decode cX5_startsIn 52 = .ok (.iload_n 1, 1) := by decide +kernel
theorem dX5_startsIn_53 : decode cX5_startsIn 53 = .ok (.iconst 4, 1) := by decide +kernel
theorem dX5_startsIn_54 : decode cX5_startsIn 54 = .ok (.invokestatic 82, 3) := by decide +kernel
theorem dX5_startsIn_57 : decode cX5_startsIn 57 = .ok (.laload, 1) := by decide +kernel
theorem dX5_startsIn_58 : decode cX5_startsIn 58 = .ok (.aload_n 0, 1) := by decide +kernel
theorem dX5_startsIn_59 : decode cX5_startsIn 59 = .ok (.getfield 7, 3) := by decide +kernel
theorem dX5_startsIn_62 : decode cX5_startsIn 62 = .ok (.iload_n 1, 1) := by decide +kernel
theorem dX5_startsIn_63 : decode cX5_startsIn 63 = .ok (.iconst 4, 1) := by decide +kernel
theorem dX5_startsIn_64 : decode cX5_startsIn 64 = .ok (.invokestatic 82, 3) := by decide +kernel
theorem dX5_startsIn_67 : decode cX5_startsIn 67 = .ok (.laload, 1) := by decide +kernel
theorem dX5_startsIn_68 : decode cX5_startsIn 68 = .ok (.lsub, 1) := by decide +kernel
theorem dX5_startsIn_69 : decode cX5_startsIn 69 = .ok (.l2i, 1) := by decide +kernel
theorem dX5_startsIn_70 : decode cX5_startsIn 70 = .ok (.ireturn, 1) := by decide +kernel
set_option maxRecDepth 20000 in
theorem ggX5_oathFor_X5_in : GoodIn wsX5_oathFor wsX5_in := goodIn_r _ [7] (by decide +kernel) (by decide +kernel)
set_option maxRecDepth 20000 in
theorem gX5_oathFor_X5_in : GoodIn wsX5_oathFor (va_wsS RX5 48 yX5_in wsX5_in) := goodIn_app (goodIn_of _ (by decide +kernel)) ggX5_oathFor_X5_in
set_option maxRecDepth 20000 in
theorem ggX5_oathFor_X5_goes : GoodIn wsX5_oathFor wsX5_goes := goodIn_r _ [11, 12, 55, 56, 57, 58, 59, 60, 61, 62, 63, 64, 65, 66, 67, 68] (by decide +kernel) (by decide +kernel)
set_option maxRecDepth 20000 in
theorem gX5_oathFor_X5_goes : GoodIn wsX5_oathFor (wsV RX5 62 RX5 yX5_goes wsX5_goes) := goodIn_app (goodIn_of _ (by decide +kernel)) ggX5_oathFor_X5_goes
set_option maxRecDepth 20000 in
theorem ggX5_oathFor_X5_tries : GoodIn wsX5_oathFor wsX5_tries := goodIn_r _ [16, 3, 2, 55, 56, 57, 58, 59, 60, 61, 62, 63, 64, 65, 66, 67, 68] (by decide +kernel) (by decide +kernel)
set_option maxRecDepth 20000 in
theorem gX5_oathFor_X5_tries : GoodIn wsX5_oathFor (wsV RX5 154 RX5 yX5_tries wsX5_tries) := goodIn_app (goodIn_of _ (by decide +kernel)) ggX5_oathFor_X5_tries
set_option maxRecDepth 20000 in
theorem ggX5_oathFor_X5_p : GoodIn wsX5_oathFor wsX5_p := goodIn_r _ [19] (by decide +kernel) (by decide +kernel)
set_option maxRecDepth 20000 in
theorem gX5_oathFor_X5_p : GoodIn wsX5_oathFor (va_wsS RX5 82 yX5_p wsX5_p) := goodIn_app (goodIn_of _ (by decide +kernel)) ggX5_oathFor_X5_p
set_option maxRecDepth 20000 in
theorem ggX5_oathFor_X5_goesOn : GoodIn wsX5_oathFor wsX5_goesOn := goodIn_r _ [23, 3, 24, 25, 6, 26, 1, 27, 28, 29, 17, 18, 19, 30, 31, 32, 33, 34, 35, 36, 37, 38, 39, 40, 41, 42, 43, 44, 45, 46, 47, 48, 49, 50, 51, 52, 53, 54, 55, 56, 57, 58, 59, 60, 61, 62, 63, 64, 65, 66, 67, 68] (by decide +kernel) (by decide +kernel)
set_option maxRecDepth 20000 in
theorem gX5_oathFor_X5_goesOn : GoodIn wsX5_oathFor (wsV RX5 157 RX5 yX5_goesOn wsX5_goesOn) := goodIn_app (goodIn_of _ (by decide +kernel)) ggX5_oathFor_X5_goesOn

theorem dX5_oathFor_0 : decode cX5_oathFor 0 = .ok (.aload_n 0, 1) := by decide +kernel
theorem dX5_oathFor_1 : decode cX5_oathFor 1 = .ok (.iload_n 1, 1) := by decide +kernel
theorem dX5_oathFor_2 : decode cX5_oathFor 2 = .ok (.i2l, 1) := by decide +kernel
theorem dX5_oathFor_3 : decode cX5_oathFor 3 = .ok (.lconst 1, 1) := by decide +kernel
theorem dX5_oathFor_4 : decode cX5_oathFor 4 = .ok (.ldc2_w 107, 3) := by decide +kernel
theorem dX5_oathFor_7 : decode cX5_oathFor 7 = .ok (.invokestatic 48, 3) := by decide +kernel
theorem dX5_oathFor_10 : decode cX5_oathFor 10 = .ok (.ifCond .ne 7, 3) := by decide +kernel
theorem dX5_oathFor_13 : decode cX5_oathFor 13 = .ok (.iconst 1, 1) := by decide +kernel
theorem dX5_oathFor_14 : decode cX5_oathFor 14 = .ok (.goto 4, 3) := by decide +kernel
theorem dX5_oathFor_17 : decode cX5_oathFor 17 = .ok (.iconst 0, 1) := by decide +kernel
theorem dX5_oathFor_18 : decode cX5_oathFor 18 = .ok (.iconst 0, 1) := by decide +kernel
theorem dX5_oathFor_19 : decode cX5_oathFor 19 = .ok (.invokevirtual 62, 3) := by decide +kernel
theorem dX5_oathFor_22 : decode cX5_oathFor 22 = .ok (.ifCond .ne 5, 3) := by decide +kernel
theorem dX5_oathFor_25 : decode cX5_oathFor 25 = .ok (.iconst 0, 1) := by decide +kernel
theorem dX5_oathFor_26 : decode cX5_oathFor 26 = .ok (.ireturn, 1) := by decide +kernel
theorem dX5_oathFor_27 : decode cX5_oathFor 27 = .ok (.iconst 1, 1) := by decide +kernel
theorem dX5_oathFor_28 : decode cX5_oathFor 28 = .ok (.istore_n 2, 1) := by decide +kernel
theorem dX5_oathFor_29 : decode cX5_oathFor 29 = .ok (.iload_n 2, 1) := by decide +kernel
theorem dX5_oathFor_30 : decode cX5_oathFor 30 = .ok (.bipush 13, 2) := by decide +kernel
theorem dX5_oathFor_32 : decode cX5_oathFor 32 = .ok (.if_icmp .ge 71, 3) := by decide +kernel
theorem dX5_oathFor_35 : decode cX5_oathFor 35 = .ok (.aload_n 0, 1) := by decide +kernel
theorem dX5_oathFor_36 : decode cX5_oathFor 36 = .ok (.invokevirtual 154, 3) := by decide +kernel
theorem dX5_oathFor_39 : decode cX5_oathFor 39 = .ok (.iconst 0, 1) := by decide +kernel
theorem dX5_oathFor_40 : decode cX5_oathFor 40 = .ok (.istore_n 3, 1) := by decide +kernel
theorem dX5_oathFor_41 : decode cX5_oathFor 41 = .ok (.iload_n 3, 1) := by decide +kernel
theorem dX5_oathFor_42 : decode cX5_oathFor 42 = .ok (.i2l, 1) := by decide +kernel
theorem dX5_oathFor_43 : decode cX5_oathFor 43 = .ok (.aload_n 0, 1) := by decide +kernel
theorem dX5_oathFor_44 : decode cX5_oathFor 44 = .ok (.getfield 7, 3) := by decide +kernel
theorem dX5_oathFor_47 : decode cX5_oathFor 47 = .ok (.bipush 7, 2) := by decide +kernel
theorem dX5_oathFor_49 : decode cX5_oathFor 49 = .ok (.laload, 1) := by decide +kernel
theorem dX5_oathFor_50 : decode cX5_oathFor 50 = .ok (.lcmp, 1) := by decide +kernel
theorem dX5_oathFor_51 : decode cX5_oathFor 51 = .ok (.ifCond .ge 21, 3) := by decide +kernel
theorem dX5_oathFor_54 : decode cX5_oathFor 54 = .ok (.aload_n 0, 1) := by decide +kernel
theorem dX5_oathFor_55 : decode cX5_oathFor 55 = .ok (.getfield 13, 3) := by decide +kernel
theorem dX5_oathFor_58 : decode cX5_oathFor 58 = .ok (.iload_n 3, 1) := by decide +kernel
theorem dX5_oathFor_59 : decode cX5_oathFor 59 = .ok (.iconst 1, 1) := by decide +kernel
theorem dX5_oathFor_60 : decode cX5_oathFor 60 = .ok (.invokestatic 82, 3) := by decide +kernel
theorem dX5_oathFor_63 : decode cX5_oathFor 63 = .ok (.iload_n 2, 1) := by decide +kernel
theorem dX5_oathFor_64 : decode cX5_oathFor 64 = .ok (.i2l, 1) := by decide +kernel
theorem dX5_oathFor_65 : decode cX5_oathFor 65 = .ok (.lastore, 1) := by decide +kernel
theorem dX5_oathFor_66 : decode cX5_oathFor 66 = .ok (.iinc 3 1, 3) := by decide +kernel
theorem dX5_oathFor_69 : decode cX5_oathFor 69 = .ok (.goto (-28), 3) := by decide +kernel
theorem dX5_oathFor_72 : decode cX5_oathFor 72 = .ok (.aload_n 0, 1) := by decide +kernel
theorem dX5_oathFor_73 : decode cX5_oathFor 73 = .ok (.iload_n 1, 1) := by decide +kernel
theorem dX5_oathFor_74 : decode cX5_oathFor 74 = .ok (.invokevirtual 157, 3) := by decide +kernel
theorem dX5_oathFor_77 : decode cX5_oathFor 77 = .ok (.aload_n 0, 1) := by decide +kernel
theorem dX5_oathFor_78 : decode cX5_oathFor 78 = .ok (.getfield 13, 3) := by decide +kernel
theorem dX5_oathFor_81 : decode cX5_oathFor 81 = .ok (.bipush 9, 2) := by decide +kernel
theorem dX5_oathFor_83 : decode cX5_oathFor 83 = .ok (.laload, 1) := by decide +kernel
theorem dX5_oathFor_84 : decode cX5_oathFor 84 = .ok (.aload_n 0, 1) := by decide +kernel
theorem dX5_oathFor_85 : decode cX5_oathFor 85 = .ok (.getfield 7, 3) := by decide +kernel
theorem dX5_oathFor_88 : decode cX5_oathFor 88 = .ok (.bipush 9, 2) := by decide +kernel
theorem dX5_oathFor_90 : decode cX5_oathFor 90 = .ok (.laload, 1) := by decide +kernel
theorem dX5_oathFor_91 : decode cX5_oathFor 91 = .ok (.lcmp, 1) := by decide +kernel
theorem dX5_oathFor_92 : decode cX5_oathFor 92 = .ok (.ifCond .ne 5, 3) := by decide +kernel
theorem dX5_oathFor_95 : decode cX5_oathFor 95 = .ok (.iload_n 2, 1) := by decide +kernel
theorem dX5_oathFor_96 : decode cX5_oathFor 96 = .ok (.ireturn, 1) := by decide +kernel
theorem dX5_oathFor_97 : decode cX5_oathFor 97 = .ok (.iinc 2 1, 3) := by decide +kernel
theorem dX5_oathFor_100 : decode cX5_oathFor 100 = .ok (.goto (-71), 3) := by decide +kernel
theorem dX5_oathFor_103 : decode cX5_oathFor 103 = .ok (.iconst (-1), 1) := by decide +kernel
theorem dX5_oathFor_104 : decode cX5_oathFor 104 = .ok (.ireturn, 1) := by decide +kernel
set_option maxRecDepth 20000 in
theorem ggX5_emptyIn_X5_goes : GoodIn wsX5_emptyIn wsX5_goes := goodIn_r _ [8, 9, 49, 50, 51, 52, 53, 54, 55, 56, 57, 58, 59, 60, 61, 62] (by decide +kernel) (by decide +kernel)
set_option maxRecDepth 20000 in
theorem gX5_emptyIn_X5_goes : GoodIn wsX5_emptyIn (wsV RX5 62 RX5 yX5_goes wsX5_goes) := goodIn_app (goodIn_of _ (by decide +kernel)) ggX5_emptyIn_X5_goes
set_option maxRecDepth 20000 in
theorem ggX5_emptyIn_X5_tries : GoodIn wsX5_emptyIn wsX5_tries := goodIn_r _ [13, 2, 1, 49, 50, 51, 52, 53, 54, 55, 56, 57, 58, 59, 60, 61, 62] (by decide +kernel) (by decide +kernel)
set_option maxRecDepth 20000 in
theorem gX5_emptyIn_X5_tries : GoodIn wsX5_emptyIn (wsV RX5 154 RX5 yX5_tries wsX5_tries) := goodIn_app (goodIn_of _ (by decide +kernel)) ggX5_emptyIn_X5_tries
set_option maxRecDepth 20000 in
theorem ggX5_emptyIn_X5_p : GoodIn wsX5_emptyIn wsX5_p := goodIn_r _ [16] (by decide +kernel) (by decide +kernel)
set_option maxRecDepth 20000 in
theorem gX5_emptyIn_X5_p : GoodIn wsX5_emptyIn (va_wsS RX5 82 yX5_p wsX5_p) := goodIn_app (goodIn_of _ (by decide +kernel)) ggX5_emptyIn_X5_p
set_option maxRecDepth 20000 in
theorem ggX5_emptyIn_X5_passes : GoodIn wsX5_emptyIn wsX5_passes := goodIn_r _ [19, 20, 21, 22, 7, 23, 14, 15, 16, 24, 25, 26, 27, 28, 29, 30, 31, 32, 33, 34, 35, 36, 37, 38, 39, 40, 41, 42, 43, 44, 45, 46, 47, 48] (by decide +kernel) (by decide +kernel)
set_option maxRecDepth 20000 in
theorem gX5_emptyIn_X5_passes : GoodIn wsX5_emptyIn (va_wsS RX5 129 yX5_passes wsX5_passes) := goodIn_app (goodIn_of _ (by decide +kernel)) ggX5_emptyIn_X5_passes
theorem dX5_emptyIn_0 : decode cX5_emptyIn 0 = .ok (.aload_n 0, 1) := by decide +kernel
theorem dX5_emptyIn_1 : decode cX5_emptyIn 1 = .ok (.iconst 0, 1) := by decide +kernel
theorem dX5_emptyIn_2 : decode cX5_emptyIn 2 = .ok (.iconst 0, 1) := by decide +kernel
theorem dX5_emptyIn_3 : decode cX5_emptyIn 3 = .ok (.invokevirtual 62, 3) := by decide +kernel
theorem dX5_emptyIn_6 : decode cX5_emptyIn 6 = .ok (.pop, 1) := by decide +kernel
theorem dX5_emptyIn_7 : decode cX5_emptyIn 7 = .ok (.aload_n 0, 1) := by decide +kernel
theorem dX5_emptyIn_8 : decode cX5_emptyIn 8 = .ok (.invokevirtual 154, 3) := by decide +kernel
theorem dX5_emptyIn_11 : decode cX5_emptyIn 11 = .ok (.iconst 0, 1) := by decide +kernel
theorem dX5_emptyIn_12 : decode cX5_emptyIn 12 = .ok (.istore_n 1, 1) := by decide +kernel
theorem dX5_emptyIn_13 : decode cX5_emptyIn 13 = .ok (.iload_n 1, 1) := by decide +kernel
theorem dX5_emptyIn_14 : decode cX5_emptyIn 14 = .ok (.i2l, 1) := by decide +kernel
theorem dX5_emptyIn_15 : decode cX5_emptyIn 15 = .ok (.aload_n 0, 1) := by decide +kernel
theorem dX5_emptyIn_16 : decode cX5_emptyIn 16 = .ok (.getfield 7, 3) := by decide +kernel
theorem dX5_emptyIn_19 : decode cX5_emptyIn 19 = .ok (.bipush 7, 2) := by decide +kernel
theorem dX5_emptyIn_21 : decode cX5_emptyIn 21 = .ok (.laload, 1) := by decide +kernel
theorem dX5_emptyIn_22 : decode cX5_emptyIn 22 = .ok (.lcmp, 1) := by decide +kernel
theorem dX5_emptyIn_23 : decode cX5_emptyIn 23 = .ok (.ifCond .ge 22, 3) := by decide +kernel
theorem dX5_emptyIn_26 : decode cX5_emptyIn 26 = .ok (.aload_n 0, 1) := by decide +kernel
theorem dX5_emptyIn_27 : decode cX5_emptyIn 27 = .ok (.getfield 13, 3) := by decide +kernel
theorem dX5_emptyIn_30 : decode cX5_emptyIn 30 = .ok (.iload_n 1, 1) := by decide +kernel
theorem dX5_emptyIn_31 : decode cX5_emptyIn 31 = .ok (.iconst 2, 1) := by decide +kernel
theorem dX5_emptyIn_32 : decode cX5_emptyIn 32 = .ok (.invokestatic 82, 3) := by decide +kernel
theorem dX5_emptyIn_35 : decode cX5_emptyIn 35 = .ok (.ldc2_w 89, 3) := by decide +kernel
theorem dX5_emptyIn_38 : decode cX5_emptyIn 38 = .ok (.lastore, 1) := by decide +kernel
theorem dX5_emptyIn_39 : decode cX5_emptyIn 39 = .ok (.iinc 1 1, 3) := by decide +kernel
theorem dX5_emptyIn_42 : decode cX5_emptyIn 42 = .ok (.goto (-29), 3) := by decide +kernel
theorem dX5_emptyIn_45 : decode cX5_emptyIn 45 = .ok (.iconst 0, 1) := by decide +kernel
theorem dX5_emptyIn_46 : decode cX5_emptyIn 46 = .ok (.istore_n 1, 1) := by decide +kernel
theorem dX5_emptyIn_47 : decode cX5_emptyIn 47 = .ok (.iload_n 1, 1) := by decide +kernel
theorem dX5_emptyIn_48 : decode cX5_emptyIn 48 = .ok (.sipush 1441, 3) := by decide +kernel
theorem dX5_emptyIn_51 : decode cX5_emptyIn 51 = .ok (.if_icmp .ge 29, 3) := by decide +kernel
theorem dX5_emptyIn_54 : decode cX5_emptyIn 54 = .ok (.aload_n 0, 1) := by decide +kernel
theorem dX5_emptyIn_55 : decode cX5_emptyIn 55 = .ok (.getfield 13, 3) := by decide +kernel
theorem dX5_emptyIn_58 : decode cX5_emptyIn 58 = .ok (.iconst 1, 1) := by decide +kernel
theorem dX5_emptyIn_59 : decode cX5_emptyIn 59 = .ok (.laload, 1) := by decide +kernel
theorem dX5_emptyIn_60 : decode cX5_emptyIn 60 = .ok (.lconst 0, 1) := by decide +kernel
theorem dX5_emptyIn_61 : decode cX5_emptyIn 61 = .ok (.lcmp, 1) := by decide +kernel
theorem dX5_emptyIn_62 : decode cX5_emptyIn 62 = .ok (.ifCond .ne 5, 3) := by decide +kernel
theorem dX5_emptyIn_65 : decode cX5_emptyIn 65 = .ok (.iload_n 1, 1) := by decide +kernel
theorem dX5_emptyIn_66 : decode cX5_emptyIn 66 = .ok (.ireturn, 1) := by decide +kernel
theorem dX5_emptyIn_67 : decode cX5_emptyIn 67 = .ok (.aload_n 0, 1) := by decide +kernel
theorem dX5_emptyIn_68 : decode cX5_emptyIn 68 = .ok (.getfield 13, 3) := by decide +kernel
theorem dX5_emptyIn_71 : decode cX5_emptyIn 71 = .ok (.invokestatic 129, 3) := by decide +kernel
theorem dX5_emptyIn_74 : decode cX5_emptyIn 74 = .ok (.iinc 1 1, 3) := by decide +kernel
theorem dX5_emptyIn_77 : decode cX5_emptyIn 77 = .ok (.goto (-30), 3) := by decide +kernel
theorem dX5_emptyIn_80 : decode cX5_emptyIn 80 = .ok (.iconst (-1), 1) := by decide +kernel
theorem dX5_emptyIn_81 : decode cX5_emptyIn 81 = .ok (.ireturn, 1) := by decide +kernel
set_option maxRecDepth 20000 in
theorem ggX5_started_X5_p : GoodIn wsX5_started wsX5_p := goodIn_r _ [6] (by decide +kernel) (by decide +kernel)
set_option maxRecDepth 20000 in
theorem gX5_started_X5_p : GoodIn wsX5_started (va_wsS RX5 82 yX5_p wsX5_p) := goodIn_app (goodIn_of _ (by decide +kernel)) ggX5_started_X5_p
theorem dX5_started_0 : decode cX5_started 0 = .ok (.iconst 0, 1) := by decide +kernel
theorem dX5_started_1 : decode cX5_started 1 = .ok (.istore_n 1, 1) := by decide +kernel
theorem dX5_started_2 : decode cX5_started 2 = .ok (.iload_n 1, 1) := by decide +kernel
theorem dX5_started_3 : decode cX5_started 3 = .ok (.i2l, 1) := by decide +kernel
theorem dX5_started_4 : decode cX5_started 4 = .ok (.aload_n 0, 1) := by decide +kernel
theorem dX5_started_5 : decode cX5_started 5 = .ok (.getfield 7, 3) := by decide +kernel
theorem dX5_started_8 : decode cX5_started 8 = .ok (.bipush 7, 2) := by decide +kernel
theorem dX5_started_10 : decode cX5_started 10 = .ok (.laload, 1) := by decide +kernel
theorem dX5_started_11 : decode cX5_started 11 = .ok (.lcmp, 1) := by decide +kernel
theorem dX5_started_12 : decode cX5_started 12 = .ok (.ifCond .ge 35, 3) := by decide +kernel
theorem dX5_started_15 : decode cX5_started 15 = .ok (.aload_n 0, 1) := by decide +kernel
theorem dX5_started_16 : decode cX5_started 16 = .ok (.getfield 13, 3) := by decide +kernel
theorem dX5_started_19 : decode cX5_started 19 = .ok (.iload_n 1, 1) := by decide +kernel
theorem dX5_started_20 : decode cX5_started 20 = .ok (.iconst 4, 1) := by decide +kernel
theorem dX5_started_21 : decode cX5_started 21 = .ok (.invokestatic 82, 3) := by decide +kernel
theorem dX5_started_24 : decode cX5_started 24 = .ok (.laload, 1) := by decide +kernel
theorem dX5_started_25 : decode cX5_started 25 = .ok (.aload_n 0, 1) := by decide +kernel
theorem dX5_started_26 : decode cX5_started 26 = .ok (.getfield 7, 3) := by decide +kernel
theorem dX5_started_29 : decode cX5_started 29 = .ok (.iload_n 1, 1) := by decide +kernel
theorem dX5_started_30 : decode cX5_started 30 = .ok (.iconst 4, 1) := by decide +kernel
theorem dX5_started_31 : decode cX5_started 31 = .ok (.invokestatic 82, 3) := by decide +kernel
theorem dX5_started_34 : decode cX5_started 34 = .ok (.laload, 1) := by decide +kernel
theorem dX5_started_35 : decode cX5_started 35 = .ok (.lcmp, 1) := by decide +kernel
theorem dX5_started_36 : decode cX5_started 36 = .ok (.ifCond .le 5, 3) := by decide +kernel
theorem dX5_started_39 : decode cX5_started 39 = .ok (.iload_n 1, 1) := by decide +kernel
theorem dX5_started_40 : decode cX5_started 40 = .ok (.ireturn, 1) := by decide +kernel
theorem dX5_started_41 : decode cX5_started 41 = .ok (.iinc 1 1, 3) := by decide +kernel
theorem dX5_started_44 : decode cX5_started 44 = .ok (.goto (-42), 3) := by decide +kernel
theorem dX5_started_47 : decode cX5_started 47 = .ok (.iconst (-1), 1) := by decide +kernel
theorem dX5_started_48 : decode cX5_started 48 = .ok (.ireturn, 1) := by decide +kernel
set_option maxRecDepth 20000 in
theorem ggX5_nextStart_X5_goes : GoodIn wsX5_nextStart wsX5_goes := goodIn_r _ [6, 7, 52, 53, 54, 55, 56, 57, 58, 59, 60, 61, 62, 63, 64, 65] (by decide +kernel) (by decide +kernel)
set_option maxRecDepth 20000 in
theorem gX5_nextStart_X5_goes : GoodIn wsX5_nextStart (wsV RX5 62 RX5 yX5_goes wsX5_goes) := goodIn_app (goodIn_of _ (by decide +kernel)) ggX5_nextStart_X5_goes
set_option maxRecDepth 20000 in
theorem ggX5_nextStart_X5_tries : GoodIn wsX5_nextStart wsX5_tries := goodIn_r _ [11, 1, 12, 52, 53, 54, 55, 56, 57, 58, 59, 60, 61, 62, 63, 64, 65] (by decide +kernel) (by decide +kernel)
set_option maxRecDepth 20000 in
theorem gX5_nextStart_X5_tries : GoodIn wsX5_nextStart (wsV RX5 154 RX5 yX5_tries wsX5_tries) := goodIn_app (goodIn_of _ (by decide +kernel)) ggX5_nextStart_X5_tries
set_option maxRecDepth 20000 in
theorem ggX5_nextStart_X5_started : GoodIn wsX5_nextStart wsX5_started := goodIn_r _ [16, 12, 1, 17, 18, 5, 19, 52, 53, 54, 55, 56, 57, 58, 59, 60, 61, 62, 63, 64, 65] (by decide +kernel) (by decide +kernel)
set_option maxRecDepth 20000 in
theorem gX5_nextStart_X5_started : GoodIn wsX5_nextStart (wsV RX5 161 RX5 yX5_started wsX5_started) := goodIn_app (goodIn_of _ (by decide +kernel)) ggX5_nextStart_X5_started
set_option maxRecDepth 20000 in
theorem ggX5_nextStart_X5_passes : GoodIn wsX5_nextStart wsX5_passes := goodIn_r _ [22, 23, 24, 25, 5, 26, 17, 18, 19, 27, 28, 29, 30, 31, 32, 33, 34, 35, 36, 37, 38, 39, 40, 41, 42, 43, 44, 45, 46, 47, 48, 49, 50, 51] (by decide +kernel) (by decide +kernel)
set_option maxRecDepth 20000 in
theorem gX5_nextStart_X5_passes : GoodIn wsX5_nextStart (va_wsS RX5 129 yX5_passes wsX5_passes) := goodIn_app (goodIn_of _ (by decide +kernel)) ggX5_nextStart_X5_passes
theorem dX5_nextStart_0 : decode cX5_nextStart 0 = .ok (.aload_n 0, 1) := by decide +kernel
theorem dX5_nextStart_1 : decode cX5_nextStart 1 = .ok (.iconst 0, 1) := by decide +kernel
theorem dX5_nextStart_2 : decode cX5_nextStart 2 = .ok (.iconst 0, 1) := by decide +kernel
theorem dX5_nextStart_3 : decode cX5_nextStart 3 = .ok (.invokevirtual 62, 3) := by decide +kernel
theorem dX5_nextStart_6 : decode cX5_nextStart 6 = .ok (.pop, 1) := by decide +kernel
theorem dX5_nextStart_7 : decode cX5_nextStart 7 = .ok (.aload_n 0, 1) := by decide +kernel
theorem dX5_nextStart_8 : decode cX5_nextStart 8 = .ok (.invokevirtual 154, 3) := by decide +kernel
theorem dX5_nextStart_11 : decode cX5_nextStart 11 = .ok (.iconst 0, 1) := by decide +kernel
theorem dX5_nextStart_12 : decode cX5_nextStart 12 = .ok (.istore_n 1, 1) := by decide +kernel
theorem dX5_nextStart_13 : decode cX5_nextStart 13 = .ok (.iload_n 1, 1) := by decide +kernel
theorem dX5_nextStart_14 : decode cX5_nextStart 14 = .ok (.sipush 1440, 3) := by decide +kernel
theorem dX5_nextStart_17 : decode cX5_nextStart 17 = .ok (.if_icmp .ge 24, 3) := by decide +kernel
theorem dX5_nextStart_20 : decode cX5_nextStart 20 = .ok (.aload_n 0, 1) := by decide +kernel
theorem dX5_nextStart_21 : decode cX5_nextStart 21 = .ok (.invokevirtual 161, 3) := by decide +kernel
theorem dX5_nextStart_24 : decode cX5_nextStart 24 = .ok (.iconst (-1), 1) := by decide +kernel
theorem dX5_nextStart_25 : decode cX5_nextStart 25 = .ok (.if_icmp .ne 16, 3) := by decide +kernel
theorem dX5_nextStart_28 : decode cX5_nextStart 28 = .ok (.aload_n 0, 1) := by decide +kernel
theorem dX5_nextStart_29 : decode cX5_nextStart 29 = .ok (.getfield 13, 3) := by decide +kernel
theorem dX5_nextStart_32 : decode cX5_nextStart 32 = .ok (.invokestatic 129, 3) := by decide +kernel
theorem dX5_nextStart_35 : decode cX5_nextStart 35 = .ok (.iinc 1 1, 3) := by decide +kernel
theorem dX5_nextStart_38 : decode cX5_nextStart 38 = .ok (.goto (-25), 3) := by decide +kernel
theorem dX5_nextStart_41 : decode cX5_nextStart 41 = .ok (.aload_n 0, 1) := by decide +kernel
theorem dX5_nextStart_42 : decode cX5_nextStart 42 = .ok (.invokevirtual 161, 3) := by decide +kernel
theorem dX5_nextStart_45 : decode cX5_nextStart 45 = .ok (.ireturn, 1) := by decide +kernel
set_option maxRecDepth 20000 in
theorem ggX5_honesty_X5_goes : GoodIn wsX5_honesty wsX5_goes := goodIn_r _ [6, 7, 11, 12, 13, 14, 15, 16, 17, 18, 19, 20, 21, 22, 23, 24] (by decide +kernel) (by decide +kernel)
set_option maxRecDepth 20000 in
theorem gX5_honesty_X5_goes : GoodIn wsX5_honesty (wsV RX5 62 RX5 yX5_goes wsX5_goes) := goodIn_app (goodIn_of _ (by decide +kernel)) ggX5_honesty_X5_goes
set_option maxRecDepth 20000 in
theorem ggX5_honesty_X5_p : GoodIn wsX5_honesty wsX5_p := goodIn_r _ [10] (by decide +kernel) (by decide +kernel)
set_option maxRecDepth 20000 in
theorem gX5_honesty_X5_p : GoodIn wsX5_honesty (va_wsS RX5 82 yX5_p wsX5_p) := goodIn_app (goodIn_of _ (by decide +kernel)) ggX5_honesty_X5_p
theorem dX5_honesty_0 : decode cX5_honesty 0 = .ok (.aload_n 0, 1) := by decide +kernel
theorem dX5_honesty_1 : decode cX5_honesty 1 = .ok (.iconst 0, 1) := by decide +kernel
theorem dX5_honesty_2 : decode cX5_honesty 2 = .ok (.iconst 0, 1) := by decide +kernel
theorem dX5_honesty_3 : decode cX5_honesty 3 = .ok (.invokevirtual 62, 3) := by decide +kernel
theorem dX5_honesty_6 : decode cX5_honesty 6 = .ok (.pop, 1) := by decide +kernel
theorem dX5_honesty_7 : decode cX5_honesty 7 = .ok (.lconst 0, 1) := by decide +kernel
theorem dX5_honesty_8 : decode cX5_honesty 8 = .ok (.lstore_n 1, 1) := by decide +kernel
theorem dX5_honesty_9 : decode cX5_honesty 9 = .ok (.iconst 0, 1) := by decide +kernel
theorem dX5_honesty_10 : decode cX5_honesty 10 = .ok (.istore_n 3, 1) := by decide +kernel
theorem dX5_honesty_11 : decode cX5_honesty 11 = .ok (.iload_n 3, 1) := by decide +kernel
theorem dX5_honesty_12 : decode cX5_honesty 12 = .ok (.i2l, 1) := by decide +kernel
theorem dX5_honesty_13 : decode cX5_honesty 13 = .ok (.aload_n 0, 1) := by decide +kernel
theorem dX5_honesty_14 : decode cX5_honesty 14 = .ok (.getfield 7, 3) := by decide +kernel
theorem dX5_honesty_17 : decode cX5_honesty 17 = .ok (.bipush 7, 2) := by decide +kernel
theorem dX5_honesty_19 : decode cX5_honesty 19 = .ok (.laload, 1) := by decide +kernel
theorem dX5_honesty_20 : decode cX5_honesty 20 = .ok (.lcmp, 1) := by decide +kernel
theorem dX5_honesty_21 : decode cX5_honesty 21 = .ok (.ifCond .ge 22, 3) := by decide +kernel
theorem dX5_honesty_24 : decode cX5_honesty 24 = .ok (.lload_n 1, 1) := by decide +kernel
theorem dX5_honesty_25 : decode cX5_honesty 25 = .ok (.aload_n 0, 1) := by decide +kernel
theorem dX5_honesty_26 : decode cX5_honesty 26 = .ok (.getfield 7, 3) := by decide +kernel
theorem dX5_honesty_29 : decode cX5_honesty 29 = .ok (.iload_n 3, 1) := by decide +kernel
theorem dX5_honesty_30 : decode cX5_honesty 30 = .ok (.iconst 4, 1) := by decide +kernel
theorem dX5_honesty_31 : decode cX5_honesty 31 = .ok (.invokestatic 82, 3) := by decide +kernel
theorem dX5_honesty_34 : decode cX5_honesty 34 = .ok (.laload, 1) := by decide +kernel
theorem dX5_honesty_35 : decode cX5_honesty 35 = .ok (.ladd, 1) := by decide +kernel
theorem dX5_honesty_36 : decode cX5_honesty 36 = .ok (.lstore_n 1, 1) := by decide +kernel
theorem dX5_honesty_37 : decode cX5_honesty 37 = .ok (.iinc 3 1, 3) := by decide +kernel
theorem dX5_honesty_40 : decode cX5_honesty 40 = .ok (.goto (-29), 3) := by decide +kernel
theorem dX5_honesty_43 : decode cX5_honesty 43 = .ok (.lload_n 1, 1) := by decide +kernel
theorem dX5_honesty_44 : decode cX5_honesty 44 = .ok (.lconst 0, 1) := by decide +kernel
theorem dX5_honesty_45 : decode cX5_honesty 45 = .ok (.lcmp, 1) := by decide +kernel
theorem dX5_honesty_46 : decode cX5_honesty 46 = .ok (.ifCond .ne 7, 3) := by decide +kernel
theorem dX5_honesty_49 : decode cX5_honesty 49 = .ok (.dconst 1, 1) := by decide +kernel
theorem dX5_honesty_50 : decode cX5_honesty 50 = .ok (.goto 16, 3) := by decide +kernel
theorem dX5_honesty_53 : decode cX5_honesty 53 = .ok (.lload_n 1, 1) := by decide +kernel
theorem dX5_honesty_54 : decode cX5_honesty 54 = .ok (.aload_n 0, 1) := by decide +kernel
theorem dX5_honesty_55 : decode cX5_honesty 55 = .ok (.getfield 7, 3) := by decide +kernel
theorem dX5_honesty_58 : decode cX5_honesty 58 = .ok (.bipush 9, 2) := by decide +kernel
theorem dX5_honesty_60 : decode cX5_honesty 60 = .ok (.laload, 1) := by decide +kernel
theorem dX5_honesty_61 : decode cX5_honesty 61 = .ok (.lsub, 1) := by decide +kernel
theorem dX5_honesty_62 : decode cX5_honesty 62 = .ok (.l2d, 1) := by decide +kernel
theorem dX5_honesty_63 : decode cX5_honesty 63 = .ok (.lload_n 1, 1) := by decide +kernel
theorem dX5_honesty_64 : decode cX5_honesty 64 = .ok (.l2d, 1) := by decide +kernel
theorem dX5_honesty_65 : decode cX5_honesty 65 = .ok (.ddiv, 1) := by decide +kernel
theorem dX5_honesty_66 : decode cX5_honesty 66 = .ok (.dreturn, 1) := by decide +kernel
set_option maxRecDepth 20000 in
theorem ggX5_append_X5_in : GoodIn wsX5_append wsX5_in := goodIn_r _ [7] (by decide +kernel) (by decide +kernel)
set_option maxRecDepth 20000 in
theorem gX5_append_X5_in : GoodIn wsX5_append (va_wsS RX5 48 yX5_in wsX5_in) := goodIn_app (goodIn_of _ (by decide +kernel)) ggX5_append_X5_in
set_option maxRecDepth 20000 in
theorem ggX5_append_X5_goes : GoodIn wsX5_append wsX5_goes := goodIn_r _ [11, 12, 13, 14, 15, 16, 17, 18, 19, 20, 21, 22, 23, 24, 25, 26] (by decide +kernel) (by decide +kernel)
set_option maxRecDepth 20000 in
theorem gX5_append_X5_goes : GoodIn wsX5_append (wsV RX5 62 RX5 yX5_goes wsX5_goes) := goodIn_app (goodIn_of _ (by decide +kernel)) ggX5_append_X5_goes
theorem dX5_append_0 : decode cX5_append 0 = .ok (.aload_n 0, 1) := by decide +kernel
theorem dX5_append_1 : decode cX5_append 1 = .ok (.iload_n 1, 1) := by decide +kernel
theorem dX5_append_2 : decode cX5_append 2 = .ok (.i2l, 1) := by decide +kernel
theorem dX5_append_3 : decode cX5_append 3 = .ok (.lconst 0, 1) := by decide +kernel
theorem dX5_append_4 : decode cX5_append 4 = .ok (.ldc2_w 165, 3) := by decide +kernel
theorem dX5_append_7 : decode cX5_append 7 = .ok (.invokestatic 48, 3) := by decide +kernel
theorem dX5_append_10 : decode cX5_append 10 = .ok (.ifCond .ne 7, 3) := by decide +kernel
theorem dX5_append_13 : decode cX5_append 13 = .ok (.iconst 1, 1) := by decide +kernel
theorem dX5_append_14 : decode cX5_append 14 = .ok (.goto 4, 3) := by decide +kernel
theorem dX5_append_17 : decode cX5_append 17 = .ok (.iconst 0, 1) := by decide +kernel
theorem dX5_append_18 : decode cX5_append 18 = .ok (.aload_n 0, 1) := by decide +kernel
theorem dX5_append_19 : decode cX5_append 19 = .ok (.getfield 167, 3) := by decide +kernel
theorem dX5_append_22 : decode cX5_append 22 = .ok (.bipush 100, 2) := by decide +kernel
theorem dX5_append_24 : decode cX5_append 24 = .ok (.if_icmp .ne 7, 3) := by decide +kernel
theorem dX5_append_27 : decode cX5_append 27 = .ok (.iconst 1, 1) := by decide +kernel
theorem dX5_append_28 : decode cX5_append 28 = .ok (.goto 4, 3) := by decide +kernel
theorem dX5_append_31 : decode cX5_append 31 = .ok (.iconst 0, 1) := by decide +kernel
theorem dX5_append_32 : decode cX5_append 32 = .ok (.invokevirtual 62, 3) := by decide +kernel
theorem dX5_append_35 : decode cX5_append 35 = .ok (.ifCond .ne 5, 3) := by decide +kernel
theorem dX5_append_38 : decode cX5_append 38 = .ok (.iconst 0, 1) := by decide +kernel
theorem dX5_append_39 : decode cX5_append 39 = .ok (.ireturn, 1) := by decide +kernel
theorem dX5_append_40 : decode cX5_append 40 = .ok (.aload_n 0, 1) := by decide +kernel
theorem dX5_append_41 : decode cX5_append 41 = .ok (.getfield 19, 3) := by decide +kernel
theorem dX5_append_44 : decode cX5_append 44 = .ok (.aload_n 0, 1) := by decide +kernel
theorem dX5_append_45 : decode cX5_append 45 = .ok (.getfield 167, 3) := by decide +kernel
theorem dX5_append_48 : decode cX5_append 48 = .ok (.iload_n 1, 1) := by decide +kernel
theorem dX5_append_49 : decode cX5_append 49 = .ok (.iastore, 1) := by decide +kernel
theorem dX5_append_50 : decode cX5_append 50 = .ok (.aload_n 0, 1) := by decide +kernel
theorem dX5_append_51 : decode cX5_append 51 = .ok (.dup, 1) := by decide +kernel
theorem dX5_append_52 : decode cX5_append 52 = .ok (.getfield 167, 3) := by decide +kernel
theorem dX5_append_55 : decode cX5_append 55 = .ok (.iconst 1, 1) := by decide +kernel
theorem dX5_append_56 : decode cX5_append 56 = .ok (.iadd, 1) := by decide +kernel
theorem dX5_append_57 : decode cX5_append 57 = .ok (.putfield 167, 3) := by decide +kernel
theorem dX5_append_60 : decode cX5_append 60 = .ok (.aload_n 0, 1) := by decide +kernel
theorem dX5_append_61 : decode cX5_append 61 = .ok (.getfield 167, 3) := by decide +kernel
theorem dX5_append_64 : decode cX5_append 64 = .ok (.ireturn, 1) := by decide +kernel
set_option maxRecDepth 20000 in
theorem ggX5_clearText_X5_goes : GoodIn wsX5_clearText wsX5_goes := goodIn_r _ [6, 7, 8, 9, 10, 11, 12, 13, 14, 15, 16, 17, 18, 19, 20, 21] (by decide +kernel) (by decide +kernel)
set_option maxRecDepth 20000 in
theorem gX5_clearText_X5_goes : GoodIn wsX5_clearText (wsV RX5 62 RX5 yX5_goes wsX5_goes) := goodIn_app (goodIn_of _ (by decide +kernel)) ggX5_clearText_X5_goes
theorem dX5_clearText_0 : decode cX5_clearText 0 = .ok (.aload_n 0, 1) := by decide +kernel
theorem dX5_clearText_1 : decode cX5_clearText 1 = .ok (.iconst 0, 1) := by decide +kernel
theorem dX5_clearText_2 : decode cX5_clearText 2 = .ok (.iconst 0, 1) := by decide +kernel
theorem dX5_clearText_3 : decode cX5_clearText 3 = .ok (.invokevirtual 62, 3) := by decide +kernel
theorem dX5_clearText_6 : decode cX5_clearText 6 = .ok (.pop, 1) := by decide +kernel
theorem dX5_clearText_7 : decode cX5_clearText 7 = .ok (.aload_n 0, 1) := by decide +kernel
theorem dX5_clearText_8 : decode cX5_clearText 8 = .ok (.getfield 167, 3) := by decide +kernel
theorem dX5_clearText_11 : decode cX5_clearText 11 = .ok (.istore_n 1, 1) := by decide +kernel
theorem dX5_clearText_12 : decode cX5_clearText 12 = .ok (.aload_n 0, 1) := by decide +kernel
theorem dX5_clearText_13 : decode cX5_clearText 13 = .ok (.iconst 0, 1) := by decide +kernel
theorem dX5_clearText_14 : decode cX5_clearText 14 = .ok (.putfield 167, 3) := by decide +kernel
theorem dX5_clearText_17 : decode cX5_clearText 17 = .ok (.iload_n 1, 1) := by decide +kernel
theorem dX5_clearText_18 : decode cX5_clearText 18 = .ok (.ireturn, 1) := by decide +kernel
theorem dX5_look_0 : decode cX5_look 0 = .ok (.aload_n 0, 1) := by decide +kernel
theorem dX5_look_1 : decode cX5_look 1 = .ok (.getfield 170, 3) := by decide +kernel
theorem dX5_look_4 : decode cX5_look 4 = .ok (.aload_n 0, 1) := by decide +kernel
theorem dX5_look_5 : decode cX5_look 5 = .ok (.getfield 167, 3) := by decide +kernel
theorem dX5_look_8 : decode cX5_look 8 = .ok (.if_icmp .ge 15, 3) := by decide +kernel
theorem dX5_look_11 : decode cX5_look 11 = .ok (.aload_n 0, 1) := by decide +kernel
theorem dX5_look_12 : decode cX5_look 12 = .ok (.getfield 19, 3) := by decide +kernel
theorem dX5_look_15 : decode cX5_look 15 = .ok (.aload_n 0, 1) := by decide +kernel
theorem dX5_look_16 : decode cX5_look 16 = .ok (.getfield 170, 3) := by decide +kernel
theorem dX5_look_19 : decode cX5_look 19 = .ok (.iaload, 1) := by decide +kernel
theorem dX5_look_20 : decode cX5_look 20 = .ok (.goto 4, 3) := by decide +kernel
theorem dX5_look_23 : decode cX5_look 23 = .ok (.iconst (-1), 1) := by decide +kernel
theorem dX5_look_24 : decode cX5_look 24 = .ok (.ireturn, 1) := by decide +kernel
set_option maxRecDepth 20000 in
theorem ggX5_isDigit_X5_look : GoodIn wsX5_isDigit wsX5_look := goodIn_r _ [7, 8, 9, 10, 14, 15, 16, 17, 18, 19, 20, 21, 22, 23, 24, 25, 26, 27] (by decide +kernel) (by decide +kernel)
set_option maxRecDepth 20000 in
theorem gX5_isDigit_X5_look : GoodIn wsX5_isDigit (wsV RX5 173 RX5 yX5_look wsX5_look) := goodIn_app (goodIn_of _ (by decide +kernel)) ggX5_isDigit_X5_look
set_option maxRecDepth 20000 in
theorem ggX5_isDigit_X5_in : GoodIn wsX5_isDigit wsX5_in := goodIn_r _ [13] (by decide +kernel) (by decide +kernel)
set_option maxRecDepth 20000 in
theorem gX5_isDigit_X5_in : GoodIn wsX5_isDigit (va_wsS RX5 48 yX5_in wsX5_in) := goodIn_app (goodIn_of _ (by decide +kernel)) ggX5_isDigit_X5_in
theorem dX5_isDigit_0 : decode cX5_isDigit 0 = .ok (.aload_n 0, 1) := by decide +kernel
theorem dX5_isDigit_1 : decode cX5_isDigit 1 = .ok (.invokevirtual 173, 3) := by decide +kernel
theorem dX5_isDigit_4 : decode cX5_isDigit 4 = .ok (.i2l, 1) := by decide +kernel
theorem dX5_isDigit_5 : decode cX5_isDigit 5 = .ok (.ldc2_w 176, 3) := by decide +kernel
theorem dX5_isDigit_8 : decode cX5_isDigit 8 = .ok (.ldc2_w 178, 3) := by decide +kernel
theorem dX5_isDigit_11 : decode cX5_isDigit 11 = .ok (.invokestatic 48, 3) := by decide +kernel
theorem dX5_isDigit_14 : decode cX5_isDigit 14 = .ok (.ireturn, 1) := by decide +kernel
theorem dX5_fails_0 : decode cX5_fails 0 = .ok (.aload_n 0, 1) := by decide +kernel
theorem dX5_fails_1 : decode cX5_fails 1 = .ok (.aload_n 0, 1) := by decide +kernel
theorem dX5_fails_2 : decode cX5_fails 2 = .ok (.getfield 180, 3) := by decide +kernel
theorem dX5_fails_5 : decode cX5_fails 5 = .ok (.iconst (-1), 1) := by decide +kernel
theorem dX5_fails_6 : decode cX5_fails 6 = .ok (.if_icmp .ne 7, 3) := by decide +kernel
theorem dX5_fails_9 : decode cX5_fails 9 = .ok (.iload_n 1, 1) := by decide +kernel
theorem dX5_fails_10 : decode cX5_fails 10 = .ok (.goto 7, 3) := by decide +kernel
theorem dX5_fails_13 : decode cX5_fails 13 = .ok (.aload_n 0, 1) := by decide +kernel
theorem dX5_fails_14 : decode cX5_fails 14 = .ok (.getfield 180, 3) := by decide +kernel
theorem dX5_fails_17 : decode cX5_fails 17 = .ok (.putfield 180, 3) := by decide +kernel
theorem dX5_fails_20 : decode cX5_fails 20 = .ok (.return_, 1) := by decide +kernel
set_option maxRecDepth 20000 in
theorem ggX5_sign_X5_look : GoodIn wsX5_sign wsX5_look := goodIn_r _ [7, 2, 8, 9, 14, 15, 16, 17, 18, 19, 20, 21, 22, 23, 24, 25, 26, 27] (by decide +kernel) (by decide +kernel)
set_option maxRecDepth 20000 in
theorem gX5_sign_X5_look : GoodIn wsX5_sign (wsV RX5 173 RX5 yX5_look wsX5_look) := goodIn_app (goodIn_of _ (by decide +kernel)) ggX5_sign_X5_look
set_option maxRecDepth 20000 in
theorem ggX5_sign_X5_fails : GoodIn wsX5_sign wsX5_fails := goodIn_r _ [13, 1, 14, 15, 16, 17, 18, 19, 20, 21, 22, 23, 24, 25, 26, 27] (by decide +kernel) (by decide +kernel)
set_option maxRecDepth 20000 in
theorem gX5_sign_X5_fails : GoodIn wsX5_sign (wsV RX5 183 RX5 yX5_fails wsX5_fails) := goodIn_app (goodIn_of _ (by decide +kernel)) ggX5_sign_X5_fails
theorem dX5_sign_0 : decode cX5_sign 0 = .ok (.aload_n 0, 1) := by decide +kernel
theorem dX5_sign_1 : decode cX5_sign 1 = .ok (.getfield 180, 3) := by decide +kernel
theorem dX5_sign_4 : decode cX5_sign 4 = .ok (.iconst (-1), 1) := by decide +kernel
theorem dX5_sign_5 : decode cX5_sign 5 = .ok (.if_icmp .eq 4, 3) := by decide +kernel
theorem dX5_sign_8 : decode cX5_sign 8 = .ok (.return_, 1) := by decide +kernel
theorem dX5_sign_9 : decode cX5_sign 9 = .ok (.aload_n 0, 1) := by decide +kernel
theorem dX5_sign_10 : decode cX5_sign 10 = .ok (.invokevirtual 173, 3) := by decide +kernel
theorem dX5_sign_13 : decode cX5_sign 13 = .ok (.iload_n 1, 1) := by decide +kernel
theorem dX5_sign_14 : decode cX5_sign 14 = .ok (.if_icmp .ne 16, 3) := by decide +kernel
theorem dX5_sign_17 : decode cX5_sign 17 = .ok (.aload_n 0, 1) := by decide +kernel
theorem dX5_sign_18 : decode cX5_sign 18 = .ok (.dup, 1) := by decide +kernel
theorem dX5_sign_19 : decode cX5_sign 19 = .ok (.getfield 170, 3) := by decide +kernel
theorem dX5_sign_22 : decode cX5_sign 22 = .ok (.iconst 1, 1) := by decide +kernel
theorem dX5_sign_23 : decode cX5_sign 23 = .ok (.iadd, 1) := by decide +kernel
theorem dX5_sign_24 : decode cX5_sign 24 = .ok (.putfield 170, 3) := by decide +kernel
theorem dX5_sign_27 : decode cX5_sign 27 = .ok (.goto 11, 3) := by decide +kernel
theorem dX5_sign_30 : decode cX5_sign 30 = .ok (.aload_n 0, 1) := by decide +kernel
theorem dX5_sign_31 : decode cX5_sign 31 = .ok (.aload_n 0, 1) := by decide +kernel
theorem dX5_sign_32 : decode cX5_sign 32 = .ok (.getfield 170, 3) := by decide +kernel
theorem dX5_sign_35 : decode cX5_sign 35 = .ok (.invokevirtual 183, 3) := by decide +kernel
theorem dX5_sign_38 : decode cX5_sign 38 = .ok (.return_, 1) := by decide +kernel
set_option maxRecDepth 20000 in
theorem ggX5_digit_X5_isDigit : GoodIn wsX5_digit wsX5_isDigit := goodIn_r _ [8, 9, 10, 11, 12, 13, 7, 14, 3, 15, 16, 17, 18, 19, 24, 25, 26, 27, 28, 29, 30, 31, 32, 33, 34, 35, 36, 37] (by decide +kernel) (by decide +kernel)
set_option maxRecDepth 20000 in
theorem gX5_digit_X5_isDigit : GoodIn wsX5_digit (wsV RX5 189 RX5 yX5_isDigit wsX5_isDigit) := goodIn_app (goodIn_of _ (by decide +kernel)) ggX5_digit_X5_isDigit
set_option maxRecDepth 20000 in
theorem ggX5_digit_X5_look : GoodIn wsX5_digit wsX5_look := goodIn_r _ [14, 3, 15, 16, 24, 25, 26, 27, 28, 29, 30, 31, 32, 33, 34, 35, 36, 37] (by decide +kernel) (by decide +kernel)
set_option maxRecDepth 20000 in
theorem gX5_digit_X5_look : GoodIn wsX5_digit (wsV RX5 173 RX5 yX5_look wsX5_look) := goodIn_app (goodIn_of _ (by decide +kernel)) ggX5_digit_X5_look
set_option maxRecDepth 20000 in
theorem ggX5_digit_X5_fails : GoodIn wsX5_digit wsX5_fails := goodIn_r _ [23, 2, 24, 25, 26, 27, 28, 29, 30, 31, 32, 33, 34, 35, 36, 37] (by decide +kernel) (by decide +kernel)
set_option maxRecDepth 20000 in
theorem gX5_digit_X5_fails : GoodIn wsX5_digit (wsV RX5 183 RX5 yX5_fails wsX5_fails) := goodIn_app (goodIn_of _ (by decide +kernel)) ggX5_digit_X5_fails
theorem dX5_digit_0 : decode cX5_digit 0 = .ok (.aload_n 0, 1) := by decide +kernel
theorem dX5_digit_1 : decode cX5_digit 1 = .ok (.iconst 0, 1) := by decide +kernel
theorem dX5_digit_2 : decode cX5_digit 2 = .ok (.putfield 186, 3) := by decide +kernel
theorem dX5_digit_5 : decode cX5_digit 5 = .ok (.aload_n 0, 1) := by decide +kernel
theorem dX5_digit_6 : decode cX5_digit 6 = .ok (.getfield 180, 3) := by decide +kernel
theorem dX5_digit_9 : decode cX5_digit 9 = .ok (.iconst (-1), 1) := by decide +kernel
theorem dX5_digit_10 : decode cX5_digit 10 = .ok (.if_icmp .ne 45, 3) := by decide +kernel
theorem dX5_digit_13 : decode cX5_digit 13 = .ok (.aload_n 0, 1) := by decide +kernel
theorem dX5_digit_14 : decode cX5_digit 14 = .ok (.invokevirtual 189, 3) := by decide +kernel
theorem dX5_digit_17 : decode cX5_digit 17 = .ok (.ifCond .eq 38, 3) := by decide +kernel
theorem dX5_digit_20 : decode cX5_digit 20 = .ok (.aload_n 0, 1) := by decide +kernel
theorem dX5_digit_21 : decode cX5_digit 21 = .ok (.invokevirtual 173, 3) := by decide +kernel
theorem dX5_digit_24 : decode cX5_digit 24 = .ok (.bipush 48, 2) := by decide +kernel
theorem dX5_digit_26 : decode cX5_digit 26 = .ok (.isub, 1) := by decide +kernel
theorem dX5_digit_27 : decode cX5_digit 27 = .ok (.iload_n 1, 1) := by decide +kernel
theorem dX5_digit_28 : decode cX5_digit 28 = .ok (.if_icmp .gt 27, 3) := by decide +kernel
theorem dX5_digit_31 : decode cX5_digit 31 = .ok (.aload_n 0, 1) := by decide +kernel
theorem dX5_digit_32 : decode cX5_digit 32 = .ok (.aload_n 0, 1) := by decide +kernel
theorem dX5_digit_33 : decode cX5_digit 33 = .ok (.invokevirtual 173, 3) := by decide +kernel
theorem dX5_digit_36 : decode cX5_digit 36 = .ok (.bipush 48, 2) := by decide +kernel
theorem dX5_digit_38 : decode cX5_digit 38 = .ok (.isub, 1) := by decide +kernel
theorem dX5_digit_39 : decode cX5_digit 39 = .ok (.putfield 186, 3) := by decide +kernel
theorem dX5_digit_42 : decode cX5_digit 42 = .ok (.aload_n 0, 1) := by decide +kernel
theorem dX5_digit_43 : decode cX5_digit 43 = .ok (.dup, 1) := by decide +kernel
theorem dX5_digit_44 : decode cX5_digit 44 = .ok (.getfield 170, 3) := by decide +kernel
theorem dX5_digit_47 : decode cX5_digit 47 = .ok (.iconst 1, 1) := by decide +kernel
theorem dX5_digit_48 : decode cX5_digit 48 = .ok (.iadd, 1) := by decide +kernel
theorem dX5_digit_49 : decode cX5_digit 49 = .ok (.putfield 170, 3) := by decide +kernel
theorem dX5_digit_52 : decode cX5_digit 52 = .ok (.goto 11, 3) := by decide +kernel
theorem dX5_digit_55 : decode cX5_digit 55 = .ok (.aload_n 0, 1) := by decide +kernel
theorem dX5_digit_56 : decode cX5_digit 56 = .ok (.aload_n 0, 1) := by decide +kernel
theorem dX5_digit_57 : decode cX5_digit 57 = .ok (.getfield 170, 3) := by decide +kernel
theorem dX5_digit_60 : decode cX5_digit 60 = .ok (.invokevirtual 183, 3) := by decide +kernel
theorem dX5_digit_63 : decode cX5_digit 63 = .ok (.return_, 1) := by decide +kernel
set_option maxRecDepth 20000 in
theorem ggX5_readsNumber_X5_isDigit : GoodIn wsX5_readsNumber wsX5_isDigit := goodIn_r _ [8, 9, 10, 11, 12, 13, 7, 14, 1, 15, 16, 17, 18, 19, 24, 25, 26, 27, 28, 29, 30, 31, 32, 33, 34, 35, 36, 37] (by decide +kernel) (by decide +kernel)
set_option maxRecDepth 20000 in
theorem gX5_readsNumber_X5_isDigit : GoodIn wsX5_readsNumber (wsV RX5 189 RX5 yX5_isDigit wsX5_isDigit) := goodIn_app (goodIn_of _ (by decide +kernel)) ggX5_readsNumber_X5_isDigit
set_option maxRecDepth 20000 in
theorem ggX5_readsNumber_X5_fails : GoodIn wsX5_readsNumber wsX5_fails := goodIn_r _ [23, 3, 24, 25, 26, 27, 28, 29, 30, 31, 32, 33, 34, 35, 36, 37] (by decide +kernel) (by decide +kernel)
set_option maxRecDepth 20000 in
theorem gX5_readsNumber_X5_fails : GoodIn wsX5_readsNumber (wsV RX5 183 RX5 yX5_fails wsX5_fails) := goodIn_app (goodIn_of _ (by decide +kernel)) ggX5_readsNumber_X5_fails
set_option maxRecDepth 20000 in
theorem ggX5_readsNumber_X5_look : GoodIn wsX5_readsNumber wsX5_look := goodIn_r _ [14, 1, 15, 16, 24, 25, 26, 27, 28, 29, 30, 31, 32, 33, 34, 35, 36, 37] (by decide +kernel) (by decide +kernel)
set_option maxRecDepth 20000 in
theorem gX5_readsNumber_X5_look : GoodIn wsX5_readsNumber (wsV RX5 173 RX5 yX5_look wsX5_look) := goodIn_app (goodIn_of _ (by decide +kernel)) ggX5_readsNumber_X5_look
set_option maxRecDepth 20000 in
theorem ggX5_readsNumber_X5_in : GoodIn wsX5_readsNumber wsX5_in := goodIn_r _ [19] (by decide +kernel) (by decide +kernel)
set_option maxRecDepth 20000 in
theorem gX5_readsNumber_X5_in : GoodIn wsX5_readsNumber (va_wsS RX5 48 yX5_in wsX5_in) := goodIn_app (goodIn_of _ (by decide +kernel)) ggX5_readsNumber_X5_in
theorem dX5_readsNumber_0 : decode cX5_readsNumber 0 = .ok (.aload_n 0, 1) := by decide +kernel
theorem dX5_readsNumber_1 : decode cX5_readsNumber 1 = .ok (.getfield 170, 3) := by decide +kernel
theorem dX5_readsNumber_4 : decode cX5_readsNumber 4 = .ok (.istore 4, 2) := by decide +kernel
theorem dX5_readsNumber_6 : decode cX5_readsNumber 6 = .ok (.aload_n 0, 1) := by decide +kernel
theorem dX5_readsNumber_7 : decode cX5_readsNumber 7 = .ok (.iconst 0, 1) := by decide +kernel
theorem dX5_readsNumber_8 : decode cX5_readsNumber 8 = .ok (.putfield 186, 3) := by decide +kernel
theorem dX5_readsNumber_11 : decode cX5_readsNumber 11 = .ok (.aload_n 0, 1) := by decide +kernel
theorem dX5_readsNumber_12 : decode cX5_readsNumber 12 = .ok (.getfield 180, 3) := by decide +kernel
theorem dX5_readsNumber_15 : decode cX5_readsNumber 15 = .ok (.iconst (-1), 1) := by decide +kernel
theorem dX5_readsNumber_16 : decode cX5_readsNumber 16 = .ok (.if_icmp .ne 64, 3) := by decide +kernel
theorem dX5_readsNumber_19 : decode cX5_readsNumber 19 = .ok (.aload_n 0, 1) := by decide +kernel
theorem dX5_readsNumber_20 : decode cX5_readsNumber 20 = .ok (.invokevirtual 189, 3) := by decide +kernel
theorem dX5_readsNumber_23 : decode cX5_readsNumber 23 = .ok (.ifCond .eq 57, 3) := by decide +kernel
theorem dX5_readsNumber_26 : decode cX5_readsNumber 26 = .ok (.aload_n 0, 1) := by decide +kernel
theorem dX5_readsNumber_27 : decode cX5_readsNumber 27 = .ok (.getfield 170, 3) := by decide +kernel
theorem dX5_readsNumber_30 : decode cX5_readsNumber 30 = .ok (.iload 4, 2) := by decide +kernel
theorem dX5_readsNumber_32 : decode cX5_readsNumber 32 = .ok (.isub, 1) := by decide +kernel
theorem dX5_readsNumber_33 : decode cX5_readsNumber 33 = .ok (.iload_n 1, 1) := by decide +kernel
theorem dX5_readsNumber_34 : decode cX5_readsNumber 34 = .ok (.if_icmp .ne 14, 3) := by decide +kernel
theorem dX5_readsNumber_37 : decode cX5_readsNumber 37 = .ok (.aload_n 0, 1) := by decide +kernel
theorem dX5_readsNumber_38 : decode cX5_readsNumber 38 = .ok (.aload_n 0, 1) := by decide +kernel
theorem dX5_readsNumber_39 : decode cX5_readsNumber 39 = .ok (.getfield 170, 3) := by decide +kernel
theorem dX5_readsNumber_42 : decode cX5_readsNumber 42 = .ok (.invokevirtual 183, 3) := by decide +kernel
theorem dX5_readsNumber_45 : decode cX5_readsNumber 45 = .ok (.goto (-34), 3) := by decide +kernel
theorem dX5_readsNumber_48 : decode cX5_readsNumber 48 = .ok (.aload_n 0, 1) := by decide +kernel
theorem dX5_readsNumber_49 : decode cX5_readsNumber 49 = .ok (.bipush 10, 2) := by decide +kernel
theorem dX5_readsNumber_51 : decode cX5_readsNumber 51 = .ok (.aload_n 0, 1) := by decide +kernel
theorem dX5_readsNumber_52 : decode cX5_readsNumber 52 = .ok (.getfield 186, 3) := by decide +kernel
theorem dX5_readsNumber_55 : decode cX5_readsNumber 55 = .ok (.imul, 1) := by decide +kernel
theorem dX5_readsNumber_56 : decode cX5_readsNumber 56 = .ok (.aload_n 0, 1) := by decide +kernel
theorem dX5_readsNumber_57 : decode cX5_readsNumber 57 = .ok (.invokevirtual 173, 3) := by decide +kernel
theorem dX5_readsNumber_60 : decode cX5_readsNumber 60 = .ok (.iadd, 1) := by decide +kernel
theorem dX5_readsNumber_61 : decode cX5_readsNumber 61 = .ok (.bipush 48, 2) := by decide +kernel
theorem dX5_readsNumber_63 : decode cX5_readsNumber 63 = .ok (.isub, 1) := by decide +kernel
theorem dX5_readsNumber_64 : decode cX5_readsNumber 64 = .ok (.putfield 186, 3) := by decide +kernel
theorem dX5_readsNumber_67 : decode cX5_readsNumber 67 = .ok (.aload_n 0, 1) := by decide +kernel
theorem dX5_readsNumber_68 : decode cX5_readsNumber 68 = .ok (.dup, 1) := by decide +kernel
theorem dX5_readsNumber_69 : decode cX5_readsNumber 69 = .ok (.getfield 170, 3) := by decide +kernel
theorem dX5_readsNumber_72 : decode cX5_readsNumber 72 = .ok (.iconst 1, 1) := by decide +kernel
theorem dX5_readsNumber_73 : decode cX5_readsNumber 73 = .ok (.iadd, 1) := by decide +kernel
theorem dX5_readsNumber_74 : decode cX5_readsNumber 74 = .ok (.putfield 170, 3) := by decide +kernel
theorem dX5_readsNumber_77 : decode cX5_readsNumber 77 = .ok (.goto (-66), 3) := by decide +kernel
theorem dX5_readsNumber_80 : decode cX5_readsNumber 80 = .ok (.aload_n 0, 1) := by decide +kernel
theorem dX5_readsNumber_81 : decode cX5_readsNumber 81 = .ok (.getfield 180, 3) := by decide +kernel
theorem dX5_readsNumber_84 : decode cX5_readsNumber 84 = .ok (.iconst (-1), 1) := by decide +kernel
theorem dX5_readsNumber_85 : decode cX5_readsNumber 85 = .ok (.if_icmp .ne 44, 3) := by decide +kernel
theorem dX5_readsNumber_88 : decode cX5_readsNumber 88 = .ok (.aload_n 0, 1) := by decide +kernel
theorem dX5_readsNumber_89 : decode cX5_readsNumber 89 = .ok (.getfield 170, 3) := by decide +kernel
theorem dX5_readsNumber_92 : decode cX5_readsNumber 92 = .ok (.iload 4, 2) := by decide +kernel
theorem dX5_readsNumber_94 : decode cX5_readsNumber 94 = .ok (.if_icmp .ne 14, 3) := by decide +kernel
theorem dX5_readsNumber_97 : decode cX5_readsNumber 97 = .ok (.aload_n 0, 1) := by decide +kernel
theorem dX5_readsNumber_98 : decode cX5_readsNumber 98 = .ok (.aload_n 0, 1) := by decide +kernel
theorem dX5_readsNumber_99 : decode cX5_readsNumber 99 = .ok (.getfield 170, 3) := by decide +kernel
theorem dX5_readsNumber_102 : decode cX5_readsNumber 102 = .ok (.invokevirtual 183, 3) := by decide +kernel
theorem dX5_readsNumber_105 : decode cX5_readsNumber 105 = .ok (.goto 24, 3) := by decide +kernel
theorem dX5_readsNumber_108 : decode cX5_readsNumber 108 = .ok (.aload_n 0, 1) := by decide +kernel
theorem dX5_readsNumber_109 : decode cX5_readsNumber 109 = .ok (.getfield 186, 3) := by decide +kernel
theorem dX5_readsNumber_112 : decode cX5_readsNumber 112 = .ok (.i2l, 1) := by decide +kernel
theorem dX5_readsNumber_113 : decode cX5_readsNumber 113 = .ok (.iload_n 2, 1) := by decide +kernel
theorem dX5_readsNumber_114 : decode cX5_readsNumber 114 = .ok (.i2l, 1) := by decide +kernel
theorem dX5_readsNumber_115 : decode cX5_readsNumber 115 = .ok (.iload_n 3, 1) := by decide +kernel
theorem dX5_readsNumber_116 : decode cX5_readsNumber 116 = .ok (.i2l, 1) := by decide +kernel
theorem dX5_readsNumber_117 : decode cX5_readsNumber 117 = .ok (.invokestatic 48, 3) := by decide +kernel
theorem dX5_readsNumber_120 : decode cX5_readsNumber 120 = .ok (.ifCond .ne 9, 3) := by decide +kernel
theorem dX5_readsNumber_123 : decode cX5_readsNumber 123 = .ok (.aload_n 0, 1) := by decide +kernel
theorem dX5_readsNumber_124 : decode cX5_readsNumber 124 = .ok (.iload 4, 2) := by decide +kernel
theorem dX5_readsNumber_126 : decode cX5_readsNumber 126 = .ok (.invokevirtual 183, 3) := by decide +kernel
theorem dX5_readsNumber_129 : decode cX5_readsNumber 129 = .ok (.return_, 1) := by decide +kernel
set_option maxRecDepth 20000 in
theorem ggX5_readsHour_X5_digit : GoodIn wsX5_readsHour wsX5_digit := goodIn_r _ [8, 2, 3, 1, 9, 10, 11, 7, 12, 13, 14, 15, 16, 17, 18, 19, 20, 21, 22, 23, 24, 25, 26, 27, 28, 29, 30, 31, 32, 33, 34, 35, 36, 37, 38, 39, 40, 41] (by decide +kernel) (by decide +kernel)
set_option maxRecDepth 20000 in
theorem gX5_readsHour_X5_digit : GoodIn wsX5_readsHour (wsV RX5 193 RX5 yX5_digit wsX5_digit) := goodIn_app (goodIn_of _ (by decide +kernel)) ggX5_readsHour_X5_digit
set_option maxRecDepth 20000 in
theorem ggX5_readsHour_X5_fails : GoodIn wsX5_readsHour wsX5_fails := goodIn_r _ [27, 3, 28, 29, 30, 31, 32, 33, 34, 35, 36, 37, 38, 39, 40, 41] (by decide +kernel) (by decide +kernel)
set_option maxRecDepth 20000 in
theorem gX5_readsHour_X5_fails : GoodIn wsX5_readsHour (wsV RX5 183 RX5 yX5_fails wsX5_fails) := goodIn_app (goodIn_of _ (by decide +kernel)) ggX5_readsHour_X5_fails
theorem dX5_readsHour_0 : decode cX5_readsHour 0 = .ok (.aload_n 0, 1) := by decide +kernel
theorem dX5_readsHour_1 : decode cX5_readsHour 1 = .ok (.getfield 170, 3) := by decide +kernel
theorem dX5_readsHour_4 : decode cX5_readsHour 4 = .ok (.istore_n 1, 1) := by decide +kernel
theorem dX5_readsHour_5 : decode cX5_readsHour 5 = .ok (.aload_n 0, 1) := by decide +kernel
theorem dX5_readsHour_6 : decode cX5_readsHour 6 = .ok (.bipush 9, 2) := by decide +kernel
theorem dX5_readsHour_8 : decode cX5_readsHour 8 = .ok (.invokevirtual 193, 3) := by decide +kernel
theorem dX5_readsHour_11 : decode cX5_readsHour 11 = .ok (.aload_n 0, 1) := by decide +kernel
theorem dX5_readsHour_12 : decode cX5_readsHour 12 = .ok (.getfield 186, 3) := by decide +kernel
theorem dX5_readsHour_15 : decode cX5_readsHour 15 = .ok (.istore_n 2, 1) := by decide +kernel
theorem dX5_readsHour_16 : decode cX5_readsHour 16 = .ok (.aload_n 0, 1) := by decide +kernel
theorem dX5_readsHour_17 : decode cX5_readsHour 17 = .ok (.bipush 9, 2) := by decide +kernel
theorem dX5_readsHour_19 : decode cX5_readsHour 19 = .ok (.invokevirtual 193, 3) := by decide +kernel
theorem dX5_readsHour_22 : decode cX5_readsHour 22 = .ok (.aload_n 0, 1) := by decide +kernel
theorem dX5_readsHour_23 : decode cX5_readsHour 23 = .ok (.dup, 1) := by decide +kernel
theorem dX5_readsHour_24 : decode cX5_readsHour 24 = .ok (.getfield 186, 3) := by decide +kernel
theorem dX5_readsHour_27 : decode cX5_readsHour 27 = .ok (.bipush 10, 2) := by decide +kernel
theorem dX5_readsHour_29 : decode cX5_readsHour 29 = .ok (.iload_n 2, 1) := by decide +kernel
theorem dX5_readsHour_30 : decode cX5_readsHour 30 = .ok (.imul, 1) := by decide +kernel
theorem dX5_readsHour_31 : decode cX5_readsHour 31 = .ok (.iadd, 1) := by decide +kernel
theorem dX5_readsHour_32 : decode cX5_readsHour 32 = .ok (.putfield 186, 3) := by decide +kernel
theorem dX5_readsHour_35 : decode cX5_readsHour 35 = .ok (.aload_n 0, 1) := by decide +kernel
theorem dX5_readsHour_36 : decode cX5_readsHour 36 = .ok (.getfield 180, 3) := by decide +kernel
theorem dX5_readsHour_39 : decode cX5_readsHour 39 = .ok (.iconst (-1), 1) := by decide +kernel
theorem dX5_readsHour_40 : decode cX5_readsHour 40 = .ok (.if_icmp .ne 17, 3) := by decide +kernel
theorem dX5_readsHour_43 : decode cX5_readsHour 43 = .ok (.aload_n 0, 1) := by decide +kernel
theorem dX5_readsHour_44 : decode cX5_readsHour 44 = .ok (.getfield 186, 3) := by decide +kernel
theorem dX5_readsHour_47 : decode cX5_readsHour 47 = .ok (.bipush 23, 2) := by decide +kernel
theorem dX5_readsHour_49 : decode cX5_readsHour 49 = .ok (.if_icmp .le 8, 3) := by decide +kernel
theorem dX5_readsHour_52 : decode cX5_readsHour 52 = .ok (.aload_n 0, 1) := by decide +kernel
theorem dX5_readsHour_53 : decode cX5_readsHour 53 = .ok (.iload_n 1, 1) := by decide +kernel
theorem dX5_readsHour_54 : decode cX5_readsHour 54 = .ok (.invokevirtual 183, 3) := by decide +kernel
theorem dX5_readsHour_57 : decode cX5_readsHour 57 = .ok (.return_, 1) := by decide +kernel
set_option maxRecDepth 20000 in
theorem ggX5_readsOrder_X5_look : GoodIn wsX5_readsOrder wsX5_look := goodIn_r _ [12, 3, 13, 14, 44, 45, 46, 47, 48, 49, 50, 51, 52, 53, 54, 55, 56, 57] (by decide +kernel) (by decide +kernel)
set_option maxRecDepth 20000 in
theorem gX5_readsOrder_X5_look : GoodIn wsX5_readsOrder (wsV RX5 173 RX5 yX5_look wsX5_look) := goodIn_app (goodIn_of _ (by decide +kernel)) ggX5_readsOrder_X5_look
set_option maxRecDepth 20000 in
theorem ggX5_readsOrder_X5_readsNumber : GoodIn wsX5_readsOrder wsX5_readsNumber := goodIn_r _ [18, 3, 4, 5, 19, 20, 21, 11, 22, 23, 24, 8, 9, 10, 12, 13, 14, 25, 26, 27, 28, 29, 30, 31, 44, 45, 46, 47, 48, 49, 50, 51, 52, 53, 54, 55, 56, 57] (by decide +kernel) (by decide +kernel)
set_option maxRecDepth 20000 in
theorem gX5_readsOrder_X5_readsNumber : GoodIn wsX5_readsOrder (wsV RX5 199 RX5 yX5_readsNumber wsX5_readsNumber) := goodIn_app (goodIn_of _ (by decide +kernel)) ggX5_readsOrder_X5_readsNumber
set_option maxRecDepth 20000 in
theorem ggX5_readsOrder_X5_digit : GoodIn wsX5_readsOrder wsX5_digit := goodIn_r _ [35, 4, 5, 3, 19, 20, 21, 11, 22, 23, 24, 8, 9, 10, 12, 13, 14, 25, 26, 27, 28, 29, 30, 31, 44, 45, 46, 47, 48, 49, 50, 51, 52, 53, 54, 55, 56, 57] (by decide +kernel) (by decide +kernel)
set_option maxRecDepth 20000 in
theorem gX5_readsOrder_X5_digit : GoodIn wsX5_readsOrder (wsV RX5 193 RX5 yX5_digit wsX5_digit) := goodIn_app (goodIn_of _ (by decide +kernel)) ggX5_readsOrder_X5_digit
set_option maxRecDepth 20000 in
theorem ggX5_readsOrder_X5_sign : GoodIn wsX5_readsOrder wsX5_sign := goodIn_r _ [39, 5, 3, 8, 9, 10, 11, 12, 13, 14, 28, 29, 30, 31, 44, 45, 46, 47, 48, 49, 50, 51, 52, 53, 54, 55, 56, 57] (by decide +kernel) (by decide +kernel)
set_option maxRecDepth 20000 in
theorem gX5_readsOrder_X5_sign : GoodIn wsX5_readsOrder (wsV RX5 203 RX5 yX5_sign wsX5_sign) := goodIn_app (goodIn_of _ (by decide +kernel)) ggX5_readsOrder_X5_sign
set_option maxRecDepth 20000 in
theorem ggX5_readsOrder_X5_readsHour : GoodIn wsX5_readsOrder wsX5_readsHour := goodIn_r _ [43, 3, 4, 5, 32, 33, 34, 11, 35, 19, 20, 21, 22, 23, 24, 8, 9, 10, 12, 13, 14, 25, 26, 27, 28, 29, 30, 31, 44, 45, 46, 47, 48, 49, 50, 51, 52, 53, 54, 55, 56, 57] (by decide +kernel) (by decide +kernel)
set_option maxRecDepth 20000 in
theorem gX5_readsOrder_X5_readsHour : GoodIn wsX5_readsOrder (wsV RX5 206 RX5 yX5_readsHour wsX5_readsHour) := goodIn_app (goodIn_of _ (by decide +kernel)) ggX5_readsOrder_X5_readsHour
set_option maxRecDepth 20000 in
theorem ggX5_readsOrder_X5_fails : GoodIn wsX5_readsOrder wsX5_fails := goodIn_r _ [31, 5, 44, 45, 46, 47, 48, 49, 50, 51, 52, 53, 54, 55, 56, 57] (by decide +kernel) (by decide +kernel)
set_option maxRecDepth 20000 in
theorem gX5_readsOrder_X5_fails : GoodIn wsX5_readsOrder (wsV RX5 183 RX5 yX5_fails wsX5_fails) := goodIn_app (goodIn_of _ (by decide +kernel)) ggX5_readsOrder_X5_fails
theorem dX5_readsOrder_0 : decode cX5_readsOrder 0 = .ok (.aload_n 0, 1) := by decide +kernel
theorem dX5_readsOrder_1 : decode cX5_readsOrder 1 = .ok (.invokevirtual 173, 3) := by decide +kernel
theorem dX5_readsOrder_4 : decode cX5_readsOrder 4 = .ok (.istore_n 1, 1) := by decide +kernel
theorem dX5_readsOrder_5 : decode cX5_readsOrder 5 = .ok (.aload_n 0, 1) := by decide +kernel
theorem dX5_readsOrder_6 : decode cX5_readsOrder 6 = .ok (.getfield 26, 3) := by decide +kernel
theorem dX5_readsOrder_9 : decode cX5_readsOrder 9 = .ok (.aload_n 0, 1) := by decide +kernel
theorem dX5_readsOrder_10 : decode cX5_readsOrder 10 = .ok (.getfield 196, 3) := by decide +kernel
theorem dX5_readsOrder_13 : decode cX5_readsOrder 13 = .ok (.iconst 0, 1) := by decide +kernel
theorem dX5_readsOrder_14 : decode cX5_readsOrder 14 = .ok (.iastore, 1) := by decide +kernel
theorem dX5_readsOrder_15 : decode cX5_readsOrder 15 = .ok (.aload_n 0, 1) := by decide +kernel
theorem dX5_readsOrder_16 : decode cX5_readsOrder 16 = .ok (.dup, 1) := by decide +kernel
theorem dX5_readsOrder_17 : decode cX5_readsOrder 17 = .ok (.getfield 170, 3) := by decide +kernel
theorem dX5_readsOrder_20 : decode cX5_readsOrder 20 = .ok (.iconst 1, 1) := by decide +kernel
theorem dX5_readsOrder_21 : decode cX5_readsOrder 21 = .ok (.iadd, 1) := by decide +kernel
theorem dX5_readsOrder_22 : decode cX5_readsOrder 22 = .ok (.putfield 170, 3) := by decide +kernel
theorem dX5_readsOrder_25 : decode cX5_readsOrder 25 = .ok (.iload_n 1, 1) := by decide +kernel
theorem dX5_readsOrder_26 : decode cX5_readsOrder 26 = .ok (.lookupswitch 153 #[(100, 118), (109, 50), (111, 62), (120, 97), (121, 97)], 50) := by decide +kernel
theorem dX5_readsOrder_76 : decode cX5_readsOrder 76 = .ok (.aload_n 0, 1) := by decide +kernel
theorem dX5_readsOrder_77 : decode cX5_readsOrder 77 = .ok (.iconst 3, 1) := by decide +kernel
theorem dX5_readsOrder_78 : decode cX5_readsOrder 78 = .ok (.iconst 1, 1) := by decide +kernel
theorem dX5_readsOrder_79 : decode cX5_readsOrder 79 = .ok (.sipush 720, 3) := by decide +kernel
theorem dX5_readsOrder_82 : decode cX5_readsOrder 82 = .ok (.invokevirtual 199, 3) := by decide +kernel
theorem dX5_readsOrder_85 : decode cX5_readsOrder 85 = .ok (.goto 104, 3) := by decide +kernel
theorem dX5_readsOrder_88 : decode cX5_readsOrder 88 = .ok (.aload_n 0, 1) := by decide +kernel
theorem dX5_readsOrder_89 : decode cX5_readsOrder 89 = .ok (.iconst 5, 1) := by decide +kernel
theorem dX5_readsOrder_90 : decode cX5_readsOrder 90 = .ok (.invokevirtual 193, 3) := by decide +kernel
theorem dX5_readsOrder_93 : decode cX5_readsOrder 93 = .ok (.aload_n 0, 1) := by decide +kernel
theorem dX5_readsOrder_94 : decode cX5_readsOrder 94 = .ok (.getfield 26, 3) := by decide +kernel
theorem dX5_readsOrder_97 : decode cX5_readsOrder 97 = .ok (.aload_n 0, 1) := by decide +kernel
theorem dX5_readsOrder_98 : decode cX5_readsOrder 98 = .ok (.getfield 196, 3) := by decide +kernel
theorem dX5_readsOrder_101 : decode cX5_readsOrder 101 = .ok (.aload_n 0, 1) := by decide +kernel
theorem dX5_readsOrder_102 : decode cX5_readsOrder 102 = .ok (.getfield 186, 3) := by decide +kernel
theorem dX5_readsOrder_105 : decode cX5_readsOrder 105 = .ok (.iastore, 1) := by decide +kernel
theorem dX5_readsOrder_106 : decode cX5_readsOrder 106 = .ok (.aload_n 0, 1) := by decide +kernel
theorem dX5_readsOrder_107 : decode cX5_readsOrder 107 = .ok (.bipush 61, 2) := by decide +kernel
theorem dX5_readsOrder_109 : decode cX5_readsOrder 109 = .ok (.invokevirtual 203, 3) := by decide +kernel
theorem dX5_readsOrder_112 : decode cX5_readsOrder 112 = .ok (.aload_n 0, 1) := by decide +kernel
theorem dX5_readsOrder_113 : decode cX5_readsOrder 113 = .ok (.iconst 2, 1) := by decide +kernel
theorem dX5_readsOrder_114 : decode cX5_readsOrder 114 = .ok (.iconst 1, 1) := by decide +kernel
theorem dX5_readsOrder_115 : decode cX5_readsOrder 115 = .ok (.bipush 12, 2) := by decide +kernel
theorem dX5_readsOrder_117 : decode cX5_readsOrder 117 = .ok (.invokevirtual 199, 3) := by decide +kernel
theorem dX5_readsOrder_120 : decode cX5_readsOrder 120 = .ok (.goto 69, 3) := by decide +kernel
theorem dX5_readsOrder_123 : decode cX5_readsOrder 123 = .ok (.aload_n 0, 1) := by decide +kernel
theorem dX5_readsOrder_124 : decode cX5_readsOrder 124 = .ok (.iconst 5, 1) := by decide +kernel
theorem dX5_readsOrder_125 : decode cX5_readsOrder 125 = .ok (.invokevirtual 193, 3) := by decide +kernel
theorem dX5_readsOrder_128 : decode cX5_readsOrder 128 = .ok (.aload_n 0, 1) := by decide +kernel
theorem dX5_readsOrder_129 : decode cX5_readsOrder 129 = .ok (.getfield 26, 3) := by decide +kernel
theorem dX5_readsOrder_132 : decode cX5_readsOrder 132 = .ok (.aload_n 0, 1) := by decide +kernel
theorem dX5_readsOrder_133 : decode cX5_readsOrder 133 = .ok (.getfield 196, 3) := by decide +kernel
theorem dX5_readsOrder_136 : decode cX5_readsOrder 136 = .ok (.aload_n 0, 1) := by decide +kernel
theorem dX5_readsOrder_137 : decode cX5_readsOrder 137 = .ok (.getfield 186, 3) := by decide +kernel
theorem dX5_readsOrder_140 : decode cX5_readsOrder 140 = .ok (.iastore, 1) := by decide +kernel
theorem dX5_readsOrder_141 : decode cX5_readsOrder 141 = .ok (.goto 48, 3) := by decide +kernel
theorem dX5_readsOrder_144 : decode cX5_readsOrder 144 = .ok (.aload_n 0, 1) := by decide +kernel
theorem dX5_readsOrder_145 : decode cX5_readsOrder 145 = .ok (.invokevirtual 206, 3) := by decide +kernel
theorem dX5_readsOrder_148 : decode cX5_readsOrder 148 = .ok (.aload_n 0, 1) := by decide +kernel
theorem dX5_readsOrder_149 : decode cX5_readsOrder 149 = .ok (.getfield 26, 3) := by decide +kernel
theorem dX5_readsOrder_152 : decode cX5_readsOrder 152 = .ok (.aload_n 0, 1) := by decide +kernel
theorem dX5_readsOrder_153 : decode cX5_readsOrder 153 = .ok (.getfield 196, 3) := by decide +kernel
theorem dX5_readsOrder_156 : decode cX5_readsOrder 156 = .ok (.aload_n 0, 1) := by decide +kernel
theorem dX5_readsOrder_157 : decode cX5_readsOrder 157 = .ok (.getfield 186, 3) := by decide +kernel
theorem dX5_readsOrder_160 : decode cX5_readsOrder 160 = .ok (.iastore, 1) := by decide +kernel
theorem dX5_readsOrder_161 : decode cX5_readsOrder 161 = .ok (.aload_n 0, 1) := by decide +kernel
theorem dX5_readsOrder_162 : decode cX5_readsOrder 162 = .ok (.bipush 61, 2) := by decide +kernel
theorem dX5_readsOrder_164 : decode cX5_readsOrder 164 = .ok (.invokevirtual 203, 3) := by decide +kernel
theorem dX5_readsOrder_167 : decode cX5_readsOrder 167 = .ok (.aload_n 0, 1) := by decide +kernel
theorem dX5_readsOrder_168 : decode cX5_readsOrder 168 = .ok (.iconst 4, 1) := by decide +kernel
theorem dX5_readsOrder_169 : decode cX5_readsOrder 169 = .ok (.iconst 0, 1) := by decide +kernel
theorem dX5_readsOrder_170 : decode cX5_readsOrder 170 = .ok (.sipush 1000, 3) := by decide +kernel
theorem dX5_readsOrder_173 : decode cX5_readsOrder 173 = .ok (.invokevirtual 199, 3) := by decide +kernel
theorem dX5_readsOrder_176 : decode cX5_readsOrder 176 = .ok (.goto 13, 3) := by decide +kernel
theorem dX5_readsOrder_179 : decode cX5_readsOrder 179 = .ok (.aload_n 0, 1) := by decide +kernel
theorem dX5_readsOrder_180 : decode cX5_readsOrder 180 = .ok (.aload_n 0, 1) := by decide +kernel
theorem dX5_readsOrder_181 : decode cX5_readsOrder 181 = .ok (.getfield 170, 3) := by decide +kernel
theorem dX5_readsOrder_184 : decode cX5_readsOrder 184 = .ok (.iconst 1, 1) := by decide +kernel
theorem dX5_readsOrder_185 : decode cX5_readsOrder 185 = .ok (.isub, 1) := by decide +kernel
theorem dX5_readsOrder_186 : decode cX5_readsOrder 186 = .ok (.invokevirtual 183, 3) := by decide +kernel
theorem dX5_readsOrder_189 : decode cX5_readsOrder 189 = .ok (.aload_n 0, 1) := by decide +kernel
theorem dX5_readsOrder_190 : decode cX5_readsOrder 190 = .ok (.bipush 59, 2) := by decide +kernel
theorem dX5_readsOrder_192 : decode cX5_readsOrder 192 = .ok (.invokevirtual 203, 3) := by decide +kernel
theorem dX5_readsOrder_195 : decode cX5_readsOrder 195 = .ok (.aload_n 0, 1) := by decide +kernel
theorem dX5_readsOrder_196 : decode cX5_readsOrder 196 = .ok (.getfield 180, 3) := by decide +kernel
theorem dX5_readsOrder_199 : decode cX5_readsOrder 199 = .ok (.iconst (-1), 1) := by decide +kernel
theorem dX5_readsOrder_200 : decode cX5_readsOrder 200 = .ok (.if_icmp .ne 36, 3) := by decide +kernel
theorem dX5_readsOrder_203 : decode cX5_readsOrder 203 = .ok (.aload_n 0, 1) := by decide +kernel
theorem dX5_readsOrder_204 : decode cX5_readsOrder 204 = .ok (.getfield 23, 3) := by decide +kernel
theorem dX5_readsOrder_207 : decode cX5_readsOrder 207 = .ok (.aload_n 0, 1) := by decide +kernel
theorem dX5_readsOrder_208 : decode cX5_readsOrder 208 = .ok (.getfield 196, 3) := by decide +kernel
theorem dX5_readsOrder_211 : decode cX5_readsOrder 211 = .ok (.iload_n 1, 1) := by decide +kernel
theorem dX5_readsOrder_212 : decode cX5_readsOrder 212 = .ok (.iastore, 1) := by decide +kernel
theorem dX5_readsOrder_213 : decode cX5_readsOrder 213 = .ok (.aload_n 0, 1) := by decide +kernel
theorem dX5_readsOrder_214 : decode cX5_readsOrder 214 = .ok (.getfield 29, 3) := by decide +kernel
theorem dX5_readsOrder_217 : decode cX5_readsOrder 217 = .ok (.aload_n 0, 1) := by decide +kernel
theorem dX5_readsOrder_218 : decode cX5_readsOrder 218 = .ok (.getfield 196, 3) := by decide +kernel
theorem dX5_readsOrder_221 : decode cX5_readsOrder 221 = .ok (.aload_n 0, 1) := by decide +kernel
theorem dX5_readsOrder_222 : decode cX5_readsOrder 222 = .ok (.getfield 186, 3) := by decide +kernel
theorem dX5_readsOrder_225 : decode cX5_readsOrder 225 = .ok (.iastore, 1) := by decide +kernel
theorem dX5_readsOrder_226 : decode cX5_readsOrder 226 = .ok (.aload_n 0, 1) := by decide +kernel
theorem dX5_readsOrder_227 : decode cX5_readsOrder 227 = .ok (.dup, 1) := by decide +kernel
theorem dX5_readsOrder_228 : decode cX5_readsOrder 228 = .ok (.getfield 196, 3) := by decide +kernel
theorem dX5_readsOrder_231 : decode cX5_readsOrder 231 = .ok (.iconst 1, 1) := by decide +kernel
theorem dX5_readsOrder_232 : decode cX5_readsOrder 232 = .ok (.iadd, 1) := by decide +kernel
theorem dX5_readsOrder_233 : decode cX5_readsOrder 233 = .ok (.putfield 196, 3) := by decide +kernel
theorem dX5_readsOrder_236 : decode cX5_readsOrder 236 = .ok (.return_, 1) := by decide +kernel
set_option maxRecDepth 20000 in
theorem ggX5_can_X5_isPump : GoodIn wsX5_can wsX5_isPump := goodIn_r _ [11, 2, 12, 13, 10, 14, 18, 19, 20, 21, 22, 23, 24, 25, 26, 27, 28, 29, 30, 31] (by decide +kernel) (by decide +kernel)
set_option maxRecDepth 20000 in
theorem gX5_can_X5_isPump : GoodIn wsX5_can (wsV RX5 85 RX5 yX5_isPump wsX5_isPump) := goodIn_app (goodIn_of _ (by decide +kernel)) ggX5_can_X5_isPump
set_option maxRecDepth 20000 in
theorem ggX5_can_X5_p : GoodIn wsX5_can wsX5_p := goodIn_r _ [17] (by decide +kernel) (by decide +kernel)
set_option maxRecDepth 20000 in
theorem gX5_can_X5_p : GoodIn wsX5_can (va_wsS RX5 82 yX5_p wsX5_p) := goodIn_app (goodIn_of _ (by decide +kernel)) ggX5_can_X5_p
theorem dX5_can_0 : decode cX5_can 0 = .ok (.aload_n 0, 1) := by decide +kernel
theorem dX5_can_1 : decode cX5_can 1 = .ok (.getfield 23, 3) := by decide +kernel
theorem dX5_can_4 : decode cX5_can 4 = .ok (.iload_n 1, 1) := by decide +kernel
theorem dX5_can_5 : decode cX5_can 5 = .ok (.iaload, 1) := by decide +kernel
theorem dX5_can_6 : decode cX5_can 6 = .ok (.lookupswitch 163 #[(109, 42), (111, 70), (120, 81), (121, 122)], 42) := by decide +kernel
theorem dX5_can_48 : decode cX5_can 48 = .ok (.aload_n 0, 1) := by decide +kernel
theorem dX5_can_49 : decode cX5_can 49 = .ok (.getfield 7, 3) := by decide +kernel
theorem dX5_can_52 : decode cX5_can 52 = .ok (.bipush 8, 2) := by decide +kernel
theorem dX5_can_54 : decode cX5_can 54 = .ok (.laload, 1) := by decide +kernel
theorem dX5_can_55 : decode cX5_can 55 = .ok (.aload_n 0, 1) := by decide +kernel
theorem dX5_can_56 : decode cX5_can 56 = .ok (.getfield 29, 3) := by decide +kernel
theorem dX5_can_59 : decode cX5_can 59 = .ok (.iload_n 1, 1) := by decide +kernel
theorem dX5_can_60 : decode cX5_can 60 = .ok (.iaload, 1) := by decide +kernel
theorem dX5_can_61 : decode cX5_can 61 = .ok (.i2l, 1) := by decide +kernel
theorem dX5_can_62 : decode cX5_can 62 = .ok (.ladd, 1) := by decide +kernel
theorem dX5_can_63 : decode cX5_can 63 = .ok (.ldc2_w 127, 3) := by decide +kernel
theorem dX5_can_66 : decode cX5_can 66 = .ok (.lcmp, 1) := by decide +kernel
theorem dX5_can_67 : decode cX5_can 67 = .ok (.ifCond .gt 7, 3) := by decide +kernel
theorem dX5_can_70 : decode cX5_can 70 = .ok (.iconst 1, 1) := by decide +kernel
theorem dX5_can_71 : decode cX5_can 71 = .ok (.goto 4, 3) := by decide +kernel
theorem dX5_can_74 : decode cX5_can 74 = .ok (.iconst 0, 1) := by decide +kernel
theorem dX5_can_75 : decode cX5_can 75 = .ok (.ireturn, 1) := by decide +kernel
theorem dX5_can_76 : decode cX5_can 76 = .ok (.aload_n 0, 1) := by decide +kernel
theorem dX5_can_77 : decode cX5_can 77 = .ok (.aload_n 0, 1) := by decide +kernel
theorem dX5_can_78 : decode cX5_can 78 = .ok (.getfield 26, 3) := by decide +kernel
theorem dX5_can_81 : decode cX5_can 81 = .ok (.iload_n 1, 1) := by decide +kernel
theorem dX5_can_82 : decode cX5_can 82 = .ok (.iaload, 1) := by decide +kernel
theorem dX5_can_83 : decode cX5_can 83 = .ok (.invokevirtual 85, 3) := by decide +kernel
theorem dX5_can_86 : decode cX5_can 86 = .ok (.ireturn, 1) := by decide +kernel
theorem dX5_can_87 : decode cX5_can 87 = .ok (.aload_n 0, 1) := by decide +kernel
theorem dX5_can_88 : decode cX5_can 88 = .ok (.aload_n 0, 1) := by decide +kernel
theorem dX5_can_89 : decode cX5_can 89 = .ok (.getfield 26, 3) := by decide +kernel
theorem dX5_can_92 : decode cX5_can 92 = .ok (.iload_n 1, 1) := by decide +kernel
theorem dX5_can_93 : decode cX5_can 93 = .ok (.iaload, 1) := by decide +kernel
theorem dX5_can_94 : decode cX5_can 94 = .ok (.invokevirtual 85, 3) := by decide +kernel
theorem dX5_can_97 : decode cX5_can 97 = .ok (.ifCond .eq 29, 3) := by decide +kernel
theorem dX5_can_100 : decode cX5_can 100 = .ok (.aload_n 0, 1) := by decide +kernel
theorem dX5_can_101 : decode cX5_can 101 = .ok (.getfield 7, 3) := by decide +kernel
theorem dX5_can_104 : decode cX5_can 104 = .ok (.aload_n 0, 1) := by decide +kernel
theorem dX5_can_105 : decode cX5_can 105 = .ok (.getfield 26, 3) := by decide +kernel
theorem dX5_can_108 : decode cX5_can 108 = .ok (.iload_n 1, 1) := by decide +kernel
theorem dX5_can_109 : decode cX5_can 109 = .ok (.iaload, 1) := by decide +kernel
theorem dX5_can_110 : decode cX5_can 110 = .ok (.iconst 2, 1) := by decide +kernel
theorem dX5_can_111 : decode cX5_can 111 = .ok (.invokestatic 82, 3) := by decide +kernel
theorem dX5_can_114 : decode cX5_can 114 = .ok (.laload, 1) := by decide +kernel
theorem dX5_can_115 : decode cX5_can 115 = .ok (.ldc2_w 89, 3) := by decide +kernel
theorem dX5_can_118 : decode cX5_can 118 = .ok (.lcmp, 1) := by decide +kernel
theorem dX5_can_119 : decode cX5_can 119 = .ok (.ifCond .eq 7, 3) := by decide +kernel
theorem dX5_can_122 : decode cX5_can 122 = .ok (.iconst 1, 1) := by decide +kernel
theorem dX5_can_123 : decode cX5_can 123 = .ok (.goto 4, 3) := by decide +kernel
theorem dX5_can_126 : decode cX5_can 126 = .ok (.iconst 0, 1) := by decide +kernel
theorem dX5_can_127 : decode cX5_can 127 = .ok (.ireturn, 1) := by decide +kernel
theorem dX5_can_128 : decode cX5_can 128 = .ok (.aload_n 0, 1) := by decide +kernel
theorem dX5_can_129 : decode cX5_can 129 = .ok (.aload_n 0, 1) := by decide +kernel
theorem dX5_can_130 : decode cX5_can 130 = .ok (.getfield 26, 3) := by decide +kernel
theorem dX5_can_133 : decode cX5_can 133 = .ok (.iload_n 1, 1) := by decide +kernel
theorem dX5_can_134 : decode cX5_can 134 = .ok (.iaload, 1) := by decide +kernel
theorem dX5_can_135 : decode cX5_can 135 = .ok (.invokevirtual 85, 3) := by decide +kernel
theorem dX5_can_138 : decode cX5_can 138 = .ok (.ifCond .eq 29, 3) := by decide +kernel
theorem dX5_can_141 : decode cX5_can 141 = .ok (.aload_n 0, 1) := by decide +kernel
theorem dX5_can_142 : decode cX5_can 142 = .ok (.getfield 7, 3) := by decide +kernel
theorem dX5_can_145 : decode cX5_can 145 = .ok (.aload_n 0, 1) := by decide +kernel
theorem dX5_can_146 : decode cX5_can 146 = .ok (.getfield 26, 3) := by decide +kernel
theorem dX5_can_149 : decode cX5_can 149 = .ok (.iload_n 1, 1) := by decide +kernel
theorem dX5_can_150 : decode cX5_can 150 = .ok (.iaload, 1) := by decide +kernel
theorem dX5_can_151 : decode cX5_can 151 = .ok (.iconst 2, 1) := by decide +kernel
theorem dX5_can_152 : decode cX5_can 152 = .ok (.invokestatic 82, 3) := by decide +kernel
theorem dX5_can_155 : decode cX5_can 155 = .ok (.laload, 1) := by decide +kernel
theorem dX5_can_156 : decode cX5_can 156 = .ok (.ldc2_w 89, 3) := by decide +kernel
theorem dX5_can_159 : decode cX5_can 159 = .ok (.lcmp, 1) := by decide +kernel
theorem dX5_can_160 : decode cX5_can 160 = .ok (.ifCond .ne 7, 3) := by decide +kernel
theorem dX5_can_163 : decode cX5_can 163 = .ok (.iconst 1, 1) := by decide +kernel
theorem dX5_can_164 : decode cX5_can 164 = .ok (.goto 4, 3) := by decide +kernel
theorem dX5_can_167 : decode cX5_can 167 = .ok (.iconst 0, 1) := by decide +kernel
theorem dX5_can_168 : decode cX5_can 168 = .ok (.ireturn, 1) := by decide +kernel
theorem dX5_can_169 : decode cX5_can 169 = .ok (.iconst 1, 1) := by decide +kernel
theorem dX5_can_170 : decode cX5_can 170 = .ok (.ireturn, 1) := by decide +kernel
set_option maxRecDepth 20000 in
theorem ggX5_does_X5_passes : GoodIn wsX5_does wsX5_passes := goodIn_r _ [9, 10, 11, 12, 8, 13, 14, 15, 16, 17, 18, 19, 20, 21, 22, 23, 24, 25, 26, 27, 28, 29, 30, 31, 32, 33, 34, 35, 36, 37, 38, 39, 40, 41] (by decide +kernel) (by decide +kernel)
set_option maxRecDepth 20000 in
theorem gX5_does_X5_passes : GoodIn wsX5_does (va_wsS RX5 129 yX5_passes wsX5_passes) := goodIn_app (goodIn_of _ (by decide +kernel)) ggX5_does_X5_passes
set_option maxRecDepth 20000 in
theorem ggX5_does_X5_p : GoodIn wsX5_does wsX5_p := goodIn_r _ [16] (by decide +kernel) (by decide +kernel)
set_option maxRecDepth 20000 in
theorem gX5_does_X5_p : GoodIn wsX5_does (va_wsS RX5 82 yX5_p wsX5_p) := goodIn_app (goodIn_of _ (by decide +kernel)) ggX5_does_X5_p
theorem dX5_does_0 : decode cX5_does 0 = .ok (.aload_n 0, 1) := by decide +kernel
theorem dX5_does_1 : decode cX5_does 1 = .ok (.getfield 23, 3) := by decide +kernel
theorem dX5_does_4 : decode cX5_does 4 = .ok (.iload_n 1, 1) := by decide +kernel
theorem dX5_does_5 : decode cX5_does 5 = .ok (.iaload, 1) := by decide +kernel
theorem dX5_does_6 : decode cX5_does 6 = .ok (.lookupswitch 111 #[(100, 87), (109, 34), (111, 62)], 34) := by decide +kernel
theorem dX5_does_40 : decode cX5_does 40 = .ok (.iconst 0, 1) := by decide +kernel
theorem dX5_does_41 : decode cX5_does 41 = .ok (.istore_n 2, 1) := by decide +kernel
theorem dX5_does_42 : decode cX5_does 42 = .ok (.iload_n 2, 1) := by decide +kernel
theorem dX5_does_43 : decode cX5_does 43 = .ok (.aload_n 0, 1) := by decide +kernel
theorem dX5_does_44 : decode cX5_does 44 = .ok (.getfield 29, 3) := by decide +kernel
theorem dX5_does_47 : decode cX5_does 47 = .ok (.iload_n 1, 1) := by decide +kernel
theorem dX5_does_48 : decode cX5_does 48 = .ok (.iaload, 1) := by decide +kernel
theorem dX5_does_49 : decode cX5_does 49 = .ok (.if_icmp .ge 16, 3) := by decide +kernel
theorem dX5_does_52 : decode cX5_does 52 = .ok (.aload_n 0, 1) := by decide +kernel
theorem dX5_does_53 : decode cX5_does 53 = .ok (.getfield 7, 3) := by decide +kernel
theorem dX5_does_56 : decode cX5_does 56 = .ok (.invokestatic 129, 3) := by decide +kernel
theorem dX5_does_59 : decode cX5_does 59 = .ok (.iinc 2 1, 3) := by decide +kernel
theorem dX5_does_62 : decode cX5_does 62 = .ok (.goto (-20), 3) := by decide +kernel
theorem dX5_does_65 : decode cX5_does 65 = .ok (.goto 85, 3) := by decide +kernel
theorem dX5_does_68 : decode cX5_does 68 = .ok (.aload_n 0, 1) := by decide +kernel
theorem dX5_does_69 : decode cX5_does 69 = .ok (.getfield 7, 3) := by decide +kernel
theorem dX5_does_72 : decode cX5_does 72 = .ok (.aload_n 0, 1) := by decide +kernel
theorem dX5_does_73 : decode cX5_does 73 = .ok (.getfield 26, 3) := by decide +kernel
theorem dX5_does_76 : decode cX5_does 76 = .ok (.iload_n 1, 1) := by decide +kernel
theorem dX5_does_77 : decode cX5_does 77 = .ok (.iaload, 1) := by decide +kernel
theorem dX5_does_78 : decode cX5_does 78 = .ok (.iconst 1, 1) := by decide +kernel
theorem dX5_does_79 : decode cX5_does 79 = .ok (.invokestatic 82, 3) := by decide +kernel
theorem dX5_does_82 : decode cX5_does 82 = .ok (.aload_n 0, 1) := by decide +kernel
theorem dX5_does_83 : decode cX5_does 83 = .ok (.getfield 29, 3) := by decide +kernel
theorem dX5_does_86 : decode cX5_does 86 = .ok (.iload_n 1, 1) := by decide +kernel
theorem dX5_does_87 : decode cX5_does 87 = .ok (.iaload, 1) := by decide +kernel
theorem dX5_does_88 : decode cX5_does 88 = .ok (.i2l, 1) := by decide +kernel
theorem dX5_does_89 : decode cX5_does 89 = .ok (.lastore, 1) := by decide +kernel
theorem dX5_does_90 : decode cX5_does 90 = .ok (.goto 60, 3) := by decide +kernel
theorem dX5_does_93 : decode cX5_does 93 = .ok (.aload_n 0, 1) := by decide +kernel
theorem dX5_does_94 : decode cX5_does 94 = .ok (.getfield 7, 3) := by decide +kernel
theorem dX5_does_97 : decode cX5_does 97 = .ok (.bipush 24, 2) := by decide +kernel
theorem dX5_does_99 : decode cX5_does 99 = .ok (.aload_n 0, 1) := by decide +kernel
theorem dX5_does_100 : decode cX5_does 100 = .ok (.getfield 26, 3) := by decide +kernel
theorem dX5_does_103 : decode cX5_does 103 = .ok (.iload_n 1, 1) := by decide +kernel
theorem dX5_does_104 : decode cX5_does 104 = .ok (.iaload, 1) := by decide +kernel
theorem dX5_does_105 : decode cX5_does 105 = .ok (.iadd, 1) := by decide +kernel
theorem dX5_does_106 : decode cX5_does 106 = .ok (.aload_n 0, 1) := by decide +kernel
theorem dX5_does_107 : decode cX5_does 107 = .ok (.getfield 29, 3) := by decide +kernel
theorem dX5_does_110 : decode cX5_does 110 = .ok (.iload_n 1, 1) := by decide +kernel
theorem dX5_does_111 : decode cX5_does 111 = .ok (.iaload, 1) := by decide +kernel
theorem dX5_does_112 : decode cX5_does 112 = .ok (.i2l, 1) := by decide +kernel
theorem dX5_does_113 : decode cX5_does 113 = .ok (.lastore, 1) := by decide +kernel
theorem dX5_does_114 : decode cX5_does 114 = .ok (.goto 36, 3) := by decide +kernel
theorem dX5_does_117 : decode cX5_does 117 = .ok (.aload_n 0, 1) := by decide +kernel
theorem dX5_does_118 : decode cX5_does 118 = .ok (.getfield 7, 3) := by decide +kernel
theorem dX5_does_121 : decode cX5_does 121 = .ok (.aload_n 0, 1) := by decide +kernel
theorem dX5_does_122 : decode cX5_does 122 = .ok (.getfield 26, 3) := by decide +kernel
theorem dX5_does_125 : decode cX5_does 125 = .ok (.iload_n 1, 1) := by decide +kernel
theorem dX5_does_126 : decode cX5_does 126 = .ok (.iaload, 1) := by decide +kernel
theorem dX5_does_127 : decode cX5_does 127 = .ok (.iconst 2, 1) := by decide +kernel
theorem dX5_does_128 : decode cX5_does 128 = .ok (.invokestatic 82, 3) := by decide +kernel
theorem dX5_does_131 : decode cX5_does 131 = .ok (.aload_n 0, 1) := by decide +kernel
theorem dX5_does_132 : decode cX5_does 132 = .ok (.getfield 23, 3) := by decide +kernel
theorem dX5_does_135 : decode cX5_does 135 = .ok (.iload_n 1, 1) := by decide +kernel
theorem dX5_does_136 : decode cX5_does 136 = .ok (.iaload, 1) := by decide +kernel
theorem dX5_does_137 : decode cX5_does 137 = .ok (.bipush 120, 2) := by decide +kernel
theorem dX5_does_139 : decode cX5_does 139 = .ok (.if_icmp .ne 9, 3) := by decide +kernel
theorem dX5_does_142 : decode cX5_does 142 = .ok (.ldc2_w 89, 3) := by decide +kernel
theorem dX5_does_145 : decode cX5_does 145 = .ok (.goto 4, 3) := by decide +kernel
theorem dX5_does_148 : decode cX5_does 148 = .ok (.lconst 0, 1) := by decide +kernel
theorem dX5_does_149 : decode cX5_does 149 = .ok (.lastore, 1) := by decide +kernel
theorem dX5_does_150 : decode cX5_does 150 = .ok (.return_, 1) := by decide +kernel
set_option maxRecDepth 20000 in
theorem ggX5_carryOut_X5_goes : GoodIn wsX5_carryOut wsX5_goes := goodIn_r _ [9, 10, 109, 110, 111, 112, 113, 114, 115, 116, 117, 118, 119, 120, 121, 122] (by decide +kernel) (by decide +kernel)
set_option maxRecDepth 20000 in
theorem gX5_carryOut_X5_goes : GoodIn wsX5_carryOut (wsV RX5 62 RX5 yX5_goes wsX5_goes) := goodIn_app (goodIn_of _ (by decide +kernel)) ggX5_carryOut_X5_goes
set_option maxRecDepth 20000 in
theorem ggX5_carryOut_X5_readsOrder : GoodIn wsX5_carryOut wsX5_readsOrder := goodIn_r _ [14, 15, 3, 1, 16, 2, 17, 18, 19, 20, 21, 8, 22, 4, 23, 24, 25, 26, 27, 28, 29, 30, 31, 32, 33, 34, 35, 36, 37, 38, 39, 40, 41, 42, 43, 44, 45, 46, 47, 48, 49, 50, 51, 52, 109, 110, 111, 112, 113, 114, 115, 116, 117, 118, 119, 120, 121, 122] (by decide +kernel) (by decide +kernel)
set_option maxRecDepth 20000 in
theorem gX5_carryOut_X5_readsOrder : GoodIn wsX5_carryOut (wsV RX5 209 RX5 yX5_readsOrder wsX5_readsOrder) := goodIn_app (goodIn_of _ (by decide +kernel)) ggX5_carryOut_X5_readsOrder
set_option maxRecDepth 20000 in
theorem ggX5_carryOut_X5_saves : GoodIn wsX5_carryOut wsX5_saves := goodIn_r _ [56, 57, 58, 59, 109, 110, 111, 112, 113, 114, 115, 116, 117, 118, 119, 120, 121, 122] (by decide +kernel) (by decide +kernel)
set_option maxRecDepth 20000 in
theorem gX5_carryOut_X5_saves : GoodIn wsX5_carryOut (wsV RX5 55 RX5 yX5_saves wsX5_saves) := goodIn_app (goodIn_of _ (by decide +kernel)) ggX5_carryOut_X5_saves
set_option maxRecDepth 20000 in
theorem ggX5_carryOut_X5_can : GoodIn wsX5_carryOut wsX5_can := goodIn_r _ [63, 17, 59, 18, 64, 15, 65, 66, 67, 68, 8, 69, 34, 35, 36, 70, 71, 72, 109, 110, 111, 112, 113, 114, 115, 116, 117, 118, 119, 120, 121, 122] (by decide +kernel) (by decide +kernel)
set_option maxRecDepth 20000 in
theorem gX5_carryOut_X5_can : GoodIn wsX5_carryOut (wsV RX5 212 RX5 yX5_can wsX5_can) := goodIn_app (goodIn_of _ (by decide +kernel)) ggX5_carryOut_X5_can
set_option maxRecDepth 20000 in
theorem ggX5_carryOut_X5_does : GoodIn wsX5_carryOut wsX5_does := goodIn_r _ [76, 17, 18, 59, 15, 65, 77, 78, 8, 79, 80, 81, 82, 83, 70, 71, 72, 84, 85, 86, 87, 88, 89, 90, 91, 92, 93, 94, 95, 96, 97, 98, 99, 100, 101, 102, 103, 104, 105, 106, 107, 108, 109, 110, 111, 112, 113, 114, 115, 116, 117, 118, 119, 120, 121, 122] (by decide +kernel) (by decide +kernel)
set_option maxRecDepth 20000 in
theorem gX5_carryOut_X5_does : GoodIn wsX5_carryOut (wsV RX5 215 RX5 yX5_does wsX5_does) := goodIn_app (goodIn_of _ (by decide +kernel)) ggX5_carryOut_X5_does
theorem dX5_carryOut_0 : decode cX5_carryOut 0 = .ok (.aload_n 0, 1) := by decide +kernel
theorem dX5_carryOut_1 : decode cX5_carryOut 1 = .ok (.iconst 0, 1) := by decide +kernel
theorem dX5_carryOut_2 : decode cX5_carryOut 2 = .ok (.iconst 0, 1) := by decide +kernel
theorem dX5_carryOut_3 : decode cX5_carryOut 3 = .ok (.invokevirtual 62, 3) := by decide +kernel
theorem dX5_carryOut_6 : decode cX5_carryOut 6 = .ok (.pop, 1) := by decide +kernel
theorem dX5_carryOut_7 : decode cX5_carryOut 7 = .ok (.aload_n 0, 1) := by decide +kernel
theorem dX5_carryOut_8 : decode cX5_carryOut 8 = .ok (.iconst 0, 1) := by decide +kernel
theorem dX5_carryOut_9 : decode cX5_carryOut 9 = .ok (.putfield 170, 3) := by decide +kernel
theorem dX5_carryOut_12 : decode cX5_carryOut 12 = .ok (.aload_n 0, 1) := by decide +kernel
theorem dX5_carryOut_13 : decode cX5_carryOut 13 = .ok (.iconst (-1), 1) := by decide +kernel
theorem dX5_carryOut_14 : decode cX5_carryOut 14 = .ok (.putfield 180, 3) := by decide +kernel
theorem dX5_carryOut_17 : decode cX5_carryOut 17 = .ok (.aload_n 0, 1) := by decide +kernel
theorem dX5_carryOut_18 : decode cX5_carryOut 18 = .ok (.iconst 0, 1) := by decide +kernel
theorem dX5_carryOut_19 : decode cX5_carryOut 19 = .ok (.putfield 196, 3) := by decide +kernel
theorem dX5_carryOut_22 : decode cX5_carryOut 22 = .ok (.aload_n 0, 1) := by decide +kernel
theorem dX5_carryOut_23 : decode cX5_carryOut 23 = .ok (.getfield 180, 3) := by decide +kernel
theorem dX5_carryOut_26 : decode cX5_carryOut 26 = .ok (.iconst (-1), 1) := by decide +kernel
theorem dX5_carryOut_27 : decode cX5_carryOut 27 = .ok (.if_icmp .ne 21, 3) := by decide +kernel
theorem dX5_carryOut_30 : decode cX5_carryOut 30 = .ok (.aload_n 0, 1) := by decide +kernel
theorem dX5_carryOut_31 : decode cX5_carryOut 31 = .ok (.getfield 170, 3) := by decide +kernel
theorem dX5_carryOut_34 : decode cX5_carryOut 34 = .ok (.aload_n 0, 1) := by decide +kernel
theorem dX5_carryOut_35 : decode cX5_carryOut 35 = .ok (.getfield 167, 3) := by decide +kernel
theorem dX5_carryOut_38 : decode cX5_carryOut 38 = .ok (.if_icmp .ge 10, 3) := by decide +kernel
theorem dX5_carryOut_41 : decode cX5_carryOut 41 = .ok (.aload_n 0, 1) := by decide +kernel
theorem dX5_carryOut_42 : decode cX5_carryOut 42 = .ok (.invokevirtual 209, 3) := by decide +kernel
theorem dX5_carryOut_45 : decode cX5_carryOut 45 = .ok (.goto (-23), 3) := by decide +kernel
theorem dX5_carryOut_48 : decode cX5_carryOut 48 = .ok (.aload_n 0, 1) := by decide +kernel
theorem dX5_carryOut_49 : decode cX5_carryOut 49 = .ok (.getfield 180, 3) := by decide +kernel
theorem dX5_carryOut_52 : decode cX5_carryOut 52 = .ok (.iconst (-1), 1) := by decide +kernel
theorem dX5_carryOut_53 : decode cX5_carryOut 53 = .ok (.if_icmp .eq 11, 3) := by decide +kernel
theorem dX5_carryOut_56 : decode cX5_carryOut 56 = .ok (.bipush (-10), 2) := by decide +kernel
theorem dX5_carryOut_58 : decode cX5_carryOut 58 = .ok (.aload_n 0, 1) := by decide +kernel
theorem dX5_carryOut_59 : decode cX5_carryOut 59 = .ok (.getfield 180, 3) := by decide +kernel
theorem dX5_carryOut_62 : decode cX5_carryOut 62 = .ok (.isub, 1) := by decide +kernel
theorem dX5_carryOut_63 : decode cX5_carryOut 63 = .ok (.ireturn, 1) := by decide +kernel
theorem dX5_carryOut_64 : decode cX5_carryOut 64 = .ok (.aload_n 0, 1) := by decide +kernel
theorem dX5_carryOut_65 : decode cX5_carryOut 65 = .ok (.invokevirtual 55, 3) := by decide +kernel
theorem dX5_carryOut_68 : decode cX5_carryOut 68 = .ok (.iconst 0, 1) := by decide +kernel
theorem dX5_carryOut_69 : decode cX5_carryOut 69 = .ok (.istore_n 1, 1) := by decide +kernel
theorem dX5_carryOut_70 : decode cX5_carryOut 70 = .ok (.iload_n 1, 1) := by decide +kernel
theorem dX5_carryOut_71 : decode cX5_carryOut 71 = .ok (.aload_n 0, 1) := by decide +kernel
theorem dX5_carryOut_72 : decode cX5_carryOut 72 = .ok (.getfield 196, 3) := by decide +kernel
theorem dX5_carryOut_75 : decode cX5_carryOut 75 = .ok (.if_icmp .ge 22, 3) := by decide +kernel
theorem dX5_carryOut_78 : decode cX5_carryOut 78 = .ok (.aload_n 0, 1) := by decide +kernel
theorem dX5_carryOut_79 : decode cX5_carryOut 79 = .ok (.iload_n 1, 1) := by decide +kernel
theorem dX5_carryOut_80 : decode cX5_carryOut 80 = .ok (.invokevirtual 212, 3) := by decide +kernel
theorem dX5_carryOut_83 : decode cX5_carryOut 83 = .ok (.ifCond .eq 14, 3) := by decide +kernel
theorem dX5_carryOut_86 : decode cX5_carryOut 86 = .ok (.aload_n 0, 1) := by decide +kernel
theorem dX5_carryOut_87 : decode cX5_carryOut 87 = .ok (.iload_n 1, 1) := by decide +kernel
theorem dX5_carryOut_88 : decode cX5_carryOut 88 = .ok (.invokevirtual 215, 3) := by decide +kernel
theorem dX5_carryOut_91 : decode cX5_carryOut 91 = .ok (.iinc 1 1, 3) := by decide +kernel
theorem dX5_carryOut_94 : decode cX5_carryOut 94 = .ok (.goto (-24), 3) := by decide +kernel
theorem dX5_carryOut_97 : decode cX5_carryOut 97 = .ok (.iload_n 1, 1) := by decide +kernel
theorem dX5_carryOut_98 : decode cX5_carryOut 98 = .ok (.ireturn, 1) := by decide +kernel
set_option maxRecDepth 20000 in
theorem ggX5_undo_X5_goes : GoodIn wsX5_undo wsX5_goes := goodIn_r _ [8, 9, 10, 11, 12, 13, 14, 15, 16, 17, 18, 19, 20, 21, 22, 23] (by decide +kernel) (by decide +kernel)
set_option maxRecDepth 20000 in
theorem gX5_undo_X5_goes : GoodIn wsX5_undo (wsV RX5 62 RX5 yX5_goes wsX5_goes) := goodIn_app (goodIn_of _ (by decide +kernel)) ggX5_undo_X5_goes
theorem dX5_undo_0 : decode cX5_undo 0 = .ok (.aload_n 0, 1) := by decide +kernel
theorem dX5_undo_1 : decode cX5_undo 1 = .ok (.aload_n 0, 1) := by decide +kernel
theorem dX5_undo_2 : decode cX5_undo 2 = .ok (.getfield 52, 3) := by decide +kernel
theorem dX5_undo_5 : decode cX5_undo 5 = .ok (.ifCond .ne 7, 3) := by decide +kernel
theorem dX5_undo_8 : decode cX5_undo 8 = .ok (.iconst 1, 1) := by decide +kernel
theorem dX5_undo_9 : decode cX5_undo 9 = .ok (.goto 4, 3) := by decide +kernel
theorem dX5_undo_12 : decode cX5_undo 12 = .ok (.iconst 0, 1) := by decide +kernel
theorem dX5_undo_13 : decode cX5_undo 13 = .ok (.iconst 0, 1) := by decide +kernel
theorem dX5_undo_14 : decode cX5_undo 14 = .ok (.invokevirtual 62, 3) := by decide +kernel
theorem dX5_undo_17 : decode cX5_undo 17 = .ok (.ifCond .ne 5, 3) := by decide +kernel
theorem dX5_undo_20 : decode cX5_undo 20 = .ok (.iconst 0, 1) := by decide +kernel
theorem dX5_undo_21 : decode cX5_undo 21 = .ok (.ireturn, 1) := by decide +kernel
theorem dX5_undo_22 : decode cX5_undo 22 = .ok (.aload_n 0, 1) := by decide +kernel
theorem dX5_undo_23 : decode cX5_undo 23 = .ok (.dup, 1) := by decide +kernel
theorem dX5_undo_24 : decode cX5_undo 24 = .ok (.getfield 52, 3) := by decide +kernel
theorem dX5_undo_27 : decode cX5_undo 27 = .ok (.iconst 1, 1) := by decide +kernel
theorem dX5_undo_28 : decode cX5_undo 28 = .ok (.isub, 1) := by decide +kernel
theorem dX5_undo_29 : decode cX5_undo 29 = .ok (.putfield 52, 3) := by decide +kernel
theorem dX5_undo_32 : decode cX5_undo 32 = .ok (.iconst 0, 1) := by decide +kernel
theorem dX5_undo_33 : decode cX5_undo 33 = .ok (.istore_n 1, 1) := by decide +kernel
theorem dX5_undo_34 : decode cX5_undo 34 = .ok (.iload_n 1, 1) := by decide +kernel
theorem dX5_undo_35 : decode cX5_undo 35 = .ok (.sipush 138, 3) := by decide +kernel
theorem dX5_undo_38 : decode cX5_undo 38 = .ok (.if_icmp .ge 30, 3) := by decide +kernel
theorem dX5_undo_41 : decode cX5_undo 41 = .ok (.aload_n 0, 1) := by decide +kernel
theorem dX5_undo_42 : decode cX5_undo 42 = .ok (.getfield 7, 3) := by decide +kernel
theorem dX5_undo_45 : decode cX5_undo 45 = .ok (.iload_n 1, 1) := by decide +kernel
theorem dX5_undo_46 : decode cX5_undo 46 = .ok (.aload_n 0, 1) := by decide +kernel
theorem dX5_undo_47 : decode cX5_undo 47 = .ok (.getfield 16, 3) := by decide +kernel
theorem dX5_undo_50 : decode cX5_undo 50 = .ok (.sipush 138, 3) := by decide +kernel
theorem dX5_undo_53 : decode cX5_undo 53 = .ok (.aload_n 0, 1) := by decide +kernel
theorem dX5_undo_54 : decode cX5_undo 54 = .ok (.getfield 52, 3) := by decide +kernel
theorem dX5_undo_57 : decode cX5_undo 57 = .ok (.imul, 1) := by decide +kernel
theorem dX5_undo_58 : decode cX5_undo 58 = .ok (.iload_n 1, 1) := by decide +kernel
theorem dX5_undo_59 : decode cX5_undo 59 = .ok (.iadd, 1) := by decide +kernel
theorem dX5_undo_60 : decode cX5_undo 60 = .ok (.laload, 1) := by decide +kernel
theorem dX5_undo_61 : decode cX5_undo 61 = .ok (.lastore, 1) := by decide +kernel
theorem dX5_undo_62 : decode cX5_undo 62 = .ok (.iinc 1 1, 3) := by decide +kernel
theorem dX5_undo_65 : decode cX5_undo 65 = .ok (.goto (-31), 3) := by decide +kernel
theorem dX5_undo_68 : decode cX5_undo 68 = .ok (.aload_n 0, 1) := by decide +kernel
theorem dX5_undo_69 : decode cX5_undo 69 = .ok (.getfield 52, 3) := by decide +kernel
theorem dX5_undo_72 : decode cX5_undo 72 = .ok (.ireturn, 1) := by decide +kernel
set_option maxRecDepth 20000 in
theorem ggX5_digest_X5_goes : GoodIn wsX5_digest wsX5_goes := goodIn_r _ [12, 13, 34, 35, 36, 37, 38, 39, 40, 41, 42, 43, 44, 45, 46, 47] (by decide +kernel) (by decide +kernel)
set_option maxRecDepth 20000 in
theorem gX5_digest_X5_goes : GoodIn wsX5_digest (wsV RX5 62 RX5 yX5_goes wsX5_goes) := goodIn_app (goodIn_of _ (by decide +kernel)) ggX5_digest_X5_goes
set_option maxRecDepth 20000 in
theorem ggX5_digest_X5_one : GoodIn wsX5_digest wsX5_one := goodIn_r _ [17, 4, 18, 19, 20, 21, 22, 11, 23, 24, 25, 26, 34, 35, 36, 37, 38, 39, 40, 41, 42, 43, 44, 45, 46, 47] (by decide +kernel) (by decide +kernel)
set_option maxRecDepth 20000 in
theorem gX5_digest_X5_one : GoodIn wsX5_digest (wsV RX5 148 RX5 yX5_one wsX5_one) := goodIn_app (goodIn_of _ (by decide +kernel)) ggX5_digest_X5_one
set_option maxRecDepth 20000 in
theorem ggX5_digest_X5_pumpValue : GoodIn wsX5_digest wsX5_pumpValue := goodIn_r _ [30, 4, 31, 32, 11, 33, 24, 25, 26, 34, 35, 36, 37, 38, 39, 40, 41, 42, 43, 44, 45, 46, 47] (by decide +kernel) (by decide +kernel)
set_option maxRecDepth 20000 in
theorem gX5_digest_X5_pumpValue : GoodIn wsX5_digest (wsV RX5 137 RX5 yX5_pumpValue wsX5_pumpValue) := goodIn_app (goodIn_of _ (by decide +kernel)) ggX5_digest_X5_pumpValue
theorem dX5_digest_0 : decode cX5_digest 0 = .ok (.aload_n 0, 1) := by decide +kernel
theorem dX5_digest_1 : decode cX5_digest 1 = .ok (.iconst 0, 1) := by decide +kernel
theorem dX5_digest_2 : decode cX5_digest 2 = .ok (.iconst 0, 1) := by decide +kernel
theorem dX5_digest_3 : decode cX5_digest 3 = .ok (.invokevirtual 62, 3) := by decide +kernel
theorem dX5_digest_6 : decode cX5_digest 6 = .ok (.pop, 1) := by decide +kernel
theorem dX5_digest_7 : decode cX5_digest 7 = .ok (.ldc2_w 218, 3) := by decide +kernel
theorem dX5_digest_10 : decode cX5_digest 10 = .ok (.aload_n 0, 1) := by decide +kernel
theorem dX5_digest_11 : decode cX5_digest 11 = .ok (.getfield 167, 3) := by decide +kernel
theorem dX5_digest_14 : decode cX5_digest 14 = .ok (.i2l, 1) := by decide +kernel
theorem dX5_digest_15 : decode cX5_digest 15 = .ok (.ladd, 1) := by decide +kernel
theorem dX5_digest_16 : decode cX5_digest 16 = .ok (.lstore_n 1, 1) := by decide +kernel
theorem dX5_digest_17 : decode cX5_digest 17 = .ok (.iconst 0, 1) := by decide +kernel
theorem dX5_digest_18 : decode cX5_digest 18 = .ok (.istore_n 3, 1) := by decide +kernel
theorem dX5_digest_19 : decode cX5_digest 19 = .ok (.iload_n 3, 1) := by decide +kernel
theorem dX5_digest_20 : decode cX5_digest 20 = .ok (.bipush 14, 2) := by decide +kernel
theorem dX5_digest_22 : decode cX5_digest 22 = .ok (.if_icmp .ge 21, 3) := by decide +kernel
theorem dX5_digest_25 : decode cX5_digest 25 = .ok (.ldc2_w 220, 3) := by decide +kernel
theorem dX5_digest_28 : decode cX5_digest 28 = .ok (.lload_n 1, 1) := by decide +kernel
theorem dX5_digest_29 : decode cX5_digest 29 = .ok (.lmul, 1) := by decide +kernel
theorem dX5_digest_30 : decode cX5_digest 30 = .ok (.aload_n 0, 1) := by decide +kernel
theorem dX5_digest_31 : decode cX5_digest 31 = .ok (.iload_n 3, 1) := by decide +kernel
theorem dX5_digest_32 : decode cX5_digest 32 = .ok (.invokevirtual 148, 3) := by decide +kernel
theorem dX5_digest_35 : decode cX5_digest 35 = .ok (.ladd, 1) := by decide +kernel
theorem dX5_digest_36 : decode cX5_digest 36 = .ok (.lstore_n 1, 1) := by decide +kernel
theorem dX5_digest_37 : decode cX5_digest 37 = .ok (.iinc 3 1, 3) := by decide +kernel
theorem dX5_digest_40 : decode cX5_digest 40 = .ok (.goto (-21), 3) := by decide +kernel
theorem dX5_digest_43 : decode cX5_digest 43 = .ok (.iconst 0, 1) := by decide +kernel
theorem dX5_digest_44 : decode cX5_digest 44 = .ok (.istore_n 3, 1) := by decide +kernel
theorem dX5_digest_45 : decode cX5_digest 45 = .ok (.iload_n 3, 1) := by decide +kernel
theorem dX5_digest_46 : decode cX5_digest 46 = .ok (.iconst 3, 1) := by decide +kernel

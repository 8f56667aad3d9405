theorem dX2_allStarts_2 : decode cX2_allStarts 2 = .ok (.iconst 0, 1) := by decide +kernel
theorem dX2_allStarts_3 : decode cX2_allStarts 3 = .ok (.istore_n 2, 1) := by decide +kernel
theorem dX2_allStarts_4 : decode cX2_allStarts 4 = .ok (.iload_n 2, 1) := by decide +kernel
theorem dX2_allStarts_5 : decode cX2_allStarts 5 = .ok (.aload_n 0, 1) := by decide +kernel
theorem dX2_allStarts_6 : decode cX2_allStarts 6 = .ok (.getfield 36, 3) := by decide +kernel
theorem dX2_allStarts_9 : decode cX2_allStarts 9 = .ok (.if_icmp .ge 18, 3) := by decide +kernel
theorem dX2_allStarts_12 : decode cX2_allStarts 12 = .ok (.iload_n 1, 1) := by decide +kernel
theorem dX2_allStarts_13 : decode cX2_allStarts 13 = .ok (.aload_n 0, 1) := by decide +kernel
theorem dX2_allStarts_14 : decode cX2_allStarts 14 = .ok (.getfield 27, 3) := by decide +kernel
theorem dX2_allStarts_17 : decode cX2_allStarts 17 = .ok (.iload_n 2, 1) := by decide +kernel
theorem dX2_allStarts_18 : decode cX2_allStarts 18 = .ok (.iaload, 1) := by decide +kernel
theorem dX2_allStarts_19 : decode cX2_allStarts 19 = .ok (.iadd, 1) := by decide +kernel
theorem dX2_allStarts_20 : decode cX2_allStarts 20 = .ok (.istore_n 1, 1) := by decide +kernel
theorem dX2_allStarts_21 : decode cX2_allStarts 21 = .ok (.iinc 2 1, 3) := by decide +kernel
theorem dX2_allStarts_24 : decode cX2_allStarts 24 = .ok (.goto (-20), 3) := by decide +kernel
theorem dX2_allStarts_27 : decode cX2_allStarts 27 = .ok (.iload_n 1, 1) := by decide +kernel
theorem dX2_allStarts_28 : decode cX2_allStarts 28 = .ok (.ireturn, 1) := by decide +kernel
theorem dX2_lead_0 : decode cX2_lead 0 = .ok (.iconst 0, 1) := by decide +kernel
theorem dX2_lead_1 : decode cX2_lead 1 = .ok (.istore_n 1, 1) := by decide +kernel
theorem dX2_lead_2 : decode cX2_lead 2 = .ok (.iload_n 1, 1) := by decide +kernel
theorem dX2_lead_3 : decode cX2_lead 3 = .ok (.aload_n 0, 1) := by decide +kernel
theorem dX2_lead_4 : decode cX2_lead 4 = .ok (.getfield 36, 3) := by decide +kernel
theorem dX2_lead_7 : decode cX2_lead 7 = .ok (.if_icmp .ge 20, 3) := by decide +kernel
theorem dX2_lead_10 : decode cX2_lead 10 = .ok (.aload_n 0, 1) := by decide +kernel
theorem dX2_lead_11 : decode cX2_lead 11 = .ok (.getfield 21, 3) := by decide +kernel
theorem dX2_lead_14 : decode cX2_lead 14 = .ok (.iload_n 1, 1) := by decide +kernel
theorem dX2_lead_15 : decode cX2_lead 15 = .ok (.iaload, 1) := by decide +kernel
theorem dX2_lead_16 : decode cX2_lead 16 = .ok (.ifCond .ne 5, 3) := by decide +kernel
theorem dX2_lead_19 : decode cX2_lead 19 = .ok (.iload_n 1, 1) := by decide +kernel
theorem dX2_lead_20 : decode cX2_lead 20 = .ok (.ireturn, 1) := by decide +kernel
theorem dX2_lead_21 : decode cX2_lead 21 = .ok (.iinc 1 1, 3) := by decide +kernel
theorem dX2_lead_24 : decode cX2_lead 24 = .ok (.goto (-22), 3) := by decide +kernel
theorem dX2_lead_27 : decode cX2_lead 27 = .ok (.iconst (-1), 1) := by decide +kernel
theorem dX2_lead_28 : decode cX2_lead 28 = .ok (.ireturn, 1) := by decide +kernel
theorem dX2_beginHour_0 : decode cX2_beginHour 0 = .ok (.iconst 0, 1) := by decide +kernel
theorem dX2_beginHour_1 : decode cX2_beginHour 1 = .ok (.istore_n 1, 1) := by decide +kernel
theorem dX2_beginHour_2 : decode cX2_beginHour 2 = .ok (.iload_n 1, 1) := by decide +kernel
theorem dX2_beginHour_3 : decode cX2_beginHour 3 = .ok (.aload_n 0, 1) := by decide +kernel
theorem dX2_beginHour_4 : decode cX2_beginHour 4 = .ok (.getfield 36, 3) := by decide +kernel
theorem dX2_beginHour_7 : decode cX2_beginHour 7 = .ok (.if_icmp .ge 16, 3) := by decide +kernel
theorem dX2_beginHour_10 : decode cX2_beginHour 10 = .ok (.aload_n 0, 1) := by decide +kernel
theorem dX2_beginHour_11 : decode cX2_beginHour 11 = .ok (.getfield 24, 3) := by decide +kernel
theorem dX2_beginHour_14 : decode cX2_beginHour 14 = .ok (.iload_n 1, 1) := by decide +kernel
theorem dX2_beginHour_15 : decode cX2_beginHour 15 = .ok (.iconst 0, 1) := by decide +kernel
theorem dX2_beginHour_16 : decode cX2_beginHour 16 = .ok (.iastore, 1) := by decide +kernel
theorem dX2_beginHour_17 : decode cX2_beginHour 17 = .ok (.iinc 1 1, 3) := by decide +kernel
theorem dX2_beginHour_20 : decode cX2_beginHour 20 = .ok (.goto (-18), 3) := by decide +kernel
theorem dX2_beginHour_23 : decode cX2_beginHour 23 = .ok (.return_, 1) := by decide +kernel
set_option maxRecDepth 20000 in
theorem ggX2_stopAll_X2_passLeadOn : GoodIn wsX2_stopAll wsX2_passLeadOn := goodIn_r _ [7, 1, 8, 9, 10, 11, 12, 13, 14, 15, 16, 17] (by decide +kernel) (by decide +kernel)
set_option maxRecDepth 20000 in
theorem gX2_stopAll_X2_passLeadOn : GoodIn wsX2_stopAll (wsV RX2 50 RX2 yX2_passLeadOn wsX2_passLeadOn) := goodIn_app (goodIn_of _ (by decide +kernel)) ggX2_stopAll_X2_passLeadOn
theorem dX2_stopAll_0 : decode cX2_stopAll 0 = .ok (.iconst 0, 1) := by decide +kernel
theorem dX2_stopAll_1 : decode cX2_stopAll 1 = .ok (.istore_n 1, 1) := by decide +kernel
theorem dX2_stopAll_2 : decode cX2_stopAll 2 = .ok (.iconst 0, 1) := by decide +kernel
theorem dX2_stopAll_3 : decode cX2_stopAll 3 = .ok (.istore_n 2, 1) := by decide +kernel
theorem dX2_stopAll_4 : decode cX2_stopAll 4 = .ok (.iload_n 2, 1) := by decide +kernel
theorem dX2_stopAll_5 : decode cX2_stopAll 5 = .ok (.aload_n 0, 1) := by decide +kernel
theorem dX2_stopAll_6 : decode cX2_stopAll 6 = .ok (.getfield 36, 3) := by decide +kernel
theorem dX2_stopAll_9 : decode cX2_stopAll 9 = .ok (.if_icmp .ge 28, 3) := by decide +kernel
theorem dX2_stopAll_12 : decode cX2_stopAll 12 = .ok (.aload_n 0, 1) := by decide +kernel
theorem dX2_stopAll_13 : decode cX2_stopAll 13 = .ok (.getfield 18, 3) := by decide +kernel
theorem dX2_stopAll_16 : decode cX2_stopAll 16 = .ok (.iload_n 2, 1) := by decide +kernel
theorem dX2_stopAll_17 : decode cX2_stopAll 17 = .ok (.iaload, 1) := by decide +kernel
theorem dX2_stopAll_18 : decode cX2_stopAll 18 = .ok (.iconst 1, 1) := by decide +kernel
theorem dX2_stopAll_19 : decode cX2_stopAll 19 = .ok (.if_icmp .ne 12, 3) := by decide +kernel
theorem dX2_stopAll_22 : decode cX2_stopAll 22 = .ok (.aload_n 0, 1) := by decide +kernel
theorem dX2_stopAll_23 : decode cX2_stopAll 23 = .ok (.getfield 18, 3) := by decide +kernel
theorem dX2_stopAll_26 : decode cX2_stopAll 26 = .ok (.iload_n 2, 1) := by decide +kernel
theorem dX2_stopAll_27 : decode cX2_stopAll 27 = .ok (.iconst 0, 1) := by decide +kernel
theorem dX2_stopAll_28 : decode cX2_stopAll 28 = .ok (.iastore, 1) := by decide +kernel
theorem dX2_stopAll_29 : decode cX2_stopAll 29 = .ok (.iconst 1, 1) := by decide +kernel
theorem dX2_stopAll_30 : decode cX2_stopAll 30 = .ok (.istore_n 1, 1) := by decide +kernel
theorem dX2_stopAll_31 : decode cX2_stopAll 31 = .ok (.iinc 2 1, 3) := by decide +kernel
theorem dX2_stopAll_34 : decode cX2_stopAll 34 = .ok (.goto (-30), 3) := by decide +kernel
theorem dX2_stopAll_37 : decode cX2_stopAll 37 = .ok (.iload_n 1, 1) := by decide +kernel
theorem dX2_stopAll_38 : decode cX2_stopAll 38 = .ok (.ifCond .eq 7, 3) := by decide +kernel
theorem dX2_stopAll_41 : decode cX2_stopAll 41 = .ok (.aload_n 0, 1) := by decide +kernel
theorem dX2_stopAll_42 : decode cX2_stopAll 42 = .ok (.invokevirtual 50, 3) := by decide +kernel
theorem dX2_stopAll_45 : decode cX2_stopAll 45 = .ok (.return_, 1) := by decide +kernel
theorem dX2_passLeadOn_0 : decode cX2_passLeadOn 0 = .ok (.iconst 0, 1) := by decide +kernel
theorem dX2_passLeadOn_1 : decode cX2_passLeadOn 1 = .ok (.istore_n 1, 1) := by decide +kernel
theorem dX2_passLeadOn_2 : decode cX2_passLeadOn 2 = .ok (.iload_n 1, 1) := by decide +kernel
theorem dX2_passLeadOn_3 : decode cX2_passLeadOn 3 = .ok (.aload_n 0, 1) := by decide +kernel
theorem dX2_passLeadOn_4 : decode cX2_passLeadOn 4 = .ok (.getfield 36, 3) := by decide +kernel
theorem dX2_passLeadOn_7 : decode cX2_passLeadOn 7 = .ok (.if_icmp .ge 41, 3) := by decide +kernel
theorem dX2_passLeadOn_10 : decode cX2_passLeadOn 10 = .ok (.aload_n 0, 1) := by decide +kernel
theorem dX2_passLeadOn_11 : decode cX2_passLeadOn 11 = .ok (.getfield 21, 3) := by decide +kernel
theorem dX2_passLeadOn_14 : decode cX2_passLeadOn 14 = .ok (.iload_n 1, 1) := by decide +kernel
theorem dX2_passLeadOn_15 : decode cX2_passLeadOn 15 = .ok (.aload_n 0, 1) := by decide +kernel
theorem dX2_passLeadOn_16 : decode cX2_passLeadOn 16 = .ok (.getfield 21, 3) := by decide +kernel
theorem dX2_passLeadOn_19 : decode cX2_passLeadOn 19 = .ok (.iload_n 1, 1) := by decide +kernel
theorem dX2_passLeadOn_20 : decode cX2_passLeadOn 20 = .ok (.iaload, 1) := by decide +kernel
theorem dX2_passLeadOn_21 : decode cX2_passLeadOn 21 = .ok (.ifCond .ne 12, 3) := by decide +kernel
theorem dX2_passLeadOn_24 : decode cX2_passLeadOn 24 = .ok (.aload_n 0, 1) := by decide +kernel
theorem dX2_passLeadOn_25 : decode cX2_passLeadOn 25 = .ok (.getfield 36, 3) := by decide +kernel
theorem dX2_passLeadOn_28 : decode cX2_passLeadOn 28 = .ok (.iconst 1, 1) := by decide +kernel
theorem dX2_passLeadOn_29 : decode cX2_passLeadOn 29 = .ok (.isub, 1) := by decide +kernel
theorem dX2_passLeadOn_30 : decode cX2_passLeadOn 30 = .ok (.goto 11, 3) := by decide +kernel
theorem dX2_passLeadOn_33 : decode cX2_passLeadOn 33 = .ok (.aload_n 0, 1) := by decide +kernel
theorem dX2_passLeadOn_34 : decode cX2_passLeadOn 34 = .ok (.getfield 21, 3) := by decide +kernel
theorem dX2_passLeadOn_37 : decode cX2_passLeadOn 37 = .ok (.iload_n 1, 1) := by decide +kernel
theorem dX2_passLeadOn_38 : decode cX2_passLeadOn 38 = .ok (.iaload, 1) := by decide +kernel
theorem dX2_passLeadOn_39 : decode cX2_passLeadOn 39 = .ok (.iconst 1, 1) := by decide +kernel
theorem dX2_passLeadOn_40 : decode cX2_passLeadOn 40 = .ok (.isub, 1) := by decide +kernel
theorem dX2_passLeadOn_41 : decode cX2_passLeadOn 41 = .ok (.iastore, 1) := by decide +kernel
theorem dX2_passLeadOn_42 : decode cX2_passLeadOn 42 = .ok (.iinc 1 1, 3) := by decide +kernel
theorem dX2_passLeadOn_45 : decode cX2_passLeadOn 45 = .ok (.goto (-43), 3) := by decide +kernel
theorem dX2_passLeadOn_48 : decode cX2_passLeadOn 48 = .ok (.return_, 1) := by decide +kernel
set_option maxRecDepth 20000 in
theorem ggX2_nextToStart_X2_firstOff : GoodIn wsX2_nextToStart wsX2_firstOff := goodIn_r _ [5, 6, 7, 8, 9, 10, 11, 12, 13, 14, 15, 16, 17, 18, 19] (by decide +kernel) (by decide +kernel)
set_option maxRecDepth 20000 in
theorem gX2_nextToStart_X2_firstOff : GoodIn wsX2_nextToStart (wsV RX2 53 RX2 yX2_firstOff wsX2_firstOff) := goodIn_app (goodIn_of _ (by decide +kernel)) ggX2_nextToStart_X2_firstOff
theorem dX2_nextToStart_0 : decode cX2_nextToStart 0 = .ok (.aload_n 0, 1) := by decide +kernel
theorem dX2_nextToStart_1 : decode cX2_nextToStart 1 = .ok (.iconst 1, 1) := by decide +kernel
theorem dX2_nextToStart_2 : decode cX2_nextToStart 2 = .ok (.invokevirtual 53, 3) := by decide +kernel
theorem dX2_nextToStart_5 : decode cX2_nextToStart 5 = .ok (.istore_n 2, 1) := by decide +kernel
theorem dX2_nextToStart_6 : decode cX2_nextToStart 6 = .ok (.iload_n 2, 1) := by decide +kernel
theorem dX2_nextToStart_7 : decode cX2_nextToStart 7 = .ok (.iconst (-1), 1) := by decide +kernel
theorem dX2_nextToStart_8 : decode cX2_nextToStart 8 = .ok (.if_icmp .ne 15, 3) := by decide +kernel
theorem dX2_nextToStart_11 : decode cX2_nextToStart 11 = .ok (.iload_n 1, 1) := by decide +kernel
theorem dX2_nextToStart_12 : decode cX2_nextToStart 12 = .ok (.ifCond .eq 11, 3) := by decide +kernel
theorem dX2_nextToStart_15 : decode cX2_nextToStart 15 = .ok (.aload_n 0, 1) := by decide +kernel
theorem dX2_nextToStart_16 : decode cX2_nextToStart 16 = .ok (.iconst 0, 1) := by decide +kernel
theorem dX2_nextToStart_17 : decode cX2_nextToStart 17 = .ok (.invokevirtual 53, 3) := by decide +kernel
theorem dX2_nextToStart_20 : decode cX2_nextToStart 20 = .ok (.goto 4, 3) := by decide +kernel
theorem dX2_nextToStart_23 : decode cX2_nextToStart 23 = .ok (.iload_n 2, 1) := by decide +kernel
theorem dX2_nextToStart_24 : decode cX2_nextToStart 24 = .ok (.ireturn, 1) := by decide +kernel
theorem dX2_firstOff_0 : decode cX2_firstOff 0 = .ok (.iconst (-1), 1) := by decide +kernel
theorem dX2_firstOff_1 : decode cX2_firstOff 1 = .ok (.istore_n 2, 1) := by decide +kernel
theorem dX2_firstOff_2 : decode cX2_firstOff 2 = .ok (.bipush 6, 2) := by decide +kernel
theorem dX2_firstOff_4 : decode cX2_firstOff 4 = .ok (.istore_n 3, 1) := by decide +kernel
theorem dX2_firstOff_5 : decode cX2_firstOff 5 = .ok (.iconst 0, 1) := by decide +kernel
theorem dX2_firstOff_6 : decode cX2_firstOff 6 = .ok (.istore 4, 2) := by decide +kernel
theorem dX2_firstOff_8 : decode cX2_firstOff 8 = .ok (.iload 4, 2) := by decide +kernel
theorem dX2_firstOff_10 : decode cX2_firstOff 10 = .ok (.aload_n 0, 1) := by decide +kernel
theorem dX2_firstOff_11 : decode cX2_firstOff 11 = .ok (.getfield 36, 3) := by decide +kernel
theorem dX2_firstOff_14 : decode cX2_firstOff 14 = .ok (.if_icmp .ge 74, 3) := by decide +kernel
theorem dX2_firstOff_17 : decode cX2_firstOff 17 = .ok (.iload_n 1, 1) := by decide +kernel
theorem dX2_firstOff_18 : decode cX2_firstOff 18 = .ok (.ifCond .eq 20, 3) := by decide +kernel
theorem dX2_firstOff_21 : decode cX2_firstOff 21 = .ok (.aload_n 0, 1) := by decide +kernel
theorem dX2_firstOff_22 : decode cX2_firstOff 22 = .ok (.getfield 24, 3) := by decide +kernel
theorem dX2_firstOff_25 : decode cX2_firstOff 25 = .ok (.iload 4, 2) := by decide +kernel
theorem dX2_firstOff_27 : decode cX2_firstOff 27 = .ok (.iaload, 1) := by decide +kernel
theorem dX2_firstOff_28 : decode cX2_firstOff 28 = .ok (.aload_n 0, 1) := by decide +kernel
theorem dX2_firstOff_29 : decode cX2_firstOff 29 = .ok (.getfield 15, 3) := by decide +kernel
theorem dX2_firstOff_32 : decode cX2_firstOff 32 = .ok (.iload 4, 2) := by decide +kernel
theorem dX2_firstOff_34 : decode cX2_firstOff 34 = .ok (.iaload, 1) := by decide +kernel
theorem dX2_firstOff_35 : decode cX2_firstOff 35 = .ok (.if_icmp .ge 7, 3) := by decide +kernel
theorem dX2_firstOff_38 : decode cX2_firstOff 38 = .ok (.iconst 1, 1) := by decide +kernel
theorem dX2_firstOff_39 : decode cX2_firstOff 39 = .ok (.goto 4, 3) := by decide +kernel
theorem dX2_firstOff_42 : decode cX2_firstOff 42 = .ok (.iconst 0, 1) := by decide +kernel
theorem dX2_firstOff_43 : decode cX2_firstOff 43 = .ok (.istore 5, 2) := by decide +kernel
theorem dX2_firstOff_45 : decode cX2_firstOff 45 = .ok (.aload_n 0, 1) := by decide +kernel
theorem dX2_firstOff_46 : decode cX2_firstOff 46 = .ok (.getfield 18, 3) := by decide +kernel
theorem dX2_firstOff_49 : decode cX2_firstOff 49 = .ok (.iload 4, 2) := by decide +kernel
theorem dX2_firstOff_51 : decode cX2_firstOff 51 = .ok (.iaload, 1) := by decide +kernel
theorem dX2_firstOff_52 : decode cX2_firstOff 52 = .ok (.ifCond .ne 30, 3) := by decide +kernel
theorem dX2_firstOff_55 : decode cX2_firstOff 55 = .ok (.iload 5, 2) := by decide +kernel
theorem dX2_firstOff_57 : decode cX2_firstOff 57 = .ok (.ifCond .eq 25, 3) := by decide +kernel
theorem dX2_firstOff_60 : decode cX2_firstOff 60 = .ok (.aload_n 0, 1) := by decide +kernel
theorem dX2_firstOff_61 : decode cX2_firstOff 61 = .ok (.getfield 21, 3) := by decide +kernel
theorem dX2_firstOff_64 : decode cX2_firstOff 64 = .ok (.iload 4, 2) := by decide +kernel
theorem dX2_firstOff_66 : decode cX2_firstOff 66 = .ok (.iaload, 1) := by decide +kernel
theorem dX2_firstOff_67 : decode cX2_firstOff 67 = .ok (.iload_n 3, 1) := by decide +kernel
theorem dX2_firstOff_68 : decode cX2_firstOff 68 = .ok (.if_icmp .ge 14, 3) := by decide +kernel
theorem dX2_firstOff_71 : decode cX2_firstOff 71 = .ok (.iload 4, 2) := by decide +kernel
theorem dX2_firstOff_73 : decode cX2_firstOff 73 = .ok (.istore_n 2, 1) := by decide +kernel
theorem dX2_firstOff_74 : decode cX2_firstOff 74 = .ok (.aload_n 0, 1) := by decide +kernel
theorem dX2_firstOff_75 : decode cX2_firstOff 75 = .ok (.getfield 21, 3) := by decide +kernel
theorem dX2_firstOff_78 : decode cX2_firstOff 78 = .ok (.iload 4, 2) := by decide +kernel
theorem dX2_firstOff_80 : decode cX2_firstOff 80 = .ok (.iaload, 1) := by decide +kernel
theorem dX2_firstOff_81 : decode cX2_firstOff 81 = .ok (.istore_n 3, 1) := by decide +kernel
theorem dX2_firstOff_82 : decode cX2_firstOff 82 = .ok (.iinc 4 1, 3) := by decide +kernel
theorem dX2_firstOff_85 : decode cX2_firstOff 85 = .ok (.goto (-77), 3) := by decide +kernel
theorem dX2_firstOff_88 : decode cX2_firstOff 88 = .ok (.iload_n 2, 1) := by decide +kernel
theorem dX2_firstOff_89 : decode cX2_firstOff 89 = .ok (.ireturn, 1) := by decide +kernel
set_option maxRecDepth 20000 in
theorem ggX2_start_X2_has : GoodIn wsX2_start wsX2_has := goodIn_r _ [10, 11, 12, 13, 14, 15, 16, 17, 18, 19, 20] (by decide +kernel) (by decide +kernel)
set_option maxRecDepth 20000 in
theorem gX2_start_X2_has : GoodIn wsX2_start (wsV RX2 46 RX2 yX2_has wsX2_has) := goodIn_app (goodIn_of _ (by decide +kernel)) ggX2_start_X2_has
theorem dX2_start_0 : decode cX2_start 0 = .ok (.aload_n 0, 1) := by decide +kernel
theorem dX2_start_1 : decode cX2_start 1 = .ok (.iload_n 1, 1) := by decide +kernel
theorem dX2_start_2 : decode cX2_start 2 = .ok (.invokevirtual 46, 3) := by decide +kernel
theorem dX2_start_5 : decode cX2_start 5 = .ok (.ifCond .ne 5, 3) := by decide +kernel
theorem dX2_start_8 : decode cX2_start 8 = .ok (.iconst 0, 1) := by decide +kernel
theorem dX2_start_9 : decode cX2_start 9 = .ok (.ireturn, 1) := by decide +kernel
theorem dX2_start_10 : decode cX2_start 10 = .ok (.aload_n 0, 1) := by decide +kernel
theorem dX2_start_11 : decode cX2_start 11 = .ok (.getfield 24, 3) := by decide +kernel
theorem dX2_start_14 : decode cX2_start 14 = .ok (.iload_n 1, 1) := by decide +kernel
theorem dX2_start_15 : decode cX2_start 15 = .ok (.iaload, 1) := by decide +kernel
theorem dX2_start_16 : decode cX2_start 16 = .ok (.aload_n 0, 1) := by decide +kernel
theorem dX2_start_17 : decode cX2_start 17 = .ok (.getfield 15, 3) := by decide +kernel
theorem dX2_start_20 : decode cX2_start 20 = .ok (.iload_n 1, 1) := by decide +kernel
theorem dX2_start_21 : decode cX2_start 21 = .ok (.iaload, 1) := by decide +kernel
theorem dX2_start_22 : decode cX2_start 22 = .ok (.if_icmp .lt 7, 3) := by decide +kernel
theorem dX2_start_25 : decode cX2_start 25 = .ok (.iconst 1, 1) := by decide +kernel
theorem dX2_start_26 : decode cX2_start 26 = .ok (.goto 4, 3) := by decide +kernel
theorem dX2_start_29 : decode cX2_start 29 = .ok (.iconst 0, 1) := by decide +kernel
theorem dX2_start_30 : decode cX2_start 30 = .ok (.istore_n 2, 1) := by decide +kernel
theorem dX2_start_31 : decode cX2_start 31 = .ok (.aload_n 0, 1) := by decide +kernel
theorem dX2_start_32 : decode cX2_start 32 = .ok (.getfield 18, 3) := by decide +kernel
theorem dX2_start_35 : decode cX2_start 35 = .ok (.iload_n 1, 1) := by decide +kernel
theorem dX2_start_36 : decode cX2_start 36 = .ok (.iconst 1, 1) := by decide +kernel
theorem dX2_start_37 : decode cX2_start 37 = .ok (.iastore, 1) := by decide +kernel
theorem dX2_start_38 : decode cX2_start 38 = .ok (.aload_n 0, 1) := by decide +kernel
theorem dX2_start_39 : decode cX2_start 39 = .ok (.getfield 24, 3) := by decide +kernel
theorem dX2_start_42 : decode cX2_start 42 = .ok (.iload_n 1, 1) := by decide +kernel
theorem dX2_start_43 : decode cX2_start 43 = .ok (.dup2, 1) := by decide +kernel
theorem dX2_start_44 : decode cX2_start 44 = .ok (.iaload, 1) := by decide +kernel
theorem dX2_start_45 : decode cX2_start 45 = .ok (.iconst 1, 1) := by decide +kernel
theorem dX2_start_46 : decode cX2_start 46 = .ok (.iadd, 1) := by decide +kernel
theorem dX2_start_47 : decode cX2_start 47 = .ok (.iastore, 1) := by decide +kernel
theorem dX2_start_48 : decode cX2_start 48 = .ok (.aload_n 0, 1) := by decide +kernel
theorem dX2_start_49 : decode cX2_start 49 = .ok (.getfield 27, 3) := by decide +kernel
theorem dX2_start_52 : decode cX2_start 52 = .ok (.iload_n 1, 1) := by decide +kernel
theorem dX2_start_53 : decode cX2_start 53 = .ok (.dup2, 1) := by decide +kernel
theorem dX2_start_54 : decode cX2_start 54 = .ok (.iaload, 1) := by decide +kernel
theorem dX2_start_55 : decode cX2_start 55 = .ok (.iconst 1, 1) := by decide +kernel
theorem dX2_start_56 : decode cX2_start 56 = .ok (.iadd, 1) := by decide +kernel
theorem dX2_start_57 : decode cX2_start 57 = .ok (.iastore, 1) := by decide +kernel
theorem dX2_start_58 : decode cX2_start 58 = .ok (.iload_n 2, 1) := by decide +kernel
theorem dX2_start_59 : decode cX2_start 59 = .ok (.ifCond .eq 13, 3) := by decide +kernel
theorem dX2_start_62 : decode cX2_start 62 = .ok (.aload_n 0, 1) := by decide +kernel
theorem dX2_start_63 : decode cX2_start 63 = .ok (.getfield 33, 3) := by decide +kernel
theorem dX2_start_66 : decode cX2_start 66 = .ok (.iload_n 1, 1) := by decide +kernel
theorem dX2_start_67 : decode cX2_start 67 = .ok (.dup2, 1) := by decide +kernel
theorem dX2_start_68 : decode cX2_start 68 = .ok (.iaload, 1) := by decide +kernel
theorem dX2_start_69 : decode cX2_start 69 = .ok (.iconst 1, 1) := by decide +kernel
theorem dX2_start_70 : decode cX2_start 70 = .ok (.iadd, 1) := by decide +kernel
theorem dX2_start_71 : decode cX2_start 71 = .ok (.iastore, 1) := by decide +kernel
theorem dX2_start_72 : decode cX2_start 72 = .ok (.iload_n 2, 1) := by decide +kernel
theorem dX2_start_73 : decode cX2_start 73 = .ok (.ireturn, 1) := by decide +kernel
theorem dX2_runMinute_0 : decode cX2_runMinute 0 = .ok (.iconst 0, 1) := by decide +kernel
theorem dX2_runMinute_1 : decode cX2_runMinute 1 = .ok (.istore_n 1, 1) := by decide +kernel
theorem dX2_runMinute_2 : decode cX2_runMinute 2 = .ok (.iconst 0, 1) := by decide +kernel
theorem dX2_runMinute_3 : decode cX2_runMinute 3 = .ok (.istore_n 2, 1) := by decide +kernel
theorem dX2_runMinute_4 : decode cX2_runMinute 4 = .ok (.iload_n 2, 1) := by decide +kernel
theorem dX2_runMinute_5 : decode cX2_runMinute 5 = .ok (.aload_n 0, 1) := by decide +kernel
theorem dX2_runMinute_6 : decode cX2_runMinute 6 = .ok (.getfield 36, 3) := by decide +kernel
theorem dX2_runMinute_9 : decode cX2_runMinute 9 = .ok (.if_icmp .ge 38, 3) := by decide +kernel
theorem dX2_runMinute_12 : decode cX2_runMinute 12 = .ok (.aload_n 0, 1) := by decide +kernel
theorem dX2_runMinute_13 : decode cX2_runMinute 13 = .ok (.getfield 18, 3) := by decide +kernel
theorem dX2_runMinute_16 : decode cX2_runMinute 16 = .ok (.iload_n 2, 1) := by decide +kernel
theorem dX2_runMinute_17 : decode cX2_runMinute 17 = .ok (.iaload, 1) := by decide +kernel
theorem dX2_runMinute_18 : decode cX2_runMinute 18 = .ok (.iconst 1, 1) := by decide +kernel
theorem dX2_runMinute_19 : decode cX2_runMinute 19 = .ok (.if_icmp .ne 22, 3) := by decide +kernel
theorem dX2_runMinute_22 : decode cX2_runMinute 22 = .ok (.aload_n 0, 1) := by decide +kernel
theorem dX2_runMinute_23 : decode cX2_runMinute 23 = .ok (.getfield 30, 3) := by decide +kernel
theorem dX2_runMinute_26 : decode cX2_runMinute 26 = .ok (.iload_n 2, 1) := by decide +kernel
theorem dX2_runMinute_27 : decode cX2_runMinute 27 = .ok (.dup2, 1) := by decide +kernel
theorem dX2_runMinute_28 : decode cX2_runMinute 28 = .ok (.iaload, 1) := by decide +kernel
theorem dX2_runMinute_29 : decode cX2_runMinute 29 = .ok (.iconst 1, 1) := by decide +kernel
theorem dX2_runMinute_30 : decode cX2_runMinute 30 = .ok (.iadd, 1) := by decide +kernel
theorem dX2_runMinute_31 : decode cX2_runMinute 31 = .ok (.iastore, 1) := by decide +kernel
theorem dX2_runMinute_32 : decode cX2_runMinute 32 = .ok (.iload_n 1, 1) := by decide +kernel
theorem dX2_runMinute_33 : decode cX2_runMinute 33 = .ok (.aload_n 0, 1) := by decide +kernel
theorem dX2_runMinute_34 : decode cX2_runMinute 34 = .ok (.getfield 11, 3) := by decide +kernel
theorem dX2_runMinute_37 : decode cX2_runMinute 37 = .ok (.iload_n 2, 1) := by decide +kernel
theorem dX2_runMinute_38 : decode cX2_runMinute 38 = .ok (.iaload, 1) := by decide +kernel
theorem dX2_runMinute_39 : decode cX2_runMinute 39 = .ok (.iadd, 1) := by decide +kernel
theorem dX2_runMinute_40 : decode cX2_runMinute 40 = .ok (.istore_n 1, 1) := by decide +kernel
theorem dX2_runMinute_41 : decode cX2_runMinute 41 = .ok (.iinc 2 1, 3) := by decide +kernel
theorem dX2_runMinute_44 : decode cX2_runMinute 44 = .ok (.goto (-40), 3) := by decide +kernel
theorem dX2_runMinute_47 : decode cX2_runMinute 47 = .ok (.iload_n 1, 1) := by decide +kernel
theorem dX2_runMinute_48 : decode cX2_runMinute 48 = .ok (.ireturn, 1) := by decide +kernel
set_option maxRecDepth 20000 in
theorem ggX2_digestOnto_X2_fact : GoodIn wsX2_digestOnto wsX2_fact := goodIn_r _ [7, 8, 9, 10, 11, 12, 13, 14, 15, 16, 17, 18, 6, 19, 1, 20, 21, 22, 23, 24, 25, 26, 27, 28] (by decide +kernel) (by decide +kernel)
set_option maxRecDepth 20000 in
theorem gX2_digestOnto_X2_fact : GoodIn wsX2_digestOnto (wsV RX2 59 RX2 yX2_fact wsX2_fact) := goodIn_app (goodIn_of _ (by decide +kernel)) ggX2_digestOnto_X2_fact
theorem dX2_digestOnto_0 : decode cX2_digestOnto 0 = .ok (.lload_n 1, 1) := by decide +kernel
theorem dX2_digestOnto_1 : decode cX2_digestOnto 1 = .ok (.lstore_n 3, 1) := by decide +kernel
theorem dX2_digestOnto_2 : decode cX2_digestOnto 2 = .ok (.iconst 0, 1) := by decide +kernel
theorem dX2_digestOnto_3 : decode cX2_digestOnto 3 = .ok (.istore 5, 2) := by decide +kernel
theorem dX2_digestOnto_5 : decode cX2_digestOnto 5 = .ok (.iload 5, 2) := by decide +kernel
theorem dX2_digestOnto_7 : decode cX2_digestOnto 7 = .ok (.aload_n 0, 1) := by decide +kernel
theorem dX2_digestOnto_8 : decode cX2_digestOnto 8 = .ok (.getfield 36, 3) := by decide +kernel
theorem dX2_digestOnto_11 : decode cX2_digestOnto 11 = .ok (.if_icmp .ge 41, 3) := by decide +kernel
theorem dX2_digestOnto_14 : decode cX2_digestOnto 14 = .ok (.iconst 0, 1) := by decide +kernel
theorem dX2_digestOnto_15 : decode cX2_digestOnto 15 = .ok (.istore 6, 2) := by decide +kernel
theorem dX2_digestOnto_17 : decode cX2_digestOnto 17 = .ok (.iload 6, 2) := by decide +kernel
theorem dX2_digestOnto_19 : decode cX2_digestOnto 19 = .ok (.bipush 8, 2) := by decide +kernel
theorem dX2_digestOnto_21 : decode cX2_digestOnto 21 = .ok (.if_icmp .ge 25, 3) := by decide +kernel
theorem dX2_digestOnto_24 : decode cX2_digestOnto 24 = .ok (.ldc2_w 57, 3) := by decide +kernel
theorem dX2_digestOnto_27 : decode cX2_digestOnto 27 = .ok (.lload_n 3, 1) := by decide +kernel
theorem dX2_digestOnto_28 : decode cX2_digestOnto 28 = .ok (.lmul, 1) := by decide +kernel
theorem dX2_digestOnto_29 : decode cX2_digestOnto 29 = .ok (.aload_n 0, 1) := by decide +kernel
theorem dX2_digestOnto_30 : decode cX2_digestOnto 30 = .ok (.iload 5, 2) := by decide +kernel
theorem dX2_digestOnto_32 : decode cX2_digestOnto 32 = .ok (.iload 6, 2) := by decide +kernel
theorem dX2_digestOnto_34 : decode cX2_digestOnto 34 = .ok (.invokevirtual 59, 3) := by decide +kernel
theorem dX2_digestOnto_37 : decode cX2_digestOnto 37 = .ok (.i2l, 1) := by decide +kernel
theorem dX2_digestOnto_38 : decode cX2_digestOnto 38 = .ok (.ladd, 1) := by decide +kernel
theorem dX2_digestOnto_39 : decode cX2_digestOnto 39 = .ok (.lstore_n 3, 1) := by decide +kernel
theorem dX2_digestOnto_40 : decode cX2_digestOnto 40 = .ok (.iinc 6 1, 3) := by decide +kernel
theorem dX2_digestOnto_43 : decode cX2_digestOnto 43 = .ok (.goto (-26), 3) := by decide +kernel
theorem dX2_digestOnto_46 : decode cX2_digestOnto 46 = .ok (.iinc 5 1, 3) := by decide +kernel
theorem dX2_digestOnto_49 : decode cX2_digestOnto 49 = .ok (.goto (-44), 3) := by decide +kernel
theorem dX2_digestOnto_52 : decode cX2_digestOnto 52 = .ok (.lload_n 3, 1) := by decide +kernel
theorem dX2_digestOnto_53 : decode cX2_digestOnto 53 = .ok (.lreturn, 1) := by decide +kernel
set_option maxRecDepth 20000 in
theorem ggX3_init_X2_init : GoodIn wsX3_init wsX2_init := goodIn_r _ [22, 23, 2, 3, 8, 24, 25, 26, 27, 28, 29, 30, 31, 51, 52, 53, 54, 55, 56, 57, 58, 59] (by decide +kernel) (by decide +kernel)
set_option maxRecDepth 20000 in
theorem gX3_init_X2_init_n37 : GoodIn wsX3_init (wsX2_init) := ggX3_init_X2_init
set_option maxRecDepth 20000 in
theorem ggX3_init_X0_init : GoodIn wsX3_init wsX0_init := goodIn_r _ [33, 34, 2, 3, 8, 35, 60, 61] (by decide +kernel) (by decide +kernel)
set_option maxRecDepth 20000 in
theorem gX3_init_X0_init_n44 : GoodIn wsX3_init (wsX0_init) := ggX3_init_X0_init
theorem dX3_init_0 : decode cX3_init 0 = .ok (.aload_n 0, 1) := by decide +kernel
theorem dX3_init_1 : decode cX3_init 1 = .ok (.invokespecial 5, 3) := by decide +kernel
theorem dX3_init_4 : decode cX3_init 4 = .ok (.aload_n 0, 1) := by decide +kernel
theorem dX3_init_5 : decode cX3_init 5 = .ok (.sipush 10000, 3) := by decide +kernel
theorem dX3_init_8 : decode cX3_init 8 = .ok (.putfield 11, 3) := by decide +kernel
theorem dX3_init_11 : decode cX3_init 11 = .ok (.aload_n 0, 1) := by decide +kernel
theorem dX3_init_12 : decode cX3_init 12 = .ok (.sipush 5000, 3) := by decide +kernel
theorem dX3_init_15 : decode cX3_init 15 = .ok (.putfield 15, 3) := by decide +kernel
theorem dX3_init_18 : decode cX3_init 18 = .ok (.aload_n 0, 1) := by decide +kernel
theorem dX3_init_19 : decode cX3_init 19 = .ok (.sipush 4000, 3) := by decide +kernel
theorem dX3_init_22 : decode cX3_init 22 = .ok (.putfield 18, 3) := by decide +kernel
theorem dX3_init_25 : decode cX3_init 25 = .ok (.aload_n 0, 1) := by decide +kernel
theorem dX3_init_26 : decode cX3_init 26 = .ok (.sipush 8000, 3) := by decide +kernel
theorem dX3_init_29 : decode cX3_init 29 = .ok (.putfield 21, 3) := by decide +kernel
theorem dX3_init_32 : decode cX3_init 32 = .ok (.aload_n 0, 1) := by decide +kernel
theorem dX3_init_33 : decode cX3_init 33 = .ok (.iconst 3, 1) := by decide +kernel
theorem dX3_init_34 : decode cX3_init 34 = .ok (.newarray .int, 2) := by decide +kernel
theorem dX3_init_36 : decode cX3_init 36 = .ok (.putfield 24, 3) := by decide +kernel
theorem dX3_init_39 : decode cX3_init 39 = .ok (.aload_n 0, 1) := by decide +kernel
theorem dX3_init_40 : decode cX3_init 40 = .ok (.bipush 24, 2) := by decide +kernel
theorem dX3_init_42 : decode cX3_init 42 = .ok (.newarray .int, 2) := by decide +kernel
theorem dX3_init_44 : decode cX3_init 44 = .ok (.putfield 28, 3) := by decide +kernel
theorem dX3_init_47 : decode cX3_init 47 = .ok (.aload_n 0, 1) := by decide +kernel
theorem dX3_init_48 : decode cX3_init 48 = .ok (.iconst 5, 1) := by decide +kernel
theorem dX3_init_49 : decode cX3_init 49 = .ok (.newarray .long, 2) := by decide +kernel
theorem dX3_init_51 : decode cX3_init 51 = .ok (.putfield 31, 3) := by decide +kernel
theorem dX3_init_54 : decode cX3_init 54 = .ok (.aload_n 0, 1) := by decide +kernel
theorem dX3_init_55 : decode cX3_init 55 = .ok (.new 35, 3) := by decide +kernel
theorem dX3_init_58 : decode cX3_init 58 = .ok (.dup, 1) := by decide +kernel
theorem dX3_init_59 : decode cX3_init 59 = .ok (.invokespecial 37, 3) := by decide +kernel
theorem dX3_init_62 : decode cX3_init 62 = .ok (.putfield 38, 3) := by decide +kernel
theorem dX3_init_65 : decode cX3_init 65 = .ok (.aload_n 0, 1) := by decide +kernel
theorem dX3_init_66 : decode cX3_init 66 = .ok (.new 42, 3) := by decide +kernel
theorem dX3_init_69 : decode cX3_init 69 = .ok (.dup, 1) := by decide +kernel
theorem dX3_init_70 : decode cX3_init 70 = .ok (.invokespecial 44, 3) := by decide +kernel

theorem dX4_isIn_11 : decode cX4_isIn 11 = .ok (.goto 4, 3) := by decide +kernel
theorem dX4_isIn_14 : decode cX4_isIn 14 = .ok (.iconst 0, 1) := by decide +kernel
theorem dX4_isIn_15 : decode cX4_isIn 15 = .ok (.ireturn, 1) := by decide +kernel
set_option maxRecDepth 20000 in
theorem ggX4_isHour_X4_isIn : GoodIn wsX4_isHour wsX4_isIn := goodIn_r _ [4] (by decide +kernel) (by decide +kernel)
set_option maxRecDepth 20000 in
theorem gX4_isHour_X4_isIn : GoodIn wsX4_isHour (va_wsS RX4 43 yX4_isIn wsX4_isIn) := goodIn_app (goodIn_of _ (by decide +kernel)) ggX4_isHour_X4_isIn
theorem dX4_isHour_0 : decode cX4_isHour 0 = .ok (.iload_n 0, 1) := by decide +kernel
theorem dX4_isHour_1 : decode cX4_isHour 1 = .ok (.iconst 0, 1) := by decide +kernel
theorem dX4_isHour_2 : decode cX4_isHour 2 = .ok (.bipush 23, 2) := by decide +kernel
theorem dX4_isHour_4 : decode cX4_isHour 4 = .ok (.invokestatic 43, 3) := by decide +kernel
theorem dX4_isHour_7 : decode cX4_isHour 7 = .ok (.ireturn, 1) := by decide +kernel
set_option maxRecDepth 20000 in
theorem ggX4_isOath_X4_isIn : GoodIn wsX4_isOath wsX4_isIn := goodIn_r _ [4] (by decide +kernel) (by decide +kernel)
set_option maxRecDepth 20000 in
theorem gX4_isOath_X4_isIn : GoodIn wsX4_isOath (va_wsS RX4 43 yX4_isIn wsX4_isIn) := goodIn_app (goodIn_of _ (by decide +kernel)) ggX4_isOath_X4_isIn
theorem dX4_isOath_0 : decode cX4_isOath 0 = .ok (.iload_n 0, 1) := by decide +kernel
theorem dX4_isOath_1 : decode cX4_isOath 1 = .ok (.iconst 1, 1) := by decide +kernel
theorem dX4_isOath_2 : decode cX4_isOath 2 = .ok (.bipush 12, 2) := by decide +kernel
theorem dX4_isOath_4 : decode cX4_isOath 4 = .ok (.invokestatic 43, 3) := by decide +kernel
theorem dX4_isOath_7 : decode cX4_isOath 7 = .ok (.ireturn, 1) := by decide +kernel
set_option maxRecDepth 20000 in
theorem ggX4_isPump_X2_has : GoodIn wsX4_isPump wsX2_has := goodIn_r _ [7, 8, 32, 33, 34, 35, 36, 37, 38, 39, 40] (by decide +kernel) (by decide +kernel)
set_option maxRecDepth 20000 in
theorem gX4_isPump_X2_has : GoodIn wsX4_isPump (wsV RX4 247 RX2 yX2_has wsX2_has) := goodIn_app (goodIn_of _ (by decide +kernel)) ggX4_isPump_X2_has
theorem dX4_isPump_0 : decode cX4_isPump 0 = .ok (.aload_n 0, 1) := by decide +kernel
theorem dX4_isPump_1 : decode cX4_isPump 1 = .ok (.getfield 10, 3) := by decide +kernel
theorem dX4_isPump_4 : decode cX4_isPump 4 = .ok (.getfield 111, 3) := by decide +kernel
theorem dX4_isPump_7 : decode cX4_isPump 7 = .ok (.iload_n 1, 1) := by decide +kernel
theorem dX4_isPump_8 : decode cX4_isPump 8 = .ok (.invokevirtual 247, 3) := by decide +kernel
theorem dX4_isPump_11 : decode cX4_isPump 11 = .ok (.ireturn, 1) := by decide +kernel
set_option maxRecDepth 20000 in
theorem ggX4_isInService_X4_isPump : GoodIn wsX4_isInService wsX4_isPump := goodIn_r _ [8, 1, 2, 9, 10, 11, 12, 13, 14, 15, 16, 17, 18, 19, 20, 21, 22, 23, 24, 25, 26, 27, 28, 29, 30, 31, 32, 33, 34, 35, 36, 37, 38, 39, 40, 41, 42, 43, 44, 45, 46] (by decide +kernel) (by decide +kernel)
set_option maxRecDepth 20000 in
theorem gX4_isInService_X4_isPump : GoodIn wsX4_isInService (wsV RX4 125 RX4 yX4_isPump wsX4_isPump) := goodIn_app (goodIn_of _ (by decide +kernel)) ggX4_isInService_X4_isPump
theorem dX4_isInService_0 : decode cX4_isInService 0 = .ok (.aload_n 0, 1) := by decide +kernel
theorem dX4_isInService_1 : decode cX4_isInService 1 = .ok (.iload_n 1, 1) := by decide +kernel
theorem dX4_isInService_2 : decode cX4_isInService 2 = .ok (.invokevirtual 125, 3) := by decide +kernel
theorem dX4_isInService_5 : decode cX4_isInService 5 = .ok (.ifCond .eq 23, 3) := by decide +kernel
theorem dX4_isInService_8 : decode cX4_isInService 8 = .ok (.aload_n 0, 1) := by decide +kernel
theorem dX4_isInService_9 : decode cX4_isInService 9 = .ok (.getfield 10, 3) := by decide +kernel
theorem dX4_isInService_12 : decode cX4_isInService 12 = .ok (.getfield 111, 3) := by decide +kernel
theorem dX4_isInService_15 : decode cX4_isInService 15 = .ok (.getfield 141, 3) := by decide +kernel
theorem dX4_isInService_18 : decode cX4_isInService 18 = .ok (.iload_n 1, 1) := by decide +kernel
theorem dX4_isInService_19 : decode cX4_isInService 19 = .ok (.iaload, 1) := by decide +kernel
theorem dX4_isInService_20 : decode cX4_isInService 20 = .ok (.iconst 2, 1) := by decide +kernel
theorem dX4_isInService_21 : decode cX4_isInService 21 = .ok (.if_icmp .eq 7, 3) := by decide +kernel
theorem dX4_isInService_24 : decode cX4_isInService 24 = .ok (.iconst 1, 1) := by decide +kernel
theorem dX4_isInService_25 : decode cX4_isInService 25 = .ok (.goto 4, 3) := by decide +kernel
theorem dX4_isInService_28 : decode cX4_isInService 28 = .ok (.iconst 0, 1) := by decide +kernel
theorem dX4_isInService_29 : decode cX4_isInService 29 = .ok (.ireturn, 1) := by decide +kernel
theorem dX4_hasTimeFor_0 : decode cX4_hasTimeFor 0 = .ok (.aload_n 0, 1) := by decide +kernel
theorem dX4_hasTimeFor_1 : decode cX4_hasTimeFor 1 = .ok (.getfield 10, 3) := by decide +kernel
theorem dX4_hasTimeFor_4 : decode cX4_hasTimeFor 4 = .ok (.getfield 250, 3) := by decide +kernel
theorem dX4_hasTimeFor_7 : decode cX4_hasTimeFor 7 = .ok (.iload_n 1, 1) := by decide +kernel
theorem dX4_hasTimeFor_8 : decode cX4_hasTimeFor 8 = .ok (.iadd, 1) := by decide +kernel
theorem dX4_hasTimeFor_9 : decode cX4_hasTimeFor 9 = .ok (.ldc 253, 2) := by decide +kernel
theorem dX4_hasTimeFor_11 : decode cX4_hasTimeFor 11 = .ok (.if_icmp .gt 7, 3) := by decide +kernel
theorem dX4_hasTimeFor_14 : decode cX4_hasTimeFor 14 = .ok (.iconst 1, 1) := by decide +kernel
theorem dX4_hasTimeFor_15 : decode cX4_hasTimeFor 15 = .ok (.goto 4, 3) := by decide +kernel
theorem dX4_hasTimeFor_18 : decode cX4_hasTimeFor 18 = .ok (.iconst 0, 1) := by decide +kernel
theorem dX4_hasTimeFor_19 : decode cX4_hasTimeFor 19 = .ok (.ireturn, 1) := by decide +kernel
theorem dJ9_max_7cf53_0 : decode cJ9_max_7cf53 0 = .ok (.iload_n 0, 1) := by decide +kernel
theorem dJ9_max_7cf53_1 : decode cJ9_max_7cf53 1 = .ok (.iload_n 1, 1) := by decide +kernel
theorem dJ9_max_7cf53_2 : decode cJ9_max_7cf53 2 = .ok (.if_icmp .lt 7, 3) := by decide +kernel
theorem dJ9_max_7cf53_5 : decode cJ9_max_7cf53 5 = .ok (.iload_n 0, 1) := by decide +kernel
theorem dJ9_max_7cf53_6 : decode cJ9_max_7cf53 6 = .ok (.goto 4, 3) := by decide +kernel
theorem dJ9_max_7cf53_9 : decode cJ9_max_7cf53 9 = .ok (.iload_n 1, 1) := by decide +kernel
theorem dJ9_max_7cf53_10 : decode cJ9_max_7cf53 10 = .ok (.ireturn, 1) := by decide +kernel
theorem dJ9_min_7cf53_0 : decode cJ9_min_7cf53 0 = .ok (.iload_n 0, 1) := by decide +kernel
theorem dJ9_min_7cf53_1 : decode cJ9_min_7cf53 1 = .ok (.iload_n 1, 1) := by decide +kernel
theorem dJ9_min_7cf53_2 : decode cJ9_min_7cf53 2 = .ok (.if_icmp .gt 7, 3) := by decide +kernel
theorem dJ9_min_7cf53_5 : decode cJ9_min_7cf53 5 = .ok (.iload_n 0, 1) := by decide +kernel
theorem dJ9_min_7cf53_6 : decode cJ9_min_7cf53 6 = .ok (.goto 4, 3) := by decide +kernel
theorem dJ9_min_7cf53_9 : decode cJ9_min_7cf53 9 = .ok (.iload_n 1, 1) := by decide +kernel
theorem dJ9_min_7cf53_10 : decode cJ9_min_7cf53 10 = .ok (.ireturn, 1) := by decide +kernel

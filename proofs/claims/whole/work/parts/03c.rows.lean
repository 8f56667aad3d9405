theorem dX2_start_32 : decode cX2_start 32 = .ok (.getfield 18, 3) := by decide +kernel
theorem dX2_start_35 : decode cX2_start 35 = .ok (.iload_n 1, 1) := by decide +kernel
theorem dX2_start_36 : decode cX2_start 36 = .ok (.iconst 1, 1) := by decide +kernel
theorem dX2_start_37 : decode cX2_start 37 = .ok (.iastore, 1) := by decide +kernel
theorem dX2_start_38 : decode cX2_start 38 = .ok (.aload_n 0, 1) := by decide +kernel
theorem dX2_start_39 : decode cX2_start 39 = .ok (.getfield 24, 3) := by decide +kernel
theorem dX2_start_42 : decode cX2_start 42 = .ok (.iload_n 1, 1) := by decide +kernel
theorem dX2_start_43 : decode cX2_start 43 = .ok (.dup2, 1) := by decide +kernel
theorem dX2_start_44 : decode cX2_start 44 = .ok (.iaload, 1) := by decide +kernel
theorem dX2_start_45 : decode cX2_start 45 = .ok (.iconst 1, 1) := by decide +kernel
theorem dX2_start_46 : decode cX2_start 46 = .ok (.iadd, 1) := by decide +kernel
theorem dX2_start_47 : decode cX2_start 47 = .ok (.iastore, 1) := by decide +kernel
theorem dX2_start_48 : decode cX2_start 48 = .ok (.aload_n 0, 1) := by decide +kernel
theorem dX2_start_49 : decode cX2_start 49 = .ok (.getfield 27, 3) := by decide +kernel
theorem dX2_start_52 : decode cX2_start 52 = .ok (.iload_n 1, 1) := by decide +kernel
theorem dX2_start_53 : decode cX2_start 53 = .ok (.dup2, 1) := by decide +kernel
theorem dX2_start_54 : decode cX2_start 54 = .ok (.iaload, 1) := by decide +kernel
theorem dX2_start_55 : decode cX2_start 55 = .ok (.iconst 1, 1) := by decide +kernel
theorem dX2_start_56 : decode cX2_start 56 = .ok (.iadd, 1) := by decide +kernel
theorem dX2_start_57 : decode cX2_start 57 = .ok (.iastore, 1) := by decide +kernel
theorem dX2_start_58 : decode cX2_start 58 = .ok (.iload_n 2, 1) := by decide +kernel
theorem dX2_start_59 : decode cX2_start 59 = .ok (.ifCond .eq 13, 3) := by decide +kernel
theorem dX2_start_62 : decode cX2_start 62 = .ok (.aload_n 0, 1) := by decide +kernel
theorem dX2_start_63 : decode cX2_start 63 = .ok (.getfield 33, 3) := by decide +kernel
theorem dX2_start_66 : decode cX2_start 66 = .ok (.iload_n 1, 1) := by decide +kernel
theorem dX2_start_67 : decode cX2_start 67 = .ok (.dup2, 1) := by decide +kernel
theorem dX2_start_68 : decode cX2_start 68 = .ok (.iaload, 1) := by decide +kernel
theorem dX2_start_69 : decode cX2_start 69 = .ok (.iconst 1, 1) := by decide +kernel
theorem dX2_start_70 : decode cX2_start 70 = .ok (.iadd, 1) := by decide +kernel
theorem dX2_start_71 : decode cX2_start 71 = .ok (.iastore, 1) := by decide +kernel
theorem dX2_start_72 : decode cX2_start 72 = .ok (.iload_n 2, 1) := by decide +kernel
theorem dX2_start_73 : decode cX2_start 73 = .ok (.ireturn, 1) := by decide +kernel
theorem dX2_runMinute_0 : decode cX2_runMinute 0 = .ok (.iconst 0, 1) := by decide +kernel
theorem dX2_runMinute_1 : decode cX2_runMinute 1 = .ok (.istore_n 1, 1) := by decide +kernel
theorem dX2_runMinute_2 : decode cX2_runMinute 2 = .ok (.iconst 0, 1) := by decide +kernel
theorem dX2_runMinute_3 : decode cX2_runMinute 3 = .ok (.istore_n 2, 1) := by decide +kernel
theorem dX2_runMinute_4 : decode cX2_runMinute 4 = .ok (.iload_n 2, 1) := by decide +kernel
theorem dX2_runMinute_5 : decode cX2_runMinute 5 = .ok (.aload_n 0, 1) := by decide +kernel
theorem dX2_runMinute_6 : decode cX2_runMinute 6 = .ok (.getfield 36, 3) := by decide +kernel
theorem dX2_runMinute_9 : decode cX2_runMinute 9 = .ok (.if_icmp .ge 38, 3) := by decide +kernel
theorem dX2_runMinute_12 : decode cX2_runMinute 12 = .ok (.aload_n 0, 1) := by decide +kernel
theorem dX2_runMinute_13 : decode cX2_runMinute 13 = .ok (.getfield 18, 3) := by decide +kernel
theorem dX2_runMinute_16 : decode cX2_runMinute 16 = .ok (.iload_n 2, 1) := by decide +kernel
theorem dX2_runMinute_17 : decode cX2_runMinute 17 = .ok (.iaload, 1) := by decide +kernel
theorem dX2_runMinute_18 : decode cX2_runMinute 18 = .ok (.iconst 1, 1) := by decide +kernel
theorem dX2_runMinute_19 : decode cX2_runMinute 19 = .ok (.if_icmp .ne 22, 3) := by decide +kernel
theorem dX2_runMinute_22 : decode cX2_runMinute 22 = .ok (.aload_n 0, 1) := by decide +kernel
theorem dX2_runMinute_23 : decode cX2_runMinute 23 = .ok (.getfield 30, 3) := by decide +kernel
theorem dX2_runMinute_26 : decode cX2_runMinute 26 = .ok (.iload_n 2, 1) := by decide +kernel
theorem dX2_runMinute_27 : decode cX2_runMinute 27 = .ok (.dup2, 1) := by decide +kernel
theorem dX2_runMinute_28 : decode cX2_runMinute 28 = .ok (.iaload, 1) := by decide +kernel
theorem dX2_runMinute_29 : decode cX2_runMinute 29 = .ok (.iconst 1, 1) := by decide +kernel
theorem dX2_runMinute_30 : decode cX2_runMinute 30 = .ok (.iadd, 1) := by decide +kernel
theorem dX2_runMinute_31 : decode cX2_runMinute 31 = .ok (.iastore, 1) := by decide +kernel
theorem dX2_runMinute_32 : decode cX2_runMinute 32 = .ok (.iload_n 1, 1) := by decide +kernel
theorem dX2_runMinute_33 : decode cX2_runMinute 33 = .ok (.aload_n 0, 1) := by decide +kernel
theorem dX2_runMinute_34 : decode cX2_runMinute 34 = .ok (.getfield 11, 3) := by decide +kernel
theorem dX2_runMinute_37 : decode cX2_runMinute 37 = .ok (.iload_n 2, 1) := by decide +kernel
theorem dX2_runMinute_38 : decode cX2_runMinute 38 = .ok (.iaload, 1) := by decide +kernel
theorem dX2_runMinute_39 : decode cX2_runMinute 39 = .ok (.iadd, 1) := by decide +kernel
theorem dX2_runMinute_40 : decode cX2_runMinute 40 = .ok (.istore_n 1, 1) := by decide +kernel
theorem dX2_runMinute_41 : decode cX2_runMinute 41 = .ok (.iinc 2 1, 3) := by decide +kernel
theorem dX2_runMinute_44 : decode cX2_runMinute 44 = .ok (.goto (-40), 3) := by decide +kernel
theorem dX2_runMinute_47 : decode cX2_runMinute 47 = .ok (.iload_n 1, 1) := by decide +kernel
theorem dX2_runMinute_48 : decode cX2_runMinute 48 = .ok (.ireturn, 1) := by decide +kernel
set_option maxRecDepth 20000 in
theorem ggX2_digestOnto_X2_fact : GoodIn wsX2_digestOnto wsX2_fact := goodIn_r _ [7, 8, 9, 10, 11, 12, 13, 14, 15, 16, 17, 18, 6, 19, 1, 20, 21, 22, 23, 24, 25, 26, 27, 28] (by decide +kernel) (by decide +kernel)
set_option maxRecDepth 20000 in
theorem gX2_digestOnto_X2_fact : GoodIn wsX2_digestOnto (wsV RX2 59 RX2 yX2_fact wsX2_fact) := goodIn_app (goodIn_of _ (by decide +kernel)) ggX2_digestOnto_X2_fact
theorem dX2_digestOnto_0 : decode cX2_digestOnto 0 = .ok (.lload_n 1, 1) := by decide +kernel
theorem dX2_digestOnto_1 : decode cX2_digestOnto 1 = .ok (.lstore_n 3, 1) := by decide +kernel
theorem dX2_digestOnto_2 : decode cX2_digestOnto 2 = .ok (.iconst 0, 1) := by decide +kernel
theorem dX2_digestOnto_3 : decode cX2_digestOnto 3 = .ok (.istore 5, 2) := by decide +kernel
theorem dX2_digestOnto_5 : decode cX2_digestOnto 5 = .ok (.iload 5, 2) := by decide +kernel
theorem dX2_digestOnto_7 : decode cX2_digestOnto 7 = .ok (.aload_n 0, 1) := by decide +kernel
theorem dX2_digestOnto_8 : decode cX2_digestOnto 8 = .ok (.getfield 36, 3) := by decide +kernel
theorem dX2_digestOnto_11 : decode cX2_digestOnto 11 = .ok (.if_icmp .ge 41, 3) := by decide +kernel
theorem dX2_digestOnto_14 : decode cX2_digestOnto 14 = .ok (.iconst 0, 1) := by decide +kernel
theorem dX2_digestOnto_15 : decode cX2_digestOnto 15 = .ok (.istore 6, 2) := by decide +kernel
theorem dX2_digestOnto_17 : decode cX2_digestOnto 17 = .ok (.iload 6, 2) := by decide +kernel
theorem dX2_digestOnto_19 : decode cX2_digestOnto 19 = .ok (.bipush 8, 2) := by decide +kernel
theorem dX2_digestOnto_21 : decode cX2_digestOnto 21 = .ok (.if_icmp .ge 25, 3) := by decide +kernel
theorem dX2_digestOnto_24 : decode cX2_digestOnto 24 = .ok (.ldc2_w 57, 3) := by decide +kernel
theorem dX2_digestOnto_27 : decode cX2_digestOnto 27 = .ok (.lload_n 3, 1) := by decide +kernel
theorem dX2_digestOnto_28 : decode cX2_digestOnto 28 = .ok (.lmul, 1) := by decide +kernel
theorem dX2_digestOnto_29 : decode cX2_digestOnto 29 = .ok (.aload_n 0, 1) := by decide +kernel
theorem dX2_digestOnto_30 : decode cX2_digestOnto 30 = .ok (.iload 5, 2) := by decide +kernel
theorem dX2_digestOnto_32 : decode cX2_digestOnto 32 = .ok (.iload 6, 2) := by decide +kernel
theorem dX2_digestOnto_34 : decode cX2_digestOnto 34 = .ok (.invokevirtual 59, 3) := by decide +kernel
theorem dX2_digestOnto_37 : decode cX2_digestOnto 37 = .ok (.i2l, 1) := by decide +kernel
theorem dX2_digestOnto_38 : decode cX2_digestOnto 38 = .ok (.ladd, 1) := by decide +kernel
theorem dX2_digestOnto_39 : decode cX2_digestOnto 39 = .ok (.lstore_n 3, 1) := by decide +kernel
theorem dX2_digestOnto_40 : decode cX2_digestOnto 40 = .ok (.iinc 6 1, 3) := by decide +kernel
theorem dX2_digestOnto_43 : decode cX2_digestOnto 43 = .ok (.goto (-26), 3) := by decide +kernel
theorem dX2_digestOnto_46 : decode cX2_digestOnto 46 = .ok (.iinc 5 1, 3) := by decide +kernel
theorem dX2_digestOnto_49 : decode cX2_digestOnto 49 = .ok (.goto (-44), 3) := by decide +kernel
theorem dX2_digestOnto_52 : decode cX2_digestOnto 52 = .ok (.lload_n 3, 1) := by decide +kernel
theorem dX2_digestOnto_53 : decode cX2_digestOnto 53 = .ok (.lreturn, 1) := by decide +kernel
set_option maxRecDepth 20000 in
theorem ggX3_init_X2_init : GoodIn wsX3_init wsX2_init := goodIn_r _ [22, 23, 2, 3, 8, 24, 25, 26, 27, 28, 29, 30, 31, 51, 52, 53, 54, 55, 56, 57, 58, 59] (by decide +kernel) (by decide +kernel)
set_option maxRecDepth 20000 in
theorem gX3_init_X2_init_n37 : GoodIn wsX3_init (wsX2_init) := ggX3_init_X2_init
set_option maxRecDepth 20000 in
theorem ggX3_init_X0_init : GoodIn wsX3_init wsX0_init := goodIn_r _ [33, 34, 2, 3, 8, 35, 60, 61] (by decide +kernel) (by decide +kernel)
set_option maxRecDepth 20000 in
theorem gX3_init_X0_init_n44 : GoodIn wsX3_init (wsX0_init) := ggX3_init_X0_init
theorem dX3_init_0 : decode cX3_init 0 = .ok (.aload_n 0, 1) := by decide +kernel
theorem dX3_init_1 : decode cX3_init 1 = .ok (.invokespecial 5, 3) := by decide +kernel
theorem dX3_init_4 : decode cX3_init 4 = .ok (.aload_n 0, 1) := by decide +kernel
theorem dX3_init_5 : decode cX3_init 5 = .ok (.sipush 10000, 3) := by decide +kernel
theorem dX3_init_8 : decode cX3_init 8 = .ok (.putfield 11, 3) := by decide +kernel
theorem dX3_init_11 : decode cX3_init 11 = .ok (.aload_n 0, 1) := by decide +kernel
theorem dX3_init_12 : decode cX3_init 12 = .ok (.sipush 5000, 3) := by decide +kernel
theorem dX3_init_15 : decode cX3_init 15 = .ok (.putfield 15, 3) := by decide +kernel
theorem dX3_init_18 : decode cX3_init 18 = .ok (.aload_n 0, 1) := by decide +kernel
theorem dX3_init_19 : decode cX3_init 19 = .ok (.sipush 4000, 3) := by decide +kernel
theorem dX3_init_22 : decode cX3_init 22 = .ok (.putfield 18, 3) := by decide +kernel
theorem dX3_init_25 : decode cX3_init 25 = .ok (.aload_n 0, 1) := by decide +kernel
theorem dX3_init_26 : decode cX3_init 26 = .ok (.sipush 8000, 3) := by decide +kernel
theorem dX3_init_29 : decode cX3_init 29 = .ok (.putfield 21, 3) := by decide +kernel
theorem dX3_init_32 : decode cX3_init 32 = .ok (.aload_n 0, 1) := by decide +kernel
theorem dX3_init_33 : decode cX3_init 33 = .ok (.iconst 3, 1) := by decide +kernel
theorem dX3_init_34 : decode cX3_init 34 = .ok (.newarray .int, 2) := by decide +kernel
theorem dX3_init_36 : decode cX3_init 36 = .ok (.putfield 24, 3) := by decide +kernel
theorem dX3_init_39 : decode cX3_init 39 = .ok (.aload_n 0, 1) := by decide +kernel
theorem dX3_init_40 : decode cX3_init 40 = .ok (.bipush 24, 2) := by decide +kernel
theorem dX3_init_42 : decode cX3_init 42 = .ok (.newarray .int, 2) := by decide +kernel
theorem dX3_init_44 : decode cX3_init 44 = .ok (.putfield 28, 3) := by decide +kernel
theorem dX3_init_47 : decode cX3_init 47 = .ok (.aload_n 0, 1) := by decide +kernel
theorem dX3_init_48 : decode cX3_init 48 = .ok (.iconst 5, 1) := by decide +kernel
theorem dX3_init_49 : decode cX3_init 49 = .ok (.newarray .long, 2) := by decide +kernel
theorem dX3_init_51 : decode cX3_init 51 = .ok (.putfield 31, 3) := by decide +kernel
theorem dX3_init_54 : decode cX3_init 54 = .ok (.aload_n 0, 1) := by decide +kernel
theorem dX3_init_55 : decode cX3_init 55 = .ok (.new 35, 3) := by decide +kernel
theorem dX3_init_58 : decode cX3_init 58 = .ok (.dup, 1) := by decide +kernel
theorem dX3_init_59 : decode cX3_init 59 = .ok (.invokespecial 37, 3) := by decide +kernel
theorem dX3_init_62 : decode cX3_init 62 = .ok (.putfield 38, 3) := by decide +kernel
theorem dX3_init_65 : decode cX3_init 65 = .ok (.aload_n 0, 1) := by decide +kernel
theorem dX3_init_66 : decode cX3_init 66 = .ok (.new 42, 3) := by decide +kernel
theorem dX3_init_69 : decode cX3_init 69 = .ok (.dup, 1) := by decide +kernel
theorem dX3_init_70 : decode cX3_init 70 = .ok (.invokespecial 44, 3) := by decide +kernel
theorem dX3_init_73 : decode cX3_init 73 = .ok (.putfield 45, 3) := by decide +kernel
theorem dX3_init_76 : decode cX3_init 76 = .ok (.aload_n 0, 1) := by decide +kernel
theorem dX3_init_77 : decode cX3_init 77 = .ok (.getfield 24, 3) := by decide +kernel
theorem dX3_init_80 : decode cX3_init 80 = .ok (.iconst 0, 1) := by decide +kernel
theorem dX3_init_81 : decode cX3_init 81 = .ok (.sipush 500, 3) := by decide +kernel
theorem dX3_init_84 : decode cX3_init 84 = .ok (.iastore, 1) := by decide +kernel
theorem dX3_init_85 : decode cX3_init 85 = .ok (.aload_n 0, 1) := by decide +kernel
theorem dX3_init_86 : decode cX3_init 86 = .ok (.getfield 24, 3) := by decide +kernel
theorem dX3_init_89 : decode cX3_init 89 = .ok (.iconst 2, 1) := by decide +kernel
theorem dX3_init_90 : decode cX3_init 90 = .ok (.iconst 1, 1) := by decide +kernel
theorem dX3_init_91 : decode cX3_init 91 = .ok (.iastore, 1) := by decide +kernel
theorem dX3_init_92 : decode cX3_init 92 = .ok (.iconst 0, 1) := by decide +kernel
theorem dX3_init_93 : decode cX3_init 93 = .ok (.istore_n 1, 1) := by decide +kernel
theorem dX3_init_94 : decode cX3_init 94 = .ok (.iload_n 1, 1) := by decide +kernel
theorem dX3_init_95 : decode cX3_init 95 = .ok (.bipush 24, 2) := by decide +kernel
theorem dX3_init_97 : decode cX3_init 97 = .ok (.if_icmp .ge 17, 3) := by decide +kernel
theorem dX3_init_100 : decode cX3_init 100 = .ok (.aload_n 0, 1) := by decide +kernel
theorem dX3_init_101 : decode cX3_init 101 = .ok (.getfield 28, 3) := by decide +kernel
theorem dX3_init_104 : decode cX3_init 104 = .ok (.iload_n 1, 1) := by decide +kernel
theorem dX3_init_105 : decode cX3_init 105 = .ok (.bipush 20, 2) := by decide +kernel
theorem dX3_init_107 : decode cX3_init 107 = .ok (.iastore, 1) := by decide +kernel
theorem dX3_init_108 : decode cX3_init 108 = .ok (.iinc 1 1, 3) := by decide +kernel
theorem dX3_init_111 : decode cX3_init 111 = .ok (.goto (-17), 3) := by decide +kernel
theorem dX3_init_114 : decode cX3_init 114 = .ok (.return_, 1) := by decide +kernel
set_option maxRecDepth 20000 in
theorem ggX3_become_X2_become : GoodIn wsX3_become wsX2_become := goodIn_r _ [24, 25, 26, 27, 13, 14, 15, 28, 29, 30, 31, 32, 33, 34, 58, 59, 60, 61, 62, 63, 64, 65, 66] (by decide +kernel) (by decide +kernel)
set_option maxRecDepth 20000 in
theorem gX3_become_X2_become : GoodIn wsX3_become (wsV RX3 74 RX2 yX2_become wsX2_become) := goodIn_app (goodIn_of _ (by decide +kernel)) ggX3_become_X2_become
set_option maxRecDepth 20000 in
theorem ggX3_become_X0_become : GoodIn wsX3_become wsX0_become := goodIn_r _ [39, 40, 41, 42, 13, 14, 15, 67, 68] (by decide +kernel) (by decide +kernel)
set_option maxRecDepth 20000 in
theorem gX3_become_X0_become : GoodIn wsX3_become (wsV RX3 78 RX0 yX0_become wsX0_become) := goodIn_app (goodIn_of _ (by decide +kernel)) ggX3_become_X0_become
theorem dX3_become_0 : decode cX3_become 0 = .ok (.aload_n 0, 1) := by decide +kernel
theorem dX3_become_1 : decode cX3_become 1 = .ok (.aload_n 1, 1) := by decide +kernel
theorem dX3_become_2 : decode cX3_become 2 = .ok (.getfield 11, 3) := by decide +kernel
theorem dX3_become_5 : decode cX3_become 5 = .ok (.putfield 11, 3) := by decide +kernel
theorem dX3_become_8 : decode cX3_become 8 = .ok (.aload_n 0, 1) := by decide +kernel
theorem dX3_become_9 : decode cX3_become 9 = .ok (.aload_n 1, 1) := by decide +kernel
theorem dX3_become_10 : decode cX3_become 10 = .ok (.getfield 15, 3) := by decide +kernel
theorem dX3_become_13 : decode cX3_become 13 = .ok (.putfield 15, 3) := by decide +kernel
theorem dX3_become_16 : decode cX3_become 16 = .ok (.aload_n 0, 1) := by decide +kernel
theorem dX3_become_17 : decode cX3_become 17 = .ok (.aload_n 1, 1) := by decide +kernel
theorem dX3_become_18 : decode cX3_become 18 = .ok (.getfield 18, 3) := by decide +kernel
theorem dX3_become_21 : decode cX3_become 21 = .ok (.putfield 18, 3) := by decide +kernel
theorem dX3_become_24 : decode cX3_become 24 = .ok (.aload_n 0, 1) := by decide +kernel
theorem dX3_become_25 : decode cX3_become 25 = .ok (.aload_n 1, 1) := by decide +kernel
theorem dX3_become_26 : decode cX3_become 26 = .ok (.getfield 21, 3) := by decide +kernel
theorem dX3_become_29 : decode cX3_become 29 = .ok (.putfield 21, 3) := by decide +kernel
theorem dX3_become_32 : decode cX3_become 32 = .ok (.aload_n 0, 1) := by decide +kernel
theorem dX3_become_33 : decode cX3_become 33 = .ok (.aload_n 1, 1) := by decide +kernel
theorem dX3_become_34 : decode cX3_become 34 = .ok (.getfield 49, 3) := by decide +kernel
theorem dX3_become_37 : decode cX3_become 37 = .ok (.putfield 49, 3) := by decide +kernel
theorem dX3_become_40 : decode cX3_become 40 = .ok (.aload_n 0, 1) := by decide +kernel
theorem dX3_become_41 : decode cX3_become 41 = .ok (.aload_n 1, 1) := by decide +kernel
theorem dX3_become_42 : decode cX3_become 42 = .ok (.getfield 52, 3) := by decide +kernel
theorem dX3_become_45 : decode cX3_become 45 = .ok (.putfield 52, 3) := by decide +kernel
theorem dX3_become_48 : decode cX3_become 48 = .ok (.aload_n 0, 1) := by decide +kernel
theorem dX3_become_49 : decode cX3_become 49 = .ok (.aload_n 1, 1) := by decide +kernel
theorem dX3_become_50 : decode cX3_become 50 = .ok (.getfield 55, 3) := by decide +kernel
theorem dX3_become_53 : decode cX3_become 53 = .ok (.putfield 55, 3) := by decide +kernel
theorem dX3_become_56 : decode cX3_become 56 = .ok (.aload_n 0, 1) := by decide +kernel
theorem dX3_become_57 : decode cX3_become 57 = .ok (.aload_n 1, 1) := by decide +kernel
theorem dX3_become_58 : decode cX3_become 58 = .ok (.getfield 58, 3) := by decide +kernel
theorem dX3_become_61 : decode cX3_become 61 = .ok (.putfield 58, 3) := by decide +kernel
theorem dX3_become_64 : decode cX3_become 64 = .ok (.aload_n 0, 1) := by decide +kernel
theorem dX3_become_65 : decode cX3_become 65 = .ok (.aload_n 1, 1) := by decide +kernel
theorem dX3_become_66 : decode cX3_become 66 = .ok (.getfield 61, 3) := by decide +kernel
theorem dX3_become_69 : decode cX3_become 69 = .ok (.putfield 61, 3) := by decide +kernel
theorem dX3_become_72 : decode cX3_become 72 = .ok (.aload_n 0, 1) := by decide +kernel
theorem dX3_become_73 : decode cX3_become 73 = .ok (.aload_n 1, 1) := by decide +kernel
theorem dX3_become_74 : decode cX3_become 74 = .ok (.getfield 65, 3) := by decide +kernel
theorem dX3_become_77 : decode cX3_become 77 = .ok (.putfield 65, 3) := by decide +kernel
theorem dX3_become_80 : decode cX3_become 80 = .ok (.aload_n 1, 1) := by decide +kernel
theorem dX3_become_81 : decode cX3_become 81 = .ok (.getfield 24, 3) := by decide +kernel
theorem dX3_become_84 : decode cX3_become 84 = .ok (.iconst 0, 1) := by decide +kernel
theorem dX3_become_85 : decode cX3_become 85 = .ok (.aload_n 0, 1) := by decide +kernel
theorem dX3_become_86 : decode cX3_become 86 = .ok (.getfield 24, 3) := by decide +kernel
theorem dX3_become_89 : decode cX3_become 89 = .ok (.iconst 0, 1) := by decide +kernel
theorem dX3_become_90 : decode cX3_become 90 = .ok (.iconst 3, 1) := by decide +kernel
theorem dX3_become_91 : decode cX3_become 91 = .ok (.invokestatic 68, 3) := by decide +kernel
theorem dX3_become_94 : decode cX3_become 94 = .ok (.aload_n 1, 1) := by decide +kernel
theorem dX3_become_95 : decode cX3_become 95 = .ok (.getfield 28, 3) := by decide +kernel
theorem dX3_become_98 : decode cX3_become 98 = .ok (.iconst 0, 1) := by decide +kernel
theorem dX3_become_99 : decode cX3_become 99 = .ok (.aload_n 0, 1) := by decide +kernel
theorem dX3_become_100 : decode cX3_become 100 = .ok (.getfield 28, 3) := by decide +kernel
theorem dX3_become_103 : decode cX3_become 103 = .ok (.iconst 0, 1) := by decide +kernel
theorem dX3_become_104 : decode cX3_become 104 = .ok (.bipush 24, 2) := by decide +kernel
theorem dX3_become_106 : decode cX3_become 106 = .ok (.invokestatic 68, 3) := by decide +kernel
theorem dX3_become_109 : decode cX3_become 109 = .ok (.aload_n 1, 1) := by decide +kernel
theorem dX3_become_110 : decode cX3_become 110 = .ok (.getfield 31, 3) := by decide +kernel
theorem dX3_become_113 : decode cX3_become 113 = .ok (.iconst 0, 1) := by decide +kernel
theorem dX3_become_114 : decode cX3_become 114 = .ok (.aload_n 0, 1) := by decide +kernel
theorem dX3_become_115 : decode cX3_become 115 = .ok (.getfield 31, 3) := by decide +kernel
theorem dX3_become_118 : decode cX3_become 118 = .ok (.iconst 0, 1) := by decide +kernel
theorem dX3_become_119 : decode cX3_become 119 = .ok (.iconst 5, 1) := by decide +kernel
theorem dX3_become_120 : decode cX3_become 120 = .ok (.invokestatic 68, 3) := by decide +kernel
theorem dX3_become_123 : decode cX3_become 123 = .ok (.aload_n 0, 1) := by decide +kernel
theorem dX3_become_124 : decode cX3_become 124 = .ok (.getfield 38, 3) := by decide +kernel
theorem dX3_become_127 : decode cX3_become 127 = .ok (.aload_n 1, 1) := by decide +kernel
theorem dX3_become_128 : decode cX3_become 128 = .ok (.getfield 38, 3) := by decide +kernel
theorem dX3_become_131 : decode cX3_become 131 = .ok (.invokevirtual 74, 3) := by decide +kernel
theorem dX3_become_134 : decode cX3_become 134 = .ok (.aload_n 0, 1) := by decide +kernel
theorem dX3_become_135 : decode cX3_become 135 = .ok (.getfield 45, 3) := by decide +kernel
theorem dX3_become_138 : decode cX3_become 138 = .ok (.aload_n 1, 1) := by decide +kernel
theorem dX3_become_139 : decode cX3_become 139 = .ok (.getfield 45, 3) := by decide +kernel
theorem dX3_become_142 : decode cX3_become 142 = .ok (.invokevirtual 78, 3) := by decide +kernel
theorem dX3_become_145 : decode cX3_become 145 = .ok (.return_, 1) := by decide +kernel
theorem dX3_isSettingValue_0 : decode cX3_isSettingValue 0 = .ok (.iload_n 0, 1) := by decide +kernel
theorem dX3_isSettingValue_1 : decode cX3_isSettingValue 1 = .ok (.ifCond .lt 30, 3) := by decide +kernel
theorem dX3_isSettingValue_4 : decode cX3_isSettingValue 4 = .ok (.iload_n 0, 1) := by decide +kernel
theorem dX3_isSettingValue_5 : decode cX3_isSettingValue 5 = .ok (.iconst 3, 1) := by decide +kernel
theorem dX3_isSettingValue_6 : decode cX3_isSettingValue 6 = .ok (.if_icmp .ge 25, 3) := by decide +kernel
theorem dX3_isSettingValue_9 : decode cX3_isSettingValue 9 = .ok (.iload_n 1, 1) := by decide +kernel
theorem dX3_isSettingValue_10 : decode cX3_isSettingValue 10 = .ok (.getstatic 81, 3) := by decide +kernel
theorem dX3_isSettingValue_13 : decode cX3_isSettingValue 13 = .ok (.iload_n 0, 1) := by decide +kernel
theorem dX3_isSettingValue_14 : decode cX3_isSettingValue 14 = .ok (.iaload, 1) := by decide +kernel
theorem dX3_isSettingValue_15 : decode cX3_isSettingValue 15 = .ok (.if_icmp .lt 16, 3) := by decide +kernel
theorem dX3_isSettingValue_18 : decode cX3_isSettingValue 18 = .ok (.iload_n 1, 1) := by decide +kernel
theorem dX3_isSettingValue_19 : decode cX3_isSettingValue 19 = .ok (.getstatic 84, 3) := by decide +kernel
theorem dX3_isSettingValue_22 : decode cX3_isSettingValue 22 = .ok (.iload_n 0, 1) := by decide +kernel
theorem dX3_isSettingValue_23 : decode cX3_isSettingValue 23 = .ok (.iaload, 1) := by decide +kernel
theorem dX3_isSettingValue_24 : decode cX3_isSettingValue 24 = .ok (.if_icmp .gt 7, 3) := by decide +kernel
theorem dX3_isSettingValue_27 : decode cX3_isSettingValue 27 = .ok (.iconst 1, 1) := by decide +kernel
theorem dX3_isSettingValue_28 : decode cX3_isSettingValue 28 = .ok (.goto 4, 3) := by decide +kernel
theorem dX3_isSettingValue_31 : decode cX3_isSettingValue 31 = .ok (.iconst 0, 1) := by decide +kernel
theorem dX3_isSettingValue_32 : decode cX3_isSettingValue 32 = .ok (.ireturn, 1) := by decide +kernel
theorem dX3_settingAt_0 : decode cX3_settingAt 0 = .ok (.iload_n 1, 1) := by decide +kernel
theorem dX3_settingAt_1 : decode cX3_settingAt 1 = .ok (.ifCond .lt 17, 3) := by decide +kernel
theorem dX3_settingAt_4 : decode cX3_settingAt 4 = .ok (.iload_n 1, 1) := by decide +kernel
theorem dX3_settingAt_5 : decode cX3_settingAt 5 = .ok (.iconst 3, 1) := by decide +kernel
theorem dX3_settingAt_6 : decode cX3_settingAt 6 = .ok (.if_icmp .ge 12, 3) := by decide +kernel
theorem dX3_settingAt_9 : decode cX3_settingAt 9 = .ok (.aload_n 0, 1) := by decide +kernel
theorem dX3_settingAt_10 : decode cX3_settingAt 10 = .ok (.getfield 24, 3) := by decide +kernel
theorem dX3_settingAt_13 : decode cX3_settingAt 13 = .ok (.iload_n 1, 1) := by decide +kernel
theorem dX3_settingAt_14 : decode cX3_settingAt 14 = .ok (.iaload, 1) := by decide +kernel
theorem dX3_settingAt_15 : decode cX3_settingAt 15 = .ok (.goto 4, 3) := by decide +kernel
theorem dX3_settingAt_18 : decode cX3_settingAt 18 = .ok (.iconst 0, 1) := by decide +kernel
theorem dX3_settingAt_19 : decode cX3_settingAt 19 = .ok (.ireturn, 1) := by decide +kernel
theorem dX3_demandAt_0 : decode cX3_demandAt 0 = .ok (.iload_n 1, 1) := by decide +kernel
theorem dX3_demandAt_1 : decode cX3_demandAt 1 = .ok (.ifCond .lt 18, 3) := by decide +kernel
theorem dX3_demandAt_4 : decode cX3_demandAt 4 = .ok (.iload_n 1, 1) := by decide +kernel
theorem dX3_demandAt_5 : decode cX3_demandAt 5 = .ok (.bipush 24, 2) := by decide +kernel
theorem dX3_demandAt_7 : decode cX3_demandAt 7 = .ok (.if_icmp .ge 12, 3) := by decide +kernel
theorem dX3_demandAt_10 : decode cX3_demandAt 10 = .ok (.aload_n 0, 1) := by decide +kernel
theorem dX3_demandAt_11 : decode cX3_demandAt 11 = .ok (.getfield 28, 3) := by decide +kernel
theorem dX3_demandAt_14 : decode cX3_demandAt 14 = .ok (.iload_n 1, 1) := by decide +kernel
theorem dX3_demandAt_15 : decode cX3_demandAt 15 = .ok (.iaload, 1) := by decide +kernel
theorem dX3_demandAt_16 : decode cX3_demandAt 16 = .ok (.goto 4, 3) := by decide +kernel
theorem dX3_demandAt_19 : decode cX3_demandAt 19 = .ok (.iconst 0, 1) := by decide +kernel
theorem dX3_demandAt_20 : decode cX3_demandAt 20 = .ok (.ireturn, 1) := by decide +kernel
set_option maxRecDepth 20000 in
theorem ggX3_changeSetting_X3_settingAt : GoodIn wsX3_changeSetting wsX3_settingAt := goodIn_r _ [6, 1, 7, 8, 9, 10, 11, 12, 13, 14, 15, 16, 17, 18, 19, 20, 21] (by decide +kernel) (by decide +kernel)
set_option maxRecDepth 20000 in
theorem gX3_changeSetting_X3_settingAt : GoodIn wsX3_changeSetting (wsV RX3 87 RX3 yX3_settingAt wsX3_settingAt) := goodIn_app (goodIn_of _ (by decide +kernel)) ggX3_changeSetting_X3_settingAt
theorem dX3_changeSetting_0 : decode cX3_changeSetting 0 = .ok (.aload_n 0, 1) := by decide +kernel
theorem dX3_changeSetting_1 : decode cX3_changeSetting 1 = .ok (.iload_n 1, 1) := by decide +kernel
theorem dX3_changeSetting_2 : decode cX3_changeSetting 2 = .ok (.invokevirtual 87, 3) := by decide +kernel
theorem dX3_changeSetting_5 : decode cX3_changeSetting 5 = .ok (.istore_n 3, 1) := by decide +kernel
theorem dX3_changeSetting_6 : decode cX3_changeSetting 6 = .ok (.iload_n 1, 1) := by decide +kernel
theorem dX3_changeSetting_7 : decode cX3_changeSetting 7 = .ok (.ifCond .lt 15, 3) := by decide +kernel
theorem dX3_changeSetting_10 : decode cX3_changeSetting 10 = .ok (.iload_n 1, 1) := by decide +kernel
theorem dX3_changeSetting_11 : decode cX3_changeSetting 11 = .ok (.iconst 3, 1) := by decide +kernel
theorem dX3_changeSetting_12 : decode cX3_changeSetting 12 = .ok (.if_icmp .ge 10, 3) := by decide +kernel
theorem dX3_changeSetting_15 : decode cX3_changeSetting 15 = .ok (.aload_n 0, 1) := by decide +kernel
theorem dX3_changeSetting_16 : decode cX3_changeSetting 16 = .ok (.getfield 24, 3) := by decide +kernel
theorem dX3_changeSetting_19 : decode cX3_changeSetting 19 = .ok (.iload_n 1, 1) := by decide +kernel
theorem dX3_changeSetting_20 : decode cX3_changeSetting 20 = .ok (.iload_n 2, 1) := by decide +kernel
theorem dX3_changeSetting_21 : decode cX3_changeSetting 21 = .ok (.iastore, 1) := by decide +kernel
theorem dX3_changeSetting_22 : decode cX3_changeSetting 22 = .ok (.iload_n 3, 1) := by decide +kernel
theorem dX3_changeSetting_23 : decode cX3_changeSetting 23 = .ok (.ireturn, 1) := by decide +kernel
set_option maxRecDepth 20000 in
theorem ggX3_changeDemand_X3_demandAt : GoodIn wsX3_changeDemand wsX3_demandAt := goodIn_r _ [6, 1, 7, 8, 9, 10, 11, 12, 13, 14, 15, 16, 17, 18, 19, 20, 21] (by decide +kernel) (by decide +kernel)
set_option maxRecDepth 20000 in
theorem gX3_changeDemand_X3_demandAt : GoodIn wsX3_changeDemand (wsV RX3 91 RX3 yX3_demandAt wsX3_demandAt) := goodIn_app (goodIn_of _ (by decide +kernel)) ggX3_changeDemand_X3_demandAt
theorem dX3_changeDemand_0 : decode cX3_changeDemand 0 = .ok (.aload_n 0, 1) := by decide +kernel
theorem dX3_changeDemand_1 : decode cX3_changeDemand 1 = .ok (.iload_n 1, 1) := by decide +kernel
theorem dX3_changeDemand_2 : decode cX3_changeDemand 2 = .ok (.invokevirtual 91, 3) := by decide +kernel
theorem dX3_changeDemand_5 : decode cX3_changeDemand 5 = .ok (.istore_n 3, 1) := by decide +kernel
theorem dX3_changeDemand_6 : decode cX3_changeDemand 6 = .ok (.iload_n 1, 1) := by decide +kernel
theorem dX3_changeDemand_7 : decode cX3_changeDemand 7 = .ok (.ifCond .lt 16, 3) := by decide +kernel
theorem dX3_changeDemand_10 : decode cX3_changeDemand 10 = .ok (.iload_n 1, 1) := by decide +kernel
theorem dX3_changeDemand_11 : decode cX3_changeDemand 11 = .ok (.bipush 24, 2) := by decide +kernel
theorem dX3_changeDemand_13 : decode cX3_changeDemand 13 = .ok (.if_icmp .ge 10, 3) := by decide +kernel
theorem dX3_changeDemand_16 : decode cX3_changeDemand 16 = .ok (.aload_n 0, 1) := by decide +kernel
theorem dX3_changeDemand_17 : decode cX3_changeDemand 17 = .ok (.getfield 28, 3) := by decide +kernel
theorem dX3_changeDemand_20 : decode cX3_changeDemand 20 = .ok (.iload_n 1, 1) := by decide +kernel
theorem dX3_changeDemand_21 : decode cX3_changeDemand 21 = .ok (.iload_n 2, 1) := by decide +kernel
theorem dX3_changeDemand_22 : decode cX3_changeDemand 22 = .ok (.iastore, 1) := by decide +kernel
theorem dX3_changeDemand_23 : decode cX3_changeDemand 23 = .ok (.iload_n 3, 1) := by decide +kernel
theorem dX3_changeDemand_24 : decode cX3_changeDemand 24 = .ok (.ireturn, 1) := by decide +kernel
theorem dX3_waterAt_0 : decode cX3_waterAt 0 = .ok (.iload_n 1, 1) := by decide +kernel
theorem dX3_waterAt_1 : decode cX3_waterAt 1 = .ok (.ifCond .lt 17, 3) := by decide +kernel
theorem dX3_waterAt_4 : decode cX3_waterAt 4 = .ok (.iload_n 1, 1) := by decide +kernel
theorem dX3_waterAt_5 : decode cX3_waterAt 5 = .ok (.iconst 5, 1) := by decide +kernel
theorem dX3_waterAt_6 : decode cX3_waterAt 6 = .ok (.if_icmp .ge 12, 3) := by decide +kernel
theorem dX3_waterAt_9 : decode cX3_waterAt 9 = .ok (.aload_n 0, 1) := by decide +kernel
theorem dX3_waterAt_10 : decode cX3_waterAt 10 = .ok (.getfield 31, 3) := by decide +kernel
theorem dX3_waterAt_13 : decode cX3_waterAt 13 = .ok (.iload_n 1, 1) := by decide +kernel
theorem dX3_waterAt_14 : decode cX3_waterAt 14 = .ok (.laload, 1) := by decide +kernel
theorem dX3_waterAt_15 : decode cX3_waterAt 15 = .ok (.goto 4, 3) := by decide +kernel
theorem dX3_waterAt_18 : decode cX3_waterAt 18 = .ok (.lconst 0, 1) := by decide +kernel
theorem dX3_waterAt_19 : decode cX3_waterAt 19 = .ok (.lreturn, 1) := by decide +kernel
set_option maxRecDepth 20000 in
theorem ggX3_numberAt_X2_countIn : GoodIn wsX3_numberAt wsX2_countIn := goodIn_r _ [17, 18, 19, 45, 46, 47, 48, 49, 50, 51, 52, 53] (by decide +kernel) (by decide +kernel)
set_option maxRecDepth 20000 in
theorem gX3_numberAt_X2_countIn : GoodIn wsX3_numberAt (wsV RX3 97 RX2 yX2_countIn wsX2_countIn) := goodIn_app (goodIn_of _ (by decide +kernel)) ggX3_numberAt_X2_countIn
set_option maxRecDepth 20000 in
theorem ggX3_numberAt_X3_hourNow : GoodIn wsX3_numberAt wsX3_hourNow := goodIn_r _ [24, 7, 30, 31, 32, 33, 34, 35, 36, 37, 38, 39, 40, 41, 42, 43, 44] (by decide +kernel) (by decide +kernel)
set_option maxRecDepth 20000 in
theorem gX3_numberAt_X3_hourNow : GoodIn wsX3_numberAt (wsV RX3 100 RX3 yX3_hourNow wsX3_hourNow) := goodIn_app (goodIn_of _ (by decide +kernel)) ggX3_numberAt_X3_hourNow
set_option maxRecDepth 20000 in
theorem ggX3_numberAt_X2_lead : GoodIn wsX3_numberAt wsX2_lead := goodIn_r _ [28, 18, 29, 45, 46, 47, 48, 49, 50, 51, 52, 53] (by decide +kernel) (by decide +kernel)
set_option maxRecDepth 20000 in
theorem gX3_numberAt_X2_lead : GoodIn wsX3_numberAt (wsV RX3 104 RX2 yX2_lead wsX2_lead) := goodIn_app (goodIn_of _ (by decide +kernel)) ggX3_numberAt_X2_lead
theorem dX3_numberAt_0 : decode cX3_numberAt 0 = .ok (.iload_n 1, 1) := by decide +kernel
theorem dX3_numberAt_1 : decode cX3_numberAt 1 = .ok (.tableswitch 146 0 12 #[67, 72, 77, 82, 87, 95, 104, 113, 118, 123, 128, 133, 141], 67) := by decide +kernel
theorem dX3_numberAt_68 : decode cX3_numberAt 68 = .ok (.aload_n 0, 1) := by decide +kernel
theorem dX3_numberAt_69 : decode cX3_numberAt 69 = .ok (.getfield 11, 3) := by decide +kernel
theorem dX3_numberAt_72 : decode cX3_numberAt 72 = .ok (.ireturn, 1) := by decide +kernel
theorem dX3_numberAt_73 : decode cX3_numberAt 73 = .ok (.aload_n 0, 1) := by decide +kernel
theorem dX3_numberAt_74 : decode cX3_numberAt 74 = .ok (.getfield 15, 3) := by decide +kernel
theorem dX3_numberAt_77 : decode cX3_numberAt 77 = .ok (.ireturn, 1) := by decide +kernel
theorem dX3_numberAt_78 : decode cX3_numberAt 78 = .ok (.aload_n 0, 1) := by decide +kernel
theorem dX3_numberAt_79 : decode cX3_numberAt 79 = .ok (.getfield 18, 3) := by decide +kernel
theorem dX3_numberAt_82 : decode cX3_numberAt 82 = .ok (.ireturn, 1) := by decide +kernel
theorem dX3_numberAt_83 : decode cX3_numberAt 83 = .ok (.aload_n 0, 1) := by decide +kernel
theorem dX3_numberAt_84 : decode cX3_numberAt 84 = .ok (.getfield 21, 3) := by decide +kernel
theorem dX3_numberAt_87 : decode cX3_numberAt 87 = .ok (.ireturn, 1) := by decide +kernel
theorem dX3_numberAt_88 : decode cX3_numberAt 88 = .ok (.aload_n 0, 1) := by decide +kernel
theorem dX3_numberAt_89 : decode cX3_numberAt 89 = .ok (.getfield 38, 3) := by decide +kernel
theorem dX3_numberAt_92 : decode cX3_numberAt 92 = .ok (.getfield 94, 3) := by decide +kernel
theorem dX3_numberAt_95 : decode cX3_numberAt 95 = .ok (.ireturn, 1) := by decide +kernel
theorem dX3_numberAt_96 : decode cX3_numberAt 96 = .ok (.aload_n 0, 1) := by decide +kernel
theorem dX3_numberAt_97 : decode cX3_numberAt 97 = .ok (.getfield 38, 3) := by decide +kernel
theorem dX3_numberAt_100 : decode cX3_numberAt 100 = .ok (.iconst 1, 1) := by decide +kernel
theorem dX3_numberAt_101 : decode cX3_numberAt 101 = .ok (.invokevirtual 97, 3) := by decide +kernel
theorem dX3_numberAt_104 : decode cX3_numberAt 104 = .ok (.ireturn, 1) := by decide +kernel
theorem dX3_numberAt_105 : decode cX3_numberAt 105 = .ok (.aload_n 0, 1) := by decide +kernel
theorem dX3_numberAt_106 : decode cX3_numberAt 106 = .ok (.getfield 38, 3) := by decide +kernel
theorem dX3_numberAt_109 : decode cX3_numberAt 109 = .ok (.iconst 2, 1) := by decide +kernel
theorem dX3_numberAt_110 : decode cX3_numberAt 110 = .ok (.invokevirtual 97, 3) := by decide +kernel
theorem dX3_numberAt_113 : decode cX3_numberAt 113 = .ok (.ireturn, 1) := by decide +kernel
theorem dX3_numberAt_114 : decode cX3_numberAt 114 = .ok (.aload_n 0, 1) := by decide +kernel
theorem dX3_numberAt_115 : decode cX3_numberAt 115 = .ok (.getfield 49, 3) := by decide +kernel
theorem dX3_numberAt_118 : decode cX3_numberAt 118 = .ok (.ireturn, 1) := by decide +kernel
theorem dX3_numberAt_119 : decode cX3_numberAt 119 = .ok (.aload_n 0, 1) := by decide +kernel
theorem dX3_numberAt_120 : decode cX3_numberAt 120 = .ok (.invokevirtual 100, 3) := by decide +kernel
theorem dX3_numberAt_123 : decode cX3_numberAt 123 = .ok (.ireturn, 1) := by decide +kernel
theorem dX3_numberAt_124 : decode cX3_numberAt 124 = .ok (.aload_n 0, 1) := by decide +kernel
theorem dX3_numberAt_125 : decode cX3_numberAt 125 = .ok (.getfield 52, 3) := by decide +kernel
theorem dX3_numberAt_128 : decode cX3_numberAt 128 = .ok (.ireturn, 1) := by decide +kernel
theorem dX3_numberAt_129 : decode cX3_numberAt 129 = .ok (.aload_n 0, 1) := by decide +kernel
theorem dX3_numberAt_130 : decode cX3_numberAt 130 = .ok (.getfield 55, 3) := by decide +kernel
theorem dX3_numberAt_133 : decode cX3_numberAt 133 = .ok (.ireturn, 1) := by decide +kernel
theorem dX3_numberAt_134 : decode cX3_numberAt 134 = .ok (.aload_n 0, 1) := by decide +kernel
theorem dX3_numberAt_135 : decode cX3_numberAt 135 = .ok (.getfield 38, 3) := by decide +kernel
theorem dX3_numberAt_138 : decode cX3_numberAt 138 = .ok (.invokevirtual 104, 3) := by decide +kernel
theorem dX3_numberAt_141 : decode cX3_numberAt 141 = .ok (.ireturn, 1) := by decide +kernel
theorem dX3_numberAt_142 : decode cX3_numberAt 142 = .ok (.aload_n 0, 1) := by decide +kernel
theorem dX3_numberAt_143 : decode cX3_numberAt 143 = .ok (.getfield 58, 3) := by decide +kernel
theorem dX3_numberAt_146 : decode cX3_numberAt 146 = .ok (.ireturn, 1) := by decide +kernel
theorem dX3_numberAt_147 : decode cX3_numberAt 147 = .ok (.aload_n 0, 1) := by decide +kernel
theorem dX3_numberAt_148 : decode cX3_numberAt 148 = .ok (.getfield 45, 3) := by decide +kernel
theorem dX3_numberAt_151 : decode cX3_numberAt 151 = .ok (.getfield 107, 3) := by decide +kernel
theorem dX3_numberAt_154 : decode cX3_numberAt 154 = .ok (.ireturn, 1) := by decide +kernel
set_option maxRecDepth 20000 in
theorem ggX3_letPass_X3_passMinute : GoodIn wsX3_letPass wsX3_passMinute := goodIn_r _ [5, 6, 7, 8, 9, 10, 11, 12, 13, 14, 15, 16, 4, 17, 18, 19, 20, 21, 22, 23, 24, 25, 26, 27, 28, 29, 30, 31, 32, 33, 34, 35, 36, 37, 38, 39, 40, 41, 42, 43, 44, 45, 46, 47, 48, 49, 50, 51, 52, 53, 54, 55, 56, 57, 58, 59, 60, 61, 62, 63, 64, 65, 66, 67, 68, 69, 70, 71, 72, 73, 74, 75, 76, 77, 78, 79, 80, 81, 82, 83, 84, 85, 86, 87, 88, 89, 90, 91, 92, 93, 94, 95, 96, 97, 98, 99, 100, 101, 102, 103, 104, 105, 106, 107, 108, 109, 110, 111, 112, 113, 114, 115, 116, 117, 118, 119, 120, 121, 122, 123, 124, 125, 126, 127, 128, 129, 130, 131, 132, 133, 134, 135, 136, 137] (by decide +kernel) (by decide +kernel)
set_option maxRecDepth 20000 in
theorem gX3_letPass_X3_passMinute : GoodIn wsX3_letPass (wsV RX3 108 RX3 yX3_passMinute wsX3_passMinute) := goodIn_app (goodIn_of _ (by decide +kernel)) ggX3_letPass_X3_passMinute
theorem dX3_letPass_0 : decode cX3_letPass 0 = .ok (.iconst 0, 1) := by decide +kernel
theorem dX3_letPass_1 : decode cX3_letPass 1 = .ok (.istore_n 2, 1) := by decide +kernel
theorem dX3_letPass_2 : decode cX3_letPass 2 = .ok (.iload_n 2, 1) := by decide +kernel
theorem dX3_letPass_3 : decode cX3_letPass 3 = .ok (.iload_n 1, 1) := by decide +kernel
theorem dX3_letPass_4 : decode cX3_letPass 4 = .ok (.if_icmp .ge 14, 3) := by decide +kernel
theorem dX3_letPass_7 : decode cX3_letPass 7 = .ok (.aload_n 0, 1) := by decide +kernel
theorem dX3_letPass_8 : decode cX3_letPass 8 = .ok (.invokevirtual 108, 3) := by decide +kernel
theorem dX3_letPass_11 : decode cX3_letPass 11 = .ok (.pop, 1) := by decide +kernel
theorem dX3_letPass_12 : decode cX3_letPass 12 = .ok (.iinc 2 1, 3) := by decide +kernel
theorem dX3_letPass_15 : decode cX3_letPass 15 = .ok (.goto (-13), 3) := by decide +kernel
theorem dX3_letPass_18 : decode cX3_letPass 18 = .ok (.return_, 1) := by decide +kernel
set_option maxRecDepth 20000 in
theorem ggX3_passMinute_X3_balance : GoodIn wsX3_passMinute wsX3_balance := goodIn_r _ [13, 14, 4, 108, 109, 110, 111, 112, 113, 114, 115, 116, 117, 118, 119, 120, 121, 122] (by decide +kernel) (by decide +kernel)
set_option maxRecDepth 20000 in
theorem gX3_passMinute_X3_balance : GoodIn wsX3_passMinute (wsV RX3 111 RX3 yX3_balance wsX3_balance) := goodIn_app (goodIn_of _ (by decide +kernel)) ggX3_passMinute_X3_balance
set_option maxRecDepth 20000 in
theorem ggX3_passMinute_X2_beginHour : GoodIn wsX3_passMinute wsX2_beginHour := goodIn_r _ [19, 20, 21, 123, 124, 125, 126, 127, 128, 129, 130, 131] (by decide +kernel) (by decide +kernel)
set_option maxRecDepth 20000 in
theorem gX3_passMinute_X2_beginHour : GoodIn wsX3_passMinute (wsV RX3 115 RX2 yX2_beginHour wsX2_beginHour) := goodIn_app (goodIn_of _ (by decide +kernel)) ggX3_passMinute_X2_beginHour
set_option maxRecDepth 20000 in
theorem ggX3_passMinute_X3_switchPumps : GoodIn wsX3_passMinute wsX3_switchPumps := goodIn_r _ [25, 4, 26, 3, 27, 28, 29, 1, 30, 31, 32, 33, 18, 34, 20, 35, 36, 37, 38, 39, 40, 41, 42, 43, 44, 45, 46, 47, 12, 48, 49, 5, 50, 51, 52, 53, 54, 55, 56, 57, 21, 58, 59, 60, 61, 62, 63, 64, 65, 66, 67, 68, 69, 70, 71, 72, 73, 74, 75, 76, 77, 78, 79, 80, 108, 109, 110, 111, 112, 113, 114, 115, 116, 117, 118, 119, 120, 121, 122, 123, 124, 125, 126, 127, 128, 129, 130, 131, 132, 133] (by decide +kernel) (by decide +kernel)
set_option maxRecDepth 20000 in
theorem gX3_passMinute_X3_switchPumps : GoodIn wsX3_passMinute (wsV RX3 118 RX3 yX3_switchPumps wsX3_switchPumps) := goodIn_app (goodIn_of _ (by decide +kernel)) ggX3_passMinute_X3_switchPumps
set_option maxRecDepth 20000 in
theorem ggX3_passMinute_X3_moveWater : GoodIn wsX3_passMinute wsX3_moveWater := goodIn_r _ [84, 3, 4, 85, 86, 87, 88, 89, 90, 91, 92, 27, 14, 93, 94, 95, 18, 96, 20, 35, 97, 98, 99, 100, 101, 12, 102, 1, 103, 104, 105, 106, 107, 108, 109, 110, 111, 112, 113, 114, 115, 116, 117, 118, 119, 120, 121, 122, 123, 124, 125, 126, 127, 128, 129, 130, 131] (by decide +kernel) (by decide +kernel)
set_option maxRecDepth 20000 in
theorem gX3_passMinute_X3_moveWater : GoodIn wsX3_passMinute (wsV RX3 121 RX3 yX3_moveWater wsX3_moveWater) := goodIn_app (goodIn_of _ (by decide +kernel)) ggX3_passMinute_X3_moveWater
theorem dX3_passMinute_0 : decode cX3_passMinute 0 = .ok (.aload_n 0, 1) := by decide +kernel
theorem dX3_passMinute_1 : decode cX3_passMinute 1 = .ok (.getfield 49, 3) := by decide +kernel
theorem dX3_passMinute_4 : decode cX3_passMinute 4 = .ok (.sipush 1440, 3) := by decide +kernel
theorem dX3_passMinute_7 : decode cX3_passMinute 7 = .ok (.irem, 1) := by decide +kernel
theorem dX3_passMinute_8 : decode cX3_passMinute 8 = .ok (.istore_n 1, 1) := by decide +kernel
theorem dX3_passMinute_9 : decode cX3_passMinute 9 = .ok (.iload_n 1, 1) := by decide +kernel
theorem dX3_passMinute_10 : decode cX3_passMinute 10 = .ok (.sipush 1320, 3) := by decide +kernel
theorem dX3_passMinute_13 : decode cX3_passMinute 13 = .ok (.if_icmp .ne 11, 3) := by decide +kernel
theorem dX3_passMinute_16 : decode cX3_passMinute 16 = .ok (.aload_n 0, 1) := by decide +kernel
theorem dX3_passMinute_17 : decode cX3_passMinute 17 = .ok (.aload_n 0, 1) := by decide +kernel
theorem dX3_passMinute_18 : decode cX3_passMinute 18 = .ok (.invokevirtual 111, 3) := by decide +kernel
theorem dX3_passMinute_21 : decode cX3_passMinute 21 = .ok (.putfield 61, 3) := by decide +kernel
theorem dX3_passMinute_24 : decode cX3_passMinute 24 = .ok (.aload_n 0, 1) := by decide +kernel
theorem dX3_passMinute_25 : decode cX3_passMinute 25 = .ok (.getfield 49, 3) := by decide +kernel
theorem dX3_passMinute_28 : decode cX3_passMinute 28 = .ok (.bipush 60, 2) := by decide +kernel
theorem dX3_passMinute_30 : decode cX3_passMinute 30 = .ok (.irem, 1) := by decide +kernel
theorem dX3_passMinute_31 : decode cX3_passMinute 31 = .ok (.ifCond .ne 10, 3) := by decide +kernel
theorem dX3_passMinute_34 : decode cX3_passMinute 34 = .ok (.aload_n 0, 1) := by decide +kernel
theorem dX3_passMinute_35 : decode cX3_passMinute 35 = .ok (.getfield 38, 3) := by decide +kernel
theorem dX3_passMinute_38 : decode cX3_passMinute 38 = .ok (.invokevirtual 115, 3) := by decide +kernel
theorem dX3_passMinute_41 : decode cX3_passMinute 41 = .ok (.aload_n 0, 1) := by decide +kernel
theorem dX3_passMinute_42 : decode cX3_passMinute 42 = .ok (.invokevirtual 118, 3) := by decide +kernel
theorem dX3_passMinute_45 : decode cX3_passMinute 45 = .ok (.istore_n 2, 1) := by decide +kernel
theorem dX3_passMinute_46 : decode cX3_passMinute 46 = .ok (.aload_n 0, 1) := by decide +kernel
theorem dX3_passMinute_47 : decode cX3_passMinute 47 = .ok (.invokevirtual 121, 3) := by decide +kernel
theorem dX3_passMinute_50 : decode cX3_passMinute 50 = .ok (.aload_n 0, 1) := by decide +kernel
theorem dX3_passMinute_51 : decode cX3_passMinute 51 = .ok (.getfield 15, 3) := by decide +kernel
theorem dX3_passMinute_54 : decode cX3_passMinute 54 = .ok (.aload_n 0, 1) := by decide +kernel
theorem dX3_passMinute_55 : decode cX3_passMinute 55 = .ok (.getfield 18, 3) := by decide +kernel
theorem dX3_passMinute_58 : decode cX3_passMinute 58 = .ok (.if_icmp .ge 13, 3) := by decide +kernel
theorem dX3_passMinute_61 : decode cX3_passMinute 61 = .ok (.aload_n 0, 1) := by decide +kernel
theorem dX3_passMinute_62 : decode cX3_passMinute 62 = .ok (.dup, 1) := by decide +kernel
theorem dX3_passMinute_63 : decode cX3_passMinute 63 = .ok (.getfield 55, 3) := by decide +kernel
theorem dX3_passMinute_66 : decode cX3_passMinute 66 = .ok (.iconst 1, 1) := by decide +kernel
theorem dX3_passMinute_67 : decode cX3_passMinute 67 = .ok (.iadd, 1) := by decide +kernel
theorem dX3_passMinute_68 : decode cX3_passMinute 68 = .ok (.putfield 55, 3) := by decide +kernel
theorem dX3_passMinute_71 : decode cX3_passMinute 71 = .ok (.iload_n 1, 1) := by decide +kernel
theorem dX3_passMinute_72 : decode cX3_passMinute 72 = .ok (.sipush 359, 3) := by decide +kernel
theorem dX3_passMinute_75 : decode cX3_passMinute 75 = .ok (.if_icmp .ne 36, 3) := by decide +kernel
theorem dX3_passMinute_78 : decode cX3_passMinute 78 = .ok (.aload_n 0, 1) := by decide +kernel
theorem dX3_passMinute_79 : decode cX3_passMinute 79 = .ok (.getfield 49, 3) := by decide +kernel
theorem dX3_passMinute_82 : decode cX3_passMinute 82 = .ok (.sipush 1440, 3) := by decide +kernel
theorem dX3_passMinute_85 : decode cX3_passMinute 85 = .ok (.if_icmp .le 26, 3) := by decide +kernel
theorem dX3_passMinute_88 : decode cX3_passMinute 88 = .ok (.aload_n 0, 1) := by decide +kernel
theorem dX3_passMinute_89 : decode cX3_passMinute 89 = .ok (.aload_n 0, 1) := by decide +kernel
theorem dX3_passMinute_90 : decode cX3_passMinute 90 = .ok (.invokevirtual 111, 3) := by decide +kernel
theorem dX3_passMinute_93 : decode cX3_passMinute 93 = .ok (.aload_n 0, 1) := by decide +kernel
theorem dX3_passMinute_94 : decode cX3_passMinute 94 = .ok (.getfield 61, 3) := by decide +kernel
theorem dX3_passMinute_97 : decode cX3_passMinute 97 = .ok (.lsub, 1) := by decide +kernel
theorem dX3_passMinute_98 : decode cX3_passMinute 98 = .ok (.putfield 65, 3) := by decide +kernel
theorem dX3_passMinute_101 : decode cX3_passMinute 101 = .ok (.aload_n 0, 1) := by decide +kernel
theorem dX3_passMinute_102 : decode cX3_passMinute 102 = .ok (.dup, 1) := by decide +kernel
theorem dX3_passMinute_103 : decode cX3_passMinute 103 = .ok (.getfield 58, 3) := by decide +kernel
theorem dX3_passMinute_106 : decode cX3_passMinute 106 = .ok (.iconst 1, 1) := by decide +kernel
theorem dX3_passMinute_107 : decode cX3_passMinute 107 = .ok (.iadd, 1) := by decide +kernel
theorem dX3_passMinute_108 : decode cX3_passMinute 108 = .ok (.putfield 58, 3) := by decide +kernel
theorem dX3_passMinute_111 : decode cX3_passMinute 111 = .ok (.aload_n 0, 1) := by decide +kernel
theorem dX3_passMinute_112 : decode cX3_passMinute 112 = .ok (.dup, 1) := by decide +kernel
theorem dX3_passMinute_113 : decode cX3_passMinute 113 = .ok (.getfield 49, 3) := by decide +kernel
theorem dX3_passMinute_116 : decode cX3_passMinute 116 = .ok (.iconst 1, 1) := by decide +kernel
theorem dX3_passMinute_117 : decode cX3_passMinute 117 = .ok (.iadd, 1) := by decide +kernel
theorem dX3_passMinute_118 : decode cX3_passMinute 118 = .ok (.putfield 49, 3) := by decide +kernel
theorem dX3_passMinute_121 : decode cX3_passMinute 121 = .ok (.iload_n 2, 1) := by decide +kernel
theorem dX3_passMinute_122 : decode cX3_passMinute 122 = .ok (.ireturn, 1) := by decide +kernel
theorem dX3_hourNow_0 : decode cX3_hourNow 0 = .ok (.aload_n 0, 1) := by decide +kernel
theorem dX3_hourNow_1 : decode cX3_hourNow 1 = .ok (.getfield 49, 3) := by decide +kernel
theorem dX3_hourNow_4 : decode cX3_hourNow 4 = .ok (.bipush 60, 2) := by decide +kernel
theorem dX3_hourNow_6 : decode cX3_hourNow 6 = .ok (.idiv, 1) := by decide +kernel
theorem dX3_hourNow_7 : decode cX3_hourNow 7 = .ok (.bipush 24, 2) := by decide +kernel
theorem dX3_hourNow_9 : decode cX3_hourNow 9 = .ok (.irem, 1) := by decide +kernel
theorem dX3_hourNow_10 : decode cX3_hourNow 10 = .ok (.ireturn, 1) := by decide +kernel
theorem dX3_balance_0 : decode cX3_balance 0 = .ok (.aload_n 0, 1) := by decide +kernel
theorem dX3_balance_1 : decode cX3_balance 1 = .ok (.getfield 31, 3) := by decide +kernel
theorem dX3_balance_4 : decode cX3_balance 4 = .ok (.iconst 0, 1) := by decide +kernel
theorem dX3_balance_5 : decode cX3_balance 5 = .ok (.laload, 1) := by decide +kernel
theorem dX3_balance_6 : decode cX3_balance 6 = .ok (.aload_n 0, 1) := by decide +kernel
theorem dX3_balance_7 : decode cX3_balance 7 = .ok (.getfield 31, 3) := by decide +kernel
theorem dX3_balance_10 : decode cX3_balance 10 = .ok (.iconst 1, 1) := by decide +kernel
theorem dX3_balance_11 : decode cX3_balance 11 = .ok (.laload, 1) := by decide +kernel
theorem dX3_balance_12 : decode cX3_balance 12 = .ok (.lsub, 1) := by decide +kernel
theorem dX3_balance_13 : decode cX3_balance 13 = .ok (.aload_n 0, 1) := by decide +kernel
theorem dX3_balance_14 : decode cX3_balance 14 = .ok (.getfield 31, 3) := by decide +kernel
theorem dX3_balance_17 : decode cX3_balance 17 = .ok (.iconst 2, 1) := by decide +kernel
theorem dX3_balance_18 : decode cX3_balance 18 = .ok (.laload, 1) := by decide +kernel
theorem dX3_balance_19 : decode cX3_balance 19 = .ok (.lsub, 1) := by decide +kernel
theorem dX3_balance_20 : decode cX3_balance 20 = .ok (.aload_n 0, 1) := by decide +kernel
theorem dX3_balance_21 : decode cX3_balance 21 = .ok (.getfield 15, 3) := by decide +kernel
theorem dX3_balance_24 : decode cX3_balance 24 = .ok (.i2l, 1) := by decide +kernel
theorem dX3_balance_25 : decode cX3_balance 25 = .ok (.lsub, 1) := by decide +kernel
theorem dX3_balance_26 : decode cX3_balance 26 = .ok (.lreturn, 1) := by decide +kernel
set_option maxRecDepth 20000 in
theorem ggX3_switchPumps_X2_stopAll : GoodIn wsX3_switchPumps wsX2_stopAll := goodIn_r _ [13, 14, 15, 16, 17, 18, 12, 19, 20, 79, 80, 81, 82, 83, 84, 85, 86, 87] (by decide +kernel) (by decide +kernel)
set_option maxRecDepth 20000 in
theorem gX3_switchPumps_X2_stopAll : GoodIn wsX3_switchPumps (wsV RX3 124 RX2 yX2_stopAll wsX2_stopAll) := goodIn_app (goodIn_of _ (by decide +kernel)) ggX3_switchPumps_X2_stopAll
set_option maxRecDepth 20000 in
theorem ggX3_switchPumps_X2_countIn : GoodIn wsX3_switchPumps wsX2_countIn := goodIn_r _ [24, 14, 15, 79, 80, 81, 82, 83, 84, 85, 86, 87] (by decide +kernel) (by decide +kernel)
set_option maxRecDepth 20000 in
theorem gX3_switchPumps_X2_countIn : GoodIn wsX3_switchPumps (wsV RX3 97 RX2 yX2_countIn wsX2_countIn) := goodIn_app (goodIn_of _ (by decide +kernel)) ggX3_switchPumps_X2_countIn
set_option maxRecDepth 20000 in
theorem ggX3_switchPumps_X3_wanted : GoodIn wsX3_switchPumps wsX3_wanted := goodIn_r _ [29, 3, 30, 1, 31, 4, 64, 65, 66, 67, 68, 69, 70, 71, 72, 73, 74, 75, 76, 77, 78, 79, 80, 81, 82, 83, 84, 85, 86, 87] (by decide +kernel) (by decide +kernel)
set_option maxRecDepth 20000 in
theorem gX3_switchPumps_X3_wanted : GoodIn wsX3_switchPumps (wsV RX3 127 RX3 yX3_wanted wsX3_wanted) := goodIn_app (goodIn_of _ (by decide +kernel)) ggX3_switchPumps_X3_wanted
set_option maxRecDepth 20000 in
theorem ggX3_switchPumps_X2_nextToStart : GoodIn wsX3_switchPumps wsX2_nextToStart := goodIn_r _ [35, 36, 37, 38, 12, 39, 14, 40, 41, 15, 20, 79, 80, 81, 82, 83, 84, 85, 86, 87] (by decide +kernel) (by decide +kernel)
set_option maxRecDepth 20000 in
theorem gX3_switchPumps_X2_nextToStart : GoodIn wsX3_switchPumps (wsV RX3 130 RX2 yX2_nextToStart wsX2_nextToStart) := goodIn_app (goodIn_of _ (by decide +kernel)) ggX3_switchPumps_X2_nextToStart
set_option maxRecDepth 20000 in
theorem ggX3_switchPumps_X2_has : GoodIn wsX3_switchPumps wsX2_has := goodIn_r _ [45, 14, 79, 80, 81, 82, 83, 84, 85, 86, 87] (by decide +kernel) (by decide +kernel)
set_option maxRecDepth 20000 in
theorem gX3_switchPumps_X2_has : GoodIn wsX3_switchPumps (wsV RX3 134 RX2 yX2_has wsX2_has) := goodIn_app (goodIn_of _ (by decide +kernel)) ggX3_switchPumps_X2_has
set_option maxRecDepth 20000 in
theorem ggX3_switchPumps_X2_start : GoodIn wsX3_switchPumps wsX2_start := goodIn_r _ [49, 40, 41, 15, 50, 51, 52, 43, 44, 12, 45, 14, 79, 80, 81, 82, 83, 84, 85, 86, 87] (by decide +kernel) (by decide +kernel)
set_option maxRecDepth 20000 in
theorem gX3_switchPumps_X2_start : GoodIn wsX3_switchPumps (wsV RX3 138 RX2 yX2_start wsX2_start) := goodIn_app (goodIn_of _ (by decide +kernel)) ggX3_switchPumps_X2_start
set_option maxRecDepth 20000 in
theorem ggX3_switchPumps_X0_put : GoodIn wsX3_switchPumps wsX0_put := goodIn_r _ [57, 58, 59, 60, 61, 62, 63, 88, 89] (by decide +kernel) (by decide +kernel)
set_option maxRecDepth 20000 in
theorem gX3_switchPumps_X0_put : GoodIn wsX3_switchPumps (wsV RX3 144 RX0 yX0_put wsX0_put) := goodIn_app (goodIn_of _ (by decide +kernel)) ggX3_switchPumps_X0_put
theorem dX3_switchPumps_0 : decode cX3_switchPumps 0 = .ok (.aload_n 0, 1) := by decide +kernel
theorem dX3_switchPumps_1 : decode cX3_switchPumps 1 = .ok (.getfield 15, 3) := by decide +kernel
theorem dX3_switchPumps_4 : decode cX3_switchPumps 4 = .ok (.aload_n 0, 1) := by decide +kernel
theorem dX3_switchPumps_5 : decode cX3_switchPumps 5 = .ok (.getfield 21, 3) := by decide +kernel
theorem dX3_switchPumps_8 : decode cX3_switchPumps 8 = .ok (.if_icmp .lt 12, 3) := by decide +kernel
theorem dX3_switchPumps_11 : decode cX3_switchPumps 11 = .ok (.aload_n 0, 1) := by decide +kernel
theorem dX3_switchPumps_12 : decode cX3_switchPumps 12 = .ok (.getfield 38, 3) := by decide +kernel
theorem dX3_switchPumps_15 : decode cX3_switchPumps 15 = .ok (.invokevirtual 124, 3) := by decide +kernel
theorem dX3_switchPumps_18 : decode cX3_switchPumps 18 = .ok (.iconst (-1), 1) := by decide +kernel
theorem dX3_switchPumps_19 : decode cX3_switchPumps 19 = .ok (.ireturn, 1) := by decide +kernel
theorem dX3_switchPumps_20 : decode cX3_switchPumps 20 = .ok (.aload_n 0, 1) := by decide +kernel
theorem dX3_switchPumps_21 : decode cX3_switchPumps 21 = .ok (.getfield 38, 3) := by decide +kernel
theorem dX3_switchPumps_24 : decode cX3_switchPumps 24 = .ok (.iconst 1, 1) := by decide +kernel
theorem dX3_switchPumps_25 : decode cX3_switchPumps 25 = .ok (.invokevirtual 97, 3) := by decide +kernel
theorem dX3_switchPumps_28 : decode cX3_switchPumps 28 = .ok (.aload_n 0, 1) := by decide +kernel
theorem dX3_switchPumps_29 : decode cX3_switchPumps 29 = .ok (.invokevirtual 127, 3) := by decide +kernel
theorem dX3_switchPumps_32 : decode cX3_switchPumps 32 = .ok (.if_icmp .lt 5, 3) := by decide +kernel
theorem dX3_switchPumps_35 : decode cX3_switchPumps 35 = .ok (.iconst (-1), 1) := by decide +kernel
theorem dX3_switchPumps_36 : decode cX3_switchPumps 36 = .ok (.ireturn, 1) := by decide +kernel
theorem dX3_switchPumps_37 : decode cX3_switchPumps 37 = .ok (.aload_n 0, 1) := by decide +kernel
theorem dX3_switchPumps_38 : decode cX3_switchPumps 38 = .ok (.getfield 38, 3) := by decide +kernel
theorem dX3_switchPumps_41 : decode cX3_switchPumps 41 = .ok (.aload_n 0, 1) := by decide +kernel
theorem dX3_switchPumps_42 : decode cX3_switchPumps 42 = .ok (.getfield 24, 3) := by decide +kernel
theorem dX3_switchPumps_45 : decode cX3_switchPumps 45 = .ok (.iconst 2, 1) := by decide +kernel
theorem dX3_switchPumps_46 : decode cX3_switchPumps 46 = .ok (.iaload, 1) := by decide +kernel
theorem dX3_switchPumps_47 : decode cX3_switchPumps 47 = .ok (.iconst 1, 1) := by decide +kernel
theorem dX3_switchPumps_48 : decode cX3_switchPumps 48 = .ok (.if_icmp .ne 7, 3) := by decide +kernel
theorem dX3_switchPumps_51 : decode cX3_switchPumps 51 = .ok (.iconst 1, 1) := by decide +kernel
theorem dX3_switchPumps_52 : decode cX3_switchPumps 52 = .ok (.goto 4, 3) := by decide +kernel
theorem dX3_switchPumps_55 : decode cX3_switchPumps 55 = .ok (.iconst 0, 1) := by decide +kernel
theorem dX3_switchPumps_56 : decode cX3_switchPumps 56 = .ok (.invokevirtual 130, 3) := by decide +kernel
theorem dX3_switchPumps_59 : decode cX3_switchPumps 59 = .ok (.istore_n 1, 1) := by decide +kernel
theorem dX3_switchPumps_60 : decode cX3_switchPumps 60 = .ok (.aload_n 0, 1) := by decide +kernel
theorem dX3_switchPumps_61 : decode cX3_switchPumps 61 = .ok (.getfield 38, 3) := by decide +kernel
theorem dX3_switchPumps_64 : decode cX3_switchPumps 64 = .ok (.iload_n 1, 1) := by decide +kernel
theorem dX3_switchPumps_65 : decode cX3_switchPumps 65 = .ok (.invokevirtual 134, 3) := by decide +kernel
theorem dX3_switchPumps_68 : decode cX3_switchPumps 68 = .ok (.ifCond .ne 5, 3) := by decide +kernel
theorem dX3_switchPumps_71 : decode cX3_switchPumps 71 = .ok (.iconst (-1), 1) := by decide +kernel
theorem dX3_switchPumps_72 : decode cX3_switchPumps 72 = .ok (.ireturn, 1) := by decide +kernel
theorem dX3_switchPumps_73 : decode cX3_switchPumps 73 = .ok (.aload_n 0, 1) := by decide +kernel
theorem dX3_switchPumps_74 : decode cX3_switchPumps 74 = .ok (.getfield 38, 3) := by decide +kernel
theorem dX3_switchPumps_77 : decode cX3_switchPumps 77 = .ok (.iload_n 1, 1) := by decide +kernel
theorem dX3_switchPumps_78 : decode cX3_switchPumps 78 = .ok (.invokevirtual 138, 3) := by decide +kernel
theorem dX3_switchPumps_81 : decode cX3_switchPumps 81 = .ok (.ifCond .eq 34, 3) := by decide +kernel
theorem dX3_switchPumps_84 : decode cX3_switchPumps 84 = .ok (.aload_n 0, 1) := by decide +kernel
theorem dX3_switchPumps_85 : decode cX3_switchPumps 85 = .ok (.dup, 1) := by decide +kernel
theorem dX3_switchPumps_86 : decode cX3_switchPumps 86 = .ok (.getfield 52, 3) := by decide +kernel
theorem dX3_switchPumps_89 : decode cX3_switchPumps 89 = .ok (.iconst 1, 1) := by decide +kernel
theorem dX3_switchPumps_90 : decode cX3_switchPumps 90 = .ok (.iadd, 1) := by decide +kernel
theorem dX3_switchPumps_91 : decode cX3_switchPumps 91 = .ok (.putfield 52, 3) := by decide +kernel
theorem dX3_switchPumps_94 : decode cX3_switchPumps 94 = .ok (.aload_n 0, 1) := by decide +kernel
theorem dX3_switchPumps_95 : decode cX3_switchPumps 95 = .ok (.getfield 45, 3) := by decide +kernel
theorem dX3_switchPumps_98 : decode cX3_switchPumps 98 = .ok (.iload_n 1, 1) := by decide +kernel
theorem dX3_switchPumps_99 : decode cX3_switchPumps 99 = .ok (.aload_n 0, 1) := by decide +kernel
theorem dX3_switchPumps_100 : decode cX3_switchPumps 100 = .ok (.getfield 49, 3) := by decide +kernel
theorem dX3_switchPumps_103 : decode cX3_switchPumps 103 = .ok (.aload_n 0, 1) := by decide +kernel
theorem dX3_switchPumps_104 : decode cX3_switchPumps 104 = .ok (.getfield 38, 3) := by decide +kernel
theorem dX3_switchPumps_107 : decode cX3_switchPumps 107 = .ok (.getfield 141, 3) := by decide +kernel
theorem dX3_switchPumps_110 : decode cX3_switchPumps 110 = .ok (.iload_n 1, 1) := by decide +kernel
theorem dX3_switchPumps_111 : decode cX3_switchPumps 111 = .ok (.iaload, 1) := by decide +kernel
theorem dX3_switchPumps_112 : decode cX3_switchPumps 112 = .ok (.invokevirtual 144, 3) := by decide +kernel
theorem dX3_switchPumps_115 : decode cX3_switchPumps 115 = .ok (.iload_n 1, 1) := by decide +kernel
theorem dX3_switchPumps_116 : decode cX3_switchPumps 116 = .ok (.ireturn, 1) := by decide +kernel
theorem dX3_wanted_0 : decode cX3_wanted 0 = .ok (.iconst 0, 1) := by decide +kernel
theorem dX3_wanted_1 : decode cX3_wanted 1 = .ok (.istore_n 1, 1) := by decide +kernel
theorem dX3_wanted_2 : decode cX3_wanted 2 = .ok (.iconst 0, 1) := by decide +kernel
theorem dX3_wanted_3 : decode cX3_wanted 3 = .ok (.istore_n 2, 1) := by decide +kernel
theorem dX3_wanted_4 : decode cX3_wanted 4 = .ok (.iload_n 2, 1) := by decide +kernel
theorem dX3_wanted_5 : decode cX3_wanted 5 = .ok (.aload_n 0, 1) := by decide +kernel
theorem dX3_wanted_6 : decode cX3_wanted 6 = .ok (.getfield 38, 3) := by decide +kernel
theorem dX3_wanted_9 : decode cX3_wanted 9 = .ok (.getfield 94, 3) := by decide +kernel
theorem dX3_wanted_12 : decode cX3_wanted 12 = .ok (.if_icmp .ge 32, 3) := by decide +kernel
theorem dX3_wanted_15 : decode cX3_wanted 15 = .ok (.aload_n 0, 1) := by decide +kernel
theorem dX3_wanted_16 : decode cX3_wanted 16 = .ok (.getfield 15, 3) := by decide +kernel
theorem dX3_wanted_19 : decode cX3_wanted 19 = .ok (.aload_n 0, 1) := by decide +kernel
theorem dX3_wanted_20 : decode cX3_wanted 20 = .ok (.getfield 18, 3) := by decide +kernel
theorem dX3_wanted_23 : decode cX3_wanted 23 = .ok (.iload_n 2, 1) := by decide +kernel
theorem dX3_wanted_24 : decode cX3_wanted 24 = .ok (.aload_n 0, 1) := by decide +kernel
theorem dX3_wanted_25 : decode cX3_wanted 25 = .ok (.getfield 24, 3) := by decide +kernel
theorem dX3_wanted_28 : decode cX3_wanted 28 = .ok (.iconst 0, 1) := by decide +kernel
theorem dX3_wanted_29 : decode cX3_wanted 29 = .ok (.iaload, 1) := by decide +kernel
theorem dX3_wanted_30 : decode cX3_wanted 30 = .ok (.imul, 1) := by decide +kernel
theorem dX3_wanted_31 : decode cX3_wanted 31 = .ok (.isub, 1) := by decide +kernel
theorem dX3_wanted_32 : decode cX3_wanted 32 = .ok (.if_icmp .ge 6, 3) := by decide +kernel
theorem dX3_wanted_35 : decode cX3_wanted 35 = .ok (.iinc 1 1, 3) := by decide +kernel
theorem dX3_wanted_38 : decode cX3_wanted 38 = .ok (.iinc 2 1, 3) := by decide +kernel
theorem dX3_wanted_41 : decode cX3_wanted 41 = .ok (.goto (-37), 3) := by decide +kernel
theorem dX3_wanted_44 : decode cX3_wanted 44 = .ok (.iload_n 1, 1) := by decide +kernel
theorem dX3_wanted_45 : decode cX3_wanted 45 = .ok (.ireturn, 1) := by decide +kernel
set_option maxRecDepth 20000 in
theorem ggX3_moveWater_X2_runMinute : GoodIn wsX3_moveWater wsX2_runMinute := goodIn_r _ [17, 18, 19, 20, 21, 48, 49, 50, 51, 52, 53, 54, 55, 56] (by decide +kernel) (by decide +kernel)
set_option maxRecDepth 20000 in
theorem gX3_moveWater_X2_runMinute : GoodIn wsX3_moveWater (wsV RX3 148 RX2 yX2_runMinute wsX2_runMinute) := goodIn_app (goodIn_of _ (by decide +kernel)) ggX3_moveWater_X2_runMinute
set_option maxRecDepth 20000 in
theorem ggX3_moveWater_X3_hourNow : GoodIn wsX3_moveWater wsX3_hourNow := goodIn_r _ [26, 27, 33, 34, 35, 36, 37, 38, 39, 40, 41, 42, 43, 44, 45, 46, 47] (by decide +kernel) (by decide +kernel)
set_option maxRecDepth 20000 in
theorem gX3_moveWater_X3_hourNow : GoodIn wsX3_moveWater (wsV RX3 100 RX3 yX3_hourNow wsX3_hourNow) := goodIn_app (goodIn_of _ (by decide +kernel)) ggX3_moveWater_X3_hourNow
set_option maxRecDepth 20000 in
theorem ggX3_moveWater_X3_demandAt : GoodIn wsX3_moveWater wsX3_demandAt := goodIn_r _ [31, 32, 33, 34, 35, 36, 37, 38, 39, 40, 41, 42, 43, 44, 45, 46, 47] (by decide +kernel) (by decide +kernel)
set_option maxRecDepth 20000 in
theorem gX3_moveWater_X3_demandAt : GoodIn wsX3_moveWater (wsV RX3 91 RX3 yX3_demandAt wsX3_demandAt) := goodIn_app (goodIn_of _ (by decide +kernel)) ggX3_moveWater_X3_demandAt
theorem dX3_moveWater_0 : decode cX3_moveWater 0 = .ok (.aload_n 0, 1) := by decide +kernel
theorem dX3_moveWater_1 : decode cX3_moveWater 1 = .ok (.getfield 38, 3) := by decide +kernel
theorem dX3_moveWater_4 : decode cX3_moveWater 4 = .ok (.invokevirtual 148, 3) := by decide +kernel
theorem dX3_moveWater_7 : decode cX3_moveWater 7 = .ok (.istore_n 1, 1) := by decide +kernel
theorem dX3_moveWater_8 : decode cX3_moveWater 8 = .ok (.iconst 0, 1) := by decide +kernel
theorem dX3_moveWater_9 : decode cX3_moveWater 9 = .ok (.aload_n 0, 1) := by decide +kernel
theorem dX3_moveWater_10 : decode cX3_moveWater 10 = .ok (.getfield 15, 3) := by decide +kernel
theorem dX3_moveWater_13 : decode cX3_moveWater 13 = .ok (.iload_n 1, 1) := by decide +kernel
theorem dX3_moveWater_14 : decode cX3_moveWater 14 = .ok (.iadd, 1) := by decide +kernel
theorem dX3_moveWater_15 : decode cX3_moveWater 15 = .ok (.aload_n 0, 1) := by decide +kernel
theorem dX3_moveWater_16 : decode cX3_moveWater 16 = .ok (.getfield 11, 3) := by decide +kernel
theorem dX3_moveWater_19 : decode cX3_moveWater 19 = .ok (.isub, 1) := by decide +kernel
theorem dX3_moveWater_20 : decode cX3_moveWater 20 = .ok (.invokestatic 151, 3) := by decide +kernel
theorem dX3_moveWater_23 : decode cX3_moveWater 23 = .ok (.istore_n 2, 1) := by decide +kernel
theorem dX3_moveWater_24 : decode cX3_moveWater 24 = .ok (.aload_n 0, 1) := by decide +kernel
theorem dX3_moveWater_25 : decode cX3_moveWater 25 = .ok (.dup, 1) := by decide +kernel
theorem dX3_moveWater_26 : decode cX3_moveWater 26 = .ok (.getfield 15, 3) := by decide +kernel
theorem dX3_moveWater_29 : decode cX3_moveWater 29 = .ok (.iload_n 1, 1) := by decide +kernel
theorem dX3_moveWater_30 : decode cX3_moveWater 30 = .ok (.iload_n 2, 1) := by decide +kernel
theorem dX3_moveWater_31 : decode cX3_moveWater 31 = .ok (.isub, 1) := by decide +kernel
theorem dX3_moveWater_32 : decode cX3_moveWater 32 = .ok (.iadd, 1) := by decide +kernel
theorem dX3_moveWater_33 : decode cX3_moveWater 33 = .ok (.putfield 15, 3) := by decide +kernel
theorem dX3_moveWater_36 : decode cX3_moveWater 36 = .ok (.aload_n 0, 1) := by decide +kernel
theorem dX3_moveWater_37 : decode cX3_moveWater 37 = .ok (.aload_n 0, 1) := by decide +kernel
theorem dX3_moveWater_38 : decode cX3_moveWater 38 = .ok (.invokevirtual 100, 3) := by decide +kernel
theorem dX3_moveWater_41 : decode cX3_moveWater 41 = .ok (.invokevirtual 91, 3) := by decide +kernel
theorem dX3_moveWater_44 : decode cX3_moveWater 44 = .ok (.istore_n 3, 1) := by decide +kernel
theorem dX3_moveWater_45 : decode cX3_moveWater 45 = .ok (.iload_n 3, 1) := by decide +kernel
theorem dX3_moveWater_46 : decode cX3_moveWater 46 = .ok (.aload_n 0, 1) := by decide +kernel
theorem dX3_moveWater_47 : decode cX3_moveWater 47 = .ok (.getfield 15, 3) := by decide +kernel
theorem dX3_moveWater_50 : decode cX3_moveWater 50 = .ok (.invokestatic 157, 3) := by decide +kernel
theorem dX3_moveWater_53 : decode cX3_moveWater 53 = .ok (.istore 4, 2) := by decide +kernel
theorem dX3_moveWater_55 : decode cX3_moveWater 55 = .ok (.aload_n 0, 1) := by decide +kernel
theorem dX3_moveWater_56 : decode cX3_moveWater 56 = .ok (.dup, 1) := by decide +kernel
theorem dX3_moveWater_57 : decode cX3_moveWater 57 = .ok (.getfield 15, 3) := by decide +kernel
theorem dX3_moveWater_60 : decode cX3_moveWater 60 = .ok (.iload 4, 2) := by decide +kernel
theorem dX3_moveWater_62 : decode cX3_moveWater 62 = .ok (.isub, 1) := by decide +kernel
theorem dX3_moveWater_63 : decode cX3_moveWater 63 = .ok (.putfield 15, 3) := by decide +kernel
theorem dX3_moveWater_66 : decode cX3_moveWater 66 = .ok (.aload_n 0, 1) := by decide +kernel
theorem dX3_moveWater_67 : decode cX3_moveWater 67 = .ok (.getfield 24, 3) := by decide +kernel
theorem dX3_moveWater_70 : decode cX3_moveWater 70 = .ok (.iconst 1, 1) := by decide +kernel
theorem dX3_moveWater_71 : decode cX3_moveWater 71 = .ok (.iaload, 1) := by decide +kernel
theorem dX3_moveWater_72 : decode cX3_moveWater 72 = .ok (.aload_n 0, 1) := by decide +kernel
theorem dX3_moveWater_73 : decode cX3_moveWater 73 = .ok (.getfield 15, 3) := by decide +kernel
theorem dX3_moveWater_76 : decode cX3_moveWater 76 = .ok (.invokestatic 157, 3) := by decide +kernel
theorem dX3_moveWater_79 : decode cX3_moveWater 79 = .ok (.istore 5, 2) := by decide +kernel
theorem dX3_moveWater_81 : decode cX3_moveWater 81 = .ok (.aload_n 0, 1) := by decide +kernel
theorem dX3_moveWater_82 : decode cX3_moveWater 82 = .ok (.dup, 1) := by decide +kernel
theorem dX3_moveWater_83 : decode cX3_moveWater 83 = .ok (.getfield 15, 3) := by decide +kernel
theorem dX3_moveWater_86 : decode cX3_moveWater 86 = .ok (.iload 5, 2) := by decide +kernel
theorem dX3_moveWater_88 : decode cX3_moveWater 88 = .ok (.isub, 1) := by decide +kernel
theorem dX3_moveWater_89 : decode cX3_moveWater 89 = .ok (.putfield 15, 3) := by decide +kernel
theorem dX3_moveWater_92 : decode cX3_moveWater 92 = .ok (.aload_n 0, 1) := by decide +kernel
theorem dX3_moveWater_93 : decode cX3_moveWater 93 = .ok (.getfield 31, 3) := by decide +kernel
theorem dX3_moveWater_96 : decode cX3_moveWater 96 = .ok (.iconst 0, 1) := by decide +kernel
theorem dX3_moveWater_97 : decode cX3_moveWater 97 = .ok (.dup2, 1) := by decide +kernel
theorem dX3_moveWater_98 : decode cX3_moveWater 98 = .ok (.laload, 1) := by decide +kernel
theorem dX3_moveWater_99 : decode cX3_moveWater 99 = .ok (.iload_n 1, 1) := by decide +kernel
theorem dX3_moveWater_100 : decode cX3_moveWater 100 = .ok (.i2l, 1) := by decide +kernel
theorem dX3_moveWater_101 : decode cX3_moveWater 101 = .ok (.ladd, 1) := by decide +kernel
theorem dX3_moveWater_102 : decode cX3_moveWater 102 = .ok (.lastore, 1) := by decide +kernel
theorem dX3_moveWater_103 : decode cX3_moveWater 103 = .ok (.aload_n 0, 1) := by decide +kernel
theorem dX3_moveWater_104 : decode cX3_moveWater 104 = .ok (.getfield 31, 3) := by decide +kernel
theorem dX3_moveWater_107 : decode cX3_moveWater 107 = .ok (.iconst 1, 1) := by decide +kernel
theorem dX3_moveWater_108 : decode cX3_moveWater 108 = .ok (.dup2, 1) := by decide +kernel
theorem dX3_moveWater_109 : decode cX3_moveWater 109 = .ok (.laload, 1) := by decide +kernel
theorem dX3_moveWater_110 : decode cX3_moveWater 110 = .ok (.iload_n 2, 1) := by decide +kernel
theorem dX3_moveWater_111 : decode cX3_moveWater 111 = .ok (.i2l, 1) := by decide +kernel
theorem dX3_moveWater_112 : decode cX3_moveWater 112 = .ok (.ladd, 1) := by decide +kernel
theorem dX3_moveWater_113 : decode cX3_moveWater 113 = .ok (.lastore, 1) := by decide +kernel
theorem dX3_moveWater_114 : decode cX3_moveWater 114 = .ok (.aload_n 0, 1) := by decide +kernel
theorem dX3_moveWater_115 : decode cX3_moveWater 115 = .ok (.getfield 31, 3) := by decide +kernel
theorem dX3_moveWater_118 : decode cX3_moveWater 118 = .ok (.iconst 2, 1) := by decide +kernel
theorem dX3_moveWater_119 : decode cX3_moveWater 119 = .ok (.dup2, 1) := by decide +kernel
theorem dX3_moveWater_120 : decode cX3_moveWater 120 = .ok (.laload, 1) := by decide +kernel
theorem dX3_moveWater_121 : decode cX3_moveWater 121 = .ok (.iload 4, 2) := by decide +kernel
theorem dX3_moveWater_123 : decode cX3_moveWater 123 = .ok (.i2l, 1) := by decide +kernel
theorem dX3_moveWater_124 : decode cX3_moveWater 124 = .ok (.ladd, 1) := by decide +kernel
theorem dX3_moveWater_125 : decode cX3_moveWater 125 = .ok (.lastore, 1) := by decide +kernel
theorem dX3_moveWater_126 : decode cX3_moveWater 126 = .ok (.aload_n 0, 1) := by decide +kernel
theorem dX3_moveWater_127 : decode cX3_moveWater 127 = .ok (.getfield 31, 3) := by decide +kernel
theorem dX3_moveWater_130 : decode cX3_moveWater 130 = .ok (.iconst 3, 1) := by decide +kernel
theorem dX3_moveWater_131 : decode cX3_moveWater 131 = .ok (.dup2, 1) := by decide +kernel
theorem dX3_moveWater_132 : decode cX3_moveWater 132 = .ok (.laload, 1) := by decide +kernel
theorem dX3_moveWater_133 : decode cX3_moveWater 133 = .ok (.iload_n 3, 1) := by decide +kernel
theorem dX3_moveWater_134 : decode cX3_moveWater 134 = .ok (.iload 4, 2) := by decide +kernel
theorem dX3_moveWater_136 : decode cX3_moveWater 136 = .ok (.isub, 1) := by decide +kernel
theorem dX3_moveWater_137 : decode cX3_moveWater 137 = .ok (.i2l, 1) := by decide +kernel
theorem dX3_moveWater_138 : decode cX3_moveWater 138 = .ok (.ladd, 1) := by decide +kernel
theorem dX3_moveWater_139 : decode cX3_moveWater 139 = .ok (.lastore, 1) := by decide +kernel
theorem dX3_moveWater_140 : decode cX3_moveWater 140 = .ok (.aload_n 0, 1) := by decide +kernel
theorem dX3_moveWater_141 : decode cX3_moveWater 141 = .ok (.getfield 31, 3) := by decide +kernel
theorem dX3_moveWater_144 : decode cX3_moveWater 144 = .ok (.iconst 4, 1) := by decide +kernel
theorem dX3_moveWater_145 : decode cX3_moveWater 145 = .ok (.dup2, 1) := by decide +kernel
theorem dX3_moveWater_146 : decode cX3_moveWater 146 = .ok (.laload, 1) := by decide +kernel
theorem dX3_moveWater_147 : decode cX3_moveWater 147 = .ok (.iload 5, 2) := by decide +kernel
theorem dX3_moveWater_149 : decode cX3_moveWater 149 = .ok (.i2l, 1) := by decide +kernel
theorem dX3_moveWater_150 : decode cX3_moveWater 150 = .ok (.ladd, 1) := by decide +kernel
theorem dX3_moveWater_151 : decode cX3_moveWater 151 = .ok (.lastore, 1) := by decide +kernel
theorem dX3_moveWater_152 : decode cX3_moveWater 152 = .ok (.return_, 1) := by decide +kernel
set_option maxRecDepth 20000 in
theorem ggX3_digestOnto_X3_numberAt : GoodIn wsX3_digestOnto wsX3_numberAt := goodIn_r _ [12, 13, 14, 15, 16, 6, 17, 18, 19, 20, 21, 7, 22, 23, 24, 25, 26, 27, 28, 29, 30, 31, 32, 11, 33, 34, 35, 36, 37, 38, 66, 67, 68, 69, 70, 71, 72, 73, 74, 75, 76, 77, 78, 79, 80, 81, 82, 83, 84, 85, 86, 87, 88, 89, 90, 91] (by decide +kernel) (by decide +kernel)
set_option maxRecDepth 20000 in
theorem gX3_digestOnto_X3_numberAt : GoodIn wsX3_digestOnto (wsV RX3 162 RX3 yX3_numberAt wsX3_numberAt) := goodIn_app (goodIn_of _ (by decide +kernel)) ggX3_digestOnto_X3_numberAt
set_option maxRecDepth 20000 in
theorem ggX3_digestOnto_X2_digestOnto : GoodIn wsX3_digestOnto wsX2_digestOnto := goodIn_r _ [42, 28, 43, 44, 45, 46, 26, 47, 48, 49, 29, 38, 50, 51, 52, 53, 54, 55, 56, 57, 81, 82, 83, 84, 85, 86, 87, 88, 89] (by decide +kernel) (by decide +kernel)
set_option maxRecDepth 20000 in
theorem gX3_digestOnto_X2_digestOnto : GoodIn wsX3_digestOnto (wsV RX3 165 RX2 yX2_digestOnto wsX2_digestOnto) := goodIn_app (goodIn_of _ (by decide +kernel)) ggX3_digestOnto_X2_digestOnto
set_option maxRecDepth 20000 in
theorem ggX3_digestOnto_X0_digestOnto : GoodIn wsX3_digestOnto wsX0_digestOnto := goodIn_r _ [62, 63, 64, 65, 90, 91] (by decide +kernel) (by decide +kernel)
set_option maxRecDepth 20000 in
theorem gX3_digestOnto_X0_digestOnto : GoodIn wsX3_digestOnto (wsV RX3 169 RX0 yX0_digestOnto wsX0_digestOnto) := goodIn_app (goodIn_of _ (by decide +kernel)) ggX3_digestOnto_X0_digestOnto
theorem dX3_digestOnto_0 : decode cX3_digestOnto 0 = .ok (.lload_n 1, 1) := by decide +kernel
theorem dX3_digestOnto_1 : decode cX3_digestOnto 1 = .ok (.lstore_n 3, 1) := by decide +kernel
theorem dX3_digestOnto_2 : decode cX3_digestOnto 2 = .ok (.iconst 0, 1) := by decide +kernel
theorem dX3_digestOnto_3 : decode cX3_digestOnto 3 = .ok (.istore 5, 2) := by decide +kernel
theorem dX3_digestOnto_5 : decode cX3_digestOnto 5 = .ok (.iload 5, 2) := by decide +kernel
theorem dX3_digestOnto_7 : decode cX3_digestOnto 7 = .ok (.bipush 14, 2) := by decide +kernel
theorem dX3_digestOnto_9 : decode cX3_digestOnto 9 = .ok (.if_icmp .ge 23, 3) := by decide +kernel
theorem dX3_digestOnto_12 : decode cX3_digestOnto 12 = .ok (.ldc2_w 160, 3) := by decide +kernel
theorem dX3_digestOnto_15 : decode cX3_digestOnto 15 = .ok (.lload_n 3, 1) := by decide +kernel
theorem dX3_digestOnto_16 : decode cX3_digestOnto 16 = .ok (.lmul, 1) := by decide +kernel
theorem dX3_digestOnto_17 : decode cX3_digestOnto 17 = .ok (.aload_n 0, 1) := by decide +kernel
theorem dX3_digestOnto_18 : decode cX3_digestOnto 18 = .ok (.iload 5, 2) := by decide +kernel
theorem dX3_digestOnto_20 : decode cX3_digestOnto 20 = .ok (.invokevirtual 162, 3) := by decide +kernel
theorem dX3_digestOnto_23 : decode cX3_digestOnto 23 = .ok (.i2l, 1) := by decide +kernel
theorem dX3_digestOnto_24 : decode cX3_digestOnto 24 = .ok (.ladd, 1) := by decide +kernel
theorem dX3_digestOnto_25 : decode cX3_digestOnto 25 = .ok (.lstore_n 3, 1) := by decide +kernel
theorem dX3_digestOnto_26 : decode cX3_digestOnto 26 = .ok (.iinc 5 1, 3) := by decide +kernel
theorem dX3_digestOnto_29 : decode cX3_digestOnto 29 = .ok (.goto (-24), 3) := by decide +kernel
theorem dX3_digestOnto_32 : decode cX3_digestOnto 32 = .ok (.iconst 0, 1) := by decide +kernel
theorem dX3_digestOnto_33 : decode cX3_digestOnto 33 = .ok (.istore 5, 2) := by decide +kernel
theorem dX3_digestOnto_35 : decode cX3_digestOnto 35 = .ok (.iload 5, 2) := by decide +kernel
theorem dX3_digestOnto_37 : decode cX3_digestOnto 37 = .ok (.iconst 3, 1) := by decide +kernel
theorem dX3_digestOnto_38 : decode cX3_digestOnto 38 = .ok (.if_icmp .ge 24, 3) := by decide +kernel
theorem dX3_digestOnto_41 : decode cX3_digestOnto 41 = .ok (.ldc2_w 160, 3) := by decide +kernel
theorem dX3_digestOnto_44 : decode cX3_digestOnto 44 = .ok (.lload_n 3, 1) := by decide +kernel
theorem dX3_digestOnto_45 : decode cX3_digestOnto 45 = .ok (.lmul, 1) := by decide +kernel
theorem dX3_digestOnto_46 : decode cX3_digestOnto 46 = .ok (.aload_n 0, 1) := by decide +kernel
theorem dX3_digestOnto_47 : decode cX3_digestOnto 47 = .ok (.getfield 24, 3) := by decide +kernel
theorem dX3_digestOnto_50 : decode cX3_digestOnto 50 = .ok (.iload 5, 2) := by decide +kernel
theorem dX3_digestOnto_52 : decode cX3_digestOnto 52 = .ok (.iaload, 1) := by decide +kernel
theorem dX3_digestOnto_53 : decode cX3_digestOnto 53 = .ok (.i2l, 1) := by decide +kernel
theorem dX3_digestOnto_54 : decode cX3_digestOnto 54 = .ok (.ladd, 1) := by decide +kernel
theorem dX3_digestOnto_55 : decode cX3_digestOnto 55 = .ok (.lstore_n 3, 1) := by decide +kernel
theorem dX3_digestOnto_56 : decode cX3_digestOnto 56 = .ok (.iinc 5 1, 3) := by decide +kernel
theorem dX3_digestOnto_59 : decode cX3_digestOnto 59 = .ok (.goto (-24), 3) := by decide +kernel
theorem dX3_digestOnto_62 : decode cX3_digestOnto 62 = .ok (.iconst 0, 1) := by decide +kernel
theorem dX3_digestOnto_63 : decode cX3_digestOnto 63 = .ok (.istore 5, 2) := by decide +kernel
theorem dX3_digestOnto_65 : decode cX3_digestOnto 65 = .ok (.iload 5, 2) := by decide +kernel
theorem dX3_digestOnto_67 : decode cX3_digestOnto 67 = .ok (.bipush 24, 2) := by decide +kernel
theorem dX3_digestOnto_69 : decode cX3_digestOnto 69 = .ok (.if_icmp .ge 24, 3) := by decide +kernel
theorem dX3_digestOnto_72 : decode cX3_digestOnto 72 = .ok (.ldc2_w 160, 3) := by decide +kernel
theorem dX3_digestOnto_75 : decode cX3_digestOnto 75 = .ok (.lload_n 3, 1) := by decide +kernel
theorem dX3_digestOnto_76 : decode cX3_digestOnto 76 = .ok (.lmul, 1) := by decide +kernel
theorem dX3_digestOnto_77 : decode cX3_digestOnto 77 = .ok (.aload_n 0, 1) := by decide +kernel
theorem dX3_digestOnto_78 : decode cX3_digestOnto 78 = .ok (.getfield 28, 3) := by decide +kernel
theorem dX3_digestOnto_81 : decode cX3_digestOnto 81 = .ok (.iload 5, 2) := by decide +kernel
theorem dX3_digestOnto_83 : decode cX3_digestOnto 83 = .ok (.iaload, 1) := by decide +kernel
theorem dX3_digestOnto_84 : decode cX3_digestOnto 84 = .ok (.i2l, 1) := by decide +kernel
theorem dX3_digestOnto_85 : decode cX3_digestOnto 85 = .ok (.ladd, 1) := by decide +kernel
theorem dX3_digestOnto_86 : decode cX3_digestOnto 86 = .ok (.lstore_n 3, 1) := by decide +kernel
theorem dX3_digestOnto_87 : decode cX3_digestOnto 87 = .ok (.iinc 5 1, 3) := by decide +kernel
theorem dX3_digestOnto_90 : decode cX3_digestOnto 90 = .ok (.goto (-25), 3) := by decide +kernel
theorem dX3_digestOnto_93 : decode cX3_digestOnto 93 = .ok (.iconst 0, 1) := by decide +kernel
theorem dX3_digestOnto_94 : decode cX3_digestOnto 94 = .ok (.istore 5, 2) := by decide +kernel
theorem dX3_digestOnto_96 : decode cX3_digestOnto 96 = .ok (.iload 5, 2) := by decide +kernel
theorem dX3_digestOnto_98 : decode cX3_digestOnto 98 = .ok (.iconst 5, 1) := by decide +kernel
theorem dX3_digestOnto_99 : decode cX3_digestOnto 99 = .ok (.if_icmp .ge 23, 3) := by decide +kernel
theorem dX3_digestOnto_102 : decode cX3_digestOnto 102 = .ok (.ldc2_w 160, 3) := by decide +kernel
theorem dX3_digestOnto_105 : decode cX3_digestOnto 105 = .ok (.lload_n 3, 1) := by decide +kernel
theorem dX3_digestOnto_106 : decode cX3_digestOnto 106 = .ok (.lmul, 1) := by decide +kernel
theorem dX3_digestOnto_107 : decode cX3_digestOnto 107 = .ok (.aload_n 0, 1) := by decide +kernel
theorem dX3_digestOnto_108 : decode cX3_digestOnto 108 = .ok (.getfield 31, 3) := by decide +kernel
theorem dX3_digestOnto_111 : decode cX3_digestOnto 111 = .ok (.iload 5, 2) := by decide +kernel
theorem dX3_digestOnto_113 : decode cX3_digestOnto 113 = .ok (.laload, 1) := by decide +kernel
theorem dX3_digestOnto_114 : decode cX3_digestOnto 114 = .ok (.ladd, 1) := by decide +kernel
theorem dX3_digestOnto_115 : decode cX3_digestOnto 115 = .ok (.lstore_n 3, 1) := by decide +kernel
theorem dX3_digestOnto_116 : decode cX3_digestOnto 116 = .ok (.iinc 5 1, 3) := by decide +kernel
theorem dX3_digestOnto_119 : decode cX3_digestOnto 119 = .ok (.goto (-23), 3) := by decide +kernel
theorem dX3_digestOnto_122 : decode cX3_digestOnto 122 = .ok (.ldc2_w 160, 3) := by decide +kernel
theorem dX3_digestOnto_125 : decode cX3_digestOnto 125 = .ok (.lload_n 3, 1) := by decide +kernel
theorem dX3_digestOnto_126 : decode cX3_digestOnto 126 = .ok (.lmul, 1) := by decide +kernel
theorem dX3_digestOnto_127 : decode cX3_digestOnto 127 = .ok (.aload_n 0, 1) := by decide +kernel
theorem dX3_digestOnto_128 : decode cX3_digestOnto 128 = .ok (.getfield 65, 3) := by decide +kernel
theorem dX3_digestOnto_131 : decode cX3_digestOnto 131 = .ok (.ladd, 1) := by decide +kernel
theorem dX3_digestOnto_132 : decode cX3_digestOnto 132 = .ok (.lstore_n 3, 1) := by decide +kernel
theorem dX3_digestOnto_133 : decode cX3_digestOnto 133 = .ok (.aload_n 0, 1) := by decide +kernel
theorem dX3_digestOnto_134 : decode cX3_digestOnto 134 = .ok (.getfield 38, 3) := by decide +kernel
theorem dX3_digestOnto_137 : decode cX3_digestOnto 137 = .ok (.lload_n 3, 1) := by decide +kernel
theorem dX3_digestOnto_138 : decode cX3_digestOnto 138 = .ok (.invokevirtual 165, 3) := by decide +kernel
theorem dX3_digestOnto_141 : decode cX3_digestOnto 141 = .ok (.lstore_n 3, 1) := by decide +kernel
theorem dX3_digestOnto_142 : decode cX3_digestOnto 142 = .ok (.aload_n 0, 1) := by decide +kernel
theorem dX3_digestOnto_143 : decode cX3_digestOnto 143 = .ok (.getfield 45, 3) := by decide +kernel
theorem dX3_digestOnto_146 : decode cX3_digestOnto 146 = .ok (.lload_n 3, 1) := by decide +kernel
theorem dX3_digestOnto_147 : decode cX3_digestOnto 147 = .ok (.invokevirtual 169, 3) := by decide +kernel
theorem dX3_digestOnto_150 : decode cX3_digestOnto 150 = .ok (.lreturn, 1) := by decide +kernel
set_option maxRecDepth 20000 in
theorem ggX4_init_X3_init : GoodIn wsX4_init wsX3_init := goodIn_r _ [20, 21, 2, 3, 22, 23, 24, 25, 26, 27, 28, 29, 30, 31, 32, 33, 34, 35, 36, 37, 38, 39, 40, 41, 42, 43, 44, 45, 46, 47, 48, 49, 50, 51, 52, 53, 59, 60, 61, 62, 63, 64, 65, 66, 67, 68, 69, 70, 71, 72, 73, 88, 89, 90, 91, 92, 93, 94, 95, 96, 97, 98] (by decide +kernel) (by decide +kernel)
set_option maxRecDepth 20000 in
theorem gX4_init_X3_init : GoodIn wsX4_init (wsX3_init) := ggX4_init_X3_init
set_option maxRecDepth 20000 in
theorem ggX4_init_X1_init : GoodIn wsX4_init wsX1_init := goodIn_r _ [55, 56, 2, 3, 26, 57, 58, 82, 83, 84, 85, 86, 87] (by decide +kernel) (by decide +kernel)
set_option maxRecDepth 20000 in
theorem gX4_init_X1_init_n33 : GoodIn wsX4_init (wsX1_init) := ggX4_init_X1_init
theorem dX4_init_0 : decode cX4_init 0 = .ok (.aload_n 0, 1) := by decide +kernel
theorem dX4_init_1 : decode cX4_init 1 = .ok (.invokespecial 1, 3) := by decide +kernel
theorem dX4_init_4 : decode cX4_init 4 = .ok (.aload_n 0, 1) := by decide +kernel
theorem dX4_init_5 : decode cX4_init 5 = .ok (.new 7, 3) := by decide +kernel
theorem dX4_init_8 : decode cX4_init 8 = .ok (.dup, 1) := by decide +kernel
theorem dX4_init_9 : decode cX4_init 9 = .ok (.invokespecial 9, 3) := by decide +kernel
theorem dX4_init_12 : decode cX4_init 12 = .ok (.putfield 10, 3) := by decide +kernel
theorem dX4_init_15 : decode cX4_init 15 = .ok (.aload_n 0, 1) := by decide +kernel
theorem dX4_init_16 : decode cX4_init 16 = .ok (.new 7, 3) := by decide +kernel
theorem dX4_init_19 : decode cX4_init 19 = .ok (.dup, 1) := by decide +kernel
theorem dX4_init_20 : decode cX4_init 20 = .ok (.invokespecial 9, 3) := by decide +kernel
theorem dX4_init_23 : decode cX4_init 23 = .ok (.putfield 16, 3) := by decide +kernel
theorem dX4_init_26 : decode cX4_init 26 = .ok (.aload_n 0, 1) := by decide +kernel
theorem dX4_init_27 : decode cX4_init 27 = .ok (.new 7, 3) := by decide +kernel
theorem dX4_init_30 : decode cX4_init 30 = .ok (.dup, 1) := by decide +kernel
theorem dX4_init_31 : decode cX4_init 31 = .ok (.invokespecial 9, 3) := by decide +kernel
theorem dX4_init_34 : decode cX4_init 34 = .ok (.putfield 19, 3) := by decide +kernel
theorem dX4_init_37 : decode cX4_init 37 = .ok (.aload_n 0, 1) := by decide +kernel
theorem dX4_init_38 : decode cX4_init 38 = .ok (.new 7, 3) := by decide +kernel
theorem dX4_init_41 : decode cX4_init 41 = .ok (.dup, 1) := by decide +kernel
theorem dX4_init_42 : decode cX4_init 42 = .ok (.invokespecial 9, 3) := by decide +kernel
theorem dX4_init_45 : decode cX4_init 45 = .ok (.putfield 22, 3) := by decide +kernel
theorem dX4_init_48 : decode cX4_init 48 = .ok (.aload_n 0, 1) := by decide +kernel
theorem dX4_init_49 : decode cX4_init 49 = .ok (.new 7, 3) := by decide +kernel
theorem dX4_init_52 : decode cX4_init 52 = .ok (.dup, 1) := by decide +kernel
theorem dX4_init_53 : decode cX4_init 53 = .ok (.invokespecial 9, 3) := by decide +kernel
theorem dX4_init_56 : decode cX4_init 56 = .ok (.putfield 25, 3) := by decide +kernel
theorem dX4_init_59 : decode cX4_init 59 = .ok (.aload_n 0, 1) := by decide +kernel
theorem dX4_init_60 : decode cX4_init 60 = .ok (.new 7, 3) := by decide +kernel
theorem dX4_init_63 : decode cX4_init 63 = .ok (.dup, 1) := by decide +kernel
theorem dX4_init_64 : decode cX4_init 64 = .ok (.invokespecial 9, 3) := by decide +kernel
theorem dX4_init_67 : decode cX4_init 67 = .ok (.putfield 28, 3) := by decide +kernel
theorem dX4_init_70 : decode cX4_init 70 = .ok (.aload_n 0, 1) := by decide +kernel
theorem dX4_init_71 : decode cX4_init 71 = .ok (.new 31, 3) := by decide +kernel
theorem dX4_init_74 : decode cX4_init 74 = .ok (.dup, 1) := by decide +kernel
theorem dX4_init_75 : decode cX4_init 75 = .ok (.invokespecial 33, 3) := by decide +kernel
theorem dX4_init_78 : decode cX4_init 78 = .ok (.putfield 34, 3) := by decide +kernel
theorem dX4_init_81 : decode cX4_init 81 = .ok (.aload_n 0, 1) := by decide +kernel
theorem dX4_init_82 : decode cX4_init 82 = .ok (.iconst 0, 1) := by decide +kernel
theorem dX4_init_83 : decode cX4_init 83 = .ok (.putfield 38, 3) := by decide +kernel
theorem dX4_init_86 : decode cX4_init 86 = .ok (.return_, 1) := by decide +kernel
set_option maxRecDepth 20000 in
theorem ggX4_setSize_X4_isIn : GoodIn wsX4_setSize wsX4_isIn := goodIn_r _ [13] (by decide +kernel) (by decide +kernel)
set_option maxRecDepth 20000 in
theorem gX4_setSize_X4_isIn : GoodIn wsX4_setSize (va_wsS RX4 43 yX4_isIn wsX4_isIn) := goodIn_app (goodIn_of _ (by decide +kernel)) ggX4_setSize_X4_isIn
set_option maxRecDepth 20000 in
theorem ggX4_setSize_X4_save : GoodIn wsX4_setSize wsX4_save := goodIn_r _ [17, 18, 19, 20, 21, 6, 22, 23, 24, 25, 26, 27, 28, 29, 30, 31, 32, 33, 34, 35, 36, 37, 38, 39, 40, 41, 42, 43, 44, 45, 46, 47, 48, 49, 50, 51, 52, 53, 54, 55, 56, 57, 58, 59, 60, 61, 62, 63, 64, 65, 66, 67, 68, 69, 70, 71, 72, 73, 74, 75, 76, 77, 78, 79, 80, 81, 82, 83, 84, 85, 86, 87, 88, 89, 90, 91, 92, 93, 94, 95, 96, 97, 98, 99, 100, 101, 102, 103] (by decide +kernel) (by decide +kernel)
set_option maxRecDepth 20000 in
theorem gX4_setSize_X4_save : GoodIn wsX4_setSize (wsV RX4 65 RX4 yX4_save wsX4_save) := goodIn_app (goodIn_of _ (by decide +kernel)) ggX4_setSize_X4_save
theorem dX4_setSize_0 : decode cX4_setSize 0 = .ok (.iload_n 1, 1) := by decide +kernel
theorem dX4_setSize_1 : decode cX4_setSize 1 = .ok (.bipush 100, 2) := by decide +kernel
theorem dX4_setSize_3 : decode cX4_setSize 3 = .ok (.ldc 42, 2) := by decide +kernel
theorem dX4_setSize_5 : decode cX4_setSize 5 = .ok (.invokestatic 43, 3) := by decide +kernel
theorem dX4_setSize_8 : decode cX4_setSize 8 = .ok (.ifCond .ne 13, 3) := by decide +kernel
theorem dX4_setSize_11 : decode cX4_setSize 11 = .ok (.new 47, 3) := by decide +kernel
theorem dX4_setSize_14 : decode cX4_setSize 14 = .ok (.dup, 1) := by decide +kernel
theorem dX4_setSize_15 : decode cX4_setSize 15 = .ok (.ldc 49, 2) := by decide +kernel
theorem dX4_setSize_17 : decode cX4_setSize 17 = .ok (.invokespecial 51, 3) := by decide +kernel
theorem dX4_setSize_20 : decode cX4_setSize 20 = .ok (.athrow, 1) := by decide +kernel
theorem dX4_setSize_21 : decode cX4_setSize 21 = .ok (.aload_n 0, 1) := by decide +kernel
theorem dX4_setSize_22 : decode cX4_setSize 22 = .ok (.getfield 10, 3) := by decide +kernel
theorem dX4_setSize_25 : decode cX4_setSize 25 = .ok (.getfield 54, 3) := by decide +kernel
theorem dX4_setSize_28 : decode cX4_setSize 28 = .ok (.iload_n 1, 1) := by decide +kernel
theorem dX4_setSize_29 : decode cX4_setSize 29 = .ok (.if_icmp .gt 14, 3) := by decide +kernel
theorem dX4_setSize_32 : decode cX4_setSize 32 = .ok (.aload_n 0, 1) := by decide +kernel
theorem dX4_setSize_33 : decode cX4_setSize 33 = .ok (.getfield 10, 3) := by decide +kernel
theorem dX4_setSize_36 : decode cX4_setSize 36 = .ok (.getfield 57, 3) := by decide +kernel
theorem dX4_setSize_39 : decode cX4_setSize 39 = .ok (.iload_n 1, 1) := by decide +kernel
theorem dX4_setSize_40 : decode cX4_setSize 40 = .ok (.if_icmp .le 13, 3) := by decide +kernel
theorem dX4_setSize_43 : decode cX4_setSize 43 = .ok (.new 60, 3) := by decide +kernel
theorem dX4_setSize_46 : decode cX4_setSize 46 = .ok (.dup, 1) := by decide +kernel
theorem dX4_setSize_47 : decode cX4_setSize 47 = .ok (.ldc 62, 2) := by decide +kernel
theorem dX4_setSize_49 : decode cX4_setSize 49 = .ok (.invokespecial 64, 3) := by decide +kernel
theorem dX4_setSize_52 : decode cX4_setSize 52 = .ok (.athrow, 1) := by decide +kernel
theorem dX4_setSize_53 : decode cX4_setSize 53 = .ok (.aload_n 0, 1) := by decide +kernel
theorem dX4_setSize_54 : decode cX4_setSize 54 = .ok (.invokevirtual 65, 3) := by decide +kernel
theorem dX4_setSize_57 : decode cX4_setSize 57 = .ok (.aload_n 0, 1) := by decide +kernel
theorem dX4_setSize_58 : decode cX4_setSize 58 = .ok (.getfield 10, 3) := by decide +kernel
theorem dX4_setSize_61 : decode cX4_setSize 61 = .ok (.getfield 68, 3) := by decide +kernel
theorem dX4_setSize_64 : decode cX4_setSize 64 = .ok (.istore_n 2, 1) := by decide +kernel
theorem dX4_setSize_65 : decode cX4_setSize 65 = .ok (.aload_n 0, 1) := by decide +kernel
theorem dX4_setSize_66 : decode cX4_setSize 66 = .ok (.getfield 10, 3) := by decide +kernel
theorem dX4_setSize_69 : decode cX4_setSize 69 = .ok (.iload_n 1, 1) := by decide +kernel
theorem dX4_setSize_70 : decode cX4_setSize 70 = .ok (.putfield 68, 3) := by decide +kernel
theorem dX4_setSize_73 : decode cX4_setSize 73 = .ok (.iload_n 2, 1) := by decide +kernel
theorem dX4_setSize_74 : decode cX4_setSize 74 = .ok (.ireturn, 1) := by decide +kernel
set_option maxRecDepth 20000 in
theorem ggX4_setBand_X4_save : GoodIn wsX4_setBand wsX4_save := goodIn_r _ [13, 14, 15, 16, 17, 5, 18, 19, 20, 21, 22, 23, 24, 25, 26, 27, 28, 29, 30, 31, 32, 33, 34, 35, 36, 37, 38, 39, 40, 41, 42, 43, 44, 45, 46, 47, 48, 49, 50, 51, 52, 53, 54, 55, 56, 57, 58, 59, 60, 61, 62, 63, 64, 65, 66, 67, 68, 69, 70, 71, 72, 73, 74, 75, 76, 77, 78, 79, 80, 81, 82, 83, 84, 85, 86, 87, 88, 89, 90, 91, 92, 93, 94, 95, 96, 97, 98, 99] (by decide +kernel) (by decide +kernel)
set_option maxRecDepth 20000 in
theorem gX4_setBand_X4_save : GoodIn wsX4_setBand (wsV RX4 65 RX4 yX4_save wsX4_save) := goodIn_app (goodIn_of _ (by decide +kernel)) ggX4_setBand_X4_save
theorem dX4_setBand_0 : decode cX4_setBand 0 = .ok (.iload_n 1, 1) := by decide +kernel
theorem dX4_setBand_1 : decode cX4_setBand 1 = .ok (.iconst 1, 1) := by decide +kernel
theorem dX4_setBand_2 : decode cX4_setBand 2 = .ok (.if_icmp .lt 8, 3) := by decide +kernel
theorem dX4_setBand_5 : decode cX4_setBand 5 = .ok (.iload_n 2, 1) := by decide +kernel
theorem dX4_setBand_6 : decode cX4_setBand 6 = .ok (.iload_n 1, 1) := by decide +kernel
theorem dX4_setBand_7 : decode cX4_setBand 7 = .ok (.if_icmp .gt 13, 3) := by decide +kernel
theorem dX4_setBand_10 : decode cX4_setBand 10 = .ok (.new 47, 3) := by decide +kernel
theorem dX4_setBand_13 : decode cX4_setBand 13 = .ok (.dup, 1) := by decide +kernel
theorem dX4_setBand_14 : decode cX4_setBand 14 = .ok (.ldc 71, 2) := by decide +kernel
theorem dX4_setBand_16 : decode cX4_setBand 16 = .ok (.invokespecial 51, 3) := by decide +kernel
theorem dX4_setBand_19 : decode cX4_setBand 19 = .ok (.athrow, 1) := by decide +kernel
theorem dX4_setBand_20 : decode cX4_setBand 20 = .ok (.iload_n 2, 1) := by decide +kernel
theorem dX4_setBand_21 : decode cX4_setBand 21 = .ok (.aload_n 0, 1) := by decide +kernel
theorem dX4_setBand_22 : decode cX4_setBand 22 = .ok (.getfield 10, 3) := by decide +kernel
theorem dX4_setBand_25 : decode cX4_setBand 25 = .ok (.getfield 68, 3) := by decide +kernel
theorem dX4_setBand_28 : decode cX4_setBand 28 = .ok (.if_icmp .le 13, 3) := by decide +kernel
theorem dX4_setBand_31 : decode cX4_setBand 31 = .ok (.new 60, 3) := by decide +kernel
theorem dX4_setBand_34 : decode cX4_setBand 34 = .ok (.dup, 1) := by decide +kernel
theorem dX4_setBand_35 : decode cX4_setBand 35 = .ok (.ldc 73, 2) := by decide +kernel
theorem dX4_setBand_37 : decode cX4_setBand 37 = .ok (.invokespecial 64, 3) := by decide +kernel
theorem dX4_setBand_40 : decode cX4_setBand 40 = .ok (.athrow, 1) := by decide +kernel
theorem dX4_setBand_41 : decode cX4_setBand 41 = .ok (.aload_n 0, 1) := by decide +kernel
theorem dX4_setBand_42 : decode cX4_setBand 42 = .ok (.invokevirtual 65, 3) := by decide +kernel
theorem dX4_setBand_45 : decode cX4_setBand 45 = .ok (.aload_n 0, 1) := by decide +kernel
theorem dX4_setBand_46 : decode cX4_setBand 46 = .ok (.getfield 10, 3) := by decide +kernel
theorem dX4_setBand_49 : decode cX4_setBand 49 = .ok (.getfield 57, 3) := by decide +kernel
theorem dX4_setBand_52 : decode cX4_setBand 52 = .ok (.aload_n 0, 1) := by decide +kernel
theorem dX4_setBand_53 : decode cX4_setBand 53 = .ok (.getfield 10, 3) := by decide +kernel
theorem dX4_setBand_56 : decode cX4_setBand 56 = .ok (.getfield 75, 3) := by decide +kernel
theorem dX4_setBand_59 : decode cX4_setBand 59 = .ok (.isub, 1) := by decide +kernel
theorem dX4_setBand_60 : decode cX4_setBand 60 = .ok (.istore_n 3, 1) := by decide +kernel
theorem dX4_setBand_61 : decode cX4_setBand 61 = .ok (.aload_n 0, 1) := by decide +kernel
theorem dX4_setBand_62 : decode cX4_setBand 62 = .ok (.getfield 10, 3) := by decide +kernel
theorem dX4_setBand_65 : decode cX4_setBand 65 = .ok (.iload_n 1, 1) := by decide +kernel
theorem dX4_setBand_66 : decode cX4_setBand 66 = .ok (.putfield 75, 3) := by decide +kernel
theorem dX4_setBand_69 : decode cX4_setBand 69 = .ok (.aload_n 0, 1) := by decide +kernel
theorem dX4_setBand_70 : decode cX4_setBand 70 = .ok (.getfield 10, 3) := by decide +kernel
theorem dX4_setBand_73 : decode cX4_setBand 73 = .ok (.iload_n 2, 1) := by decide +kernel
theorem dX4_setBand_74 : decode cX4_setBand 74 = .ok (.putfield 57, 3) := by decide +kernel
theorem dX4_setBand_77 : decode cX4_setBand 77 = .ok (.iload_n 3, 1) := by decide +kernel
theorem dX4_setBand_78 : decode cX4_setBand 78 = .ok (.ireturn, 1) := by decide +kernel
set_option maxRecDepth 20000 in
theorem ggX4_setLevel_X4_save : GoodIn wsX4_setLevel wsX4_save := goodIn_r _ [12, 13, 14, 15, 16, 5, 17, 18, 19, 20, 21, 22, 23, 24, 25, 26, 27, 28, 29, 30, 31, 32, 33, 34, 35, 36, 37, 38, 39, 40, 41, 42, 43, 44, 45, 46, 47, 48, 49, 50, 51, 52, 53, 54, 55, 56, 57, 58, 59, 60, 61, 62, 63, 64, 65, 66, 67, 68, 69, 70, 71, 72, 73, 74, 75, 76, 77, 78, 79, 80, 81, 82, 83, 84, 85, 86, 87, 88, 89, 90, 91, 92, 93, 94, 95, 96, 97, 98] (by decide +kernel) (by decide +kernel)
set_option maxRecDepth 20000 in
theorem gX4_setLevel_X4_save : GoodIn wsX4_setLevel (wsV RX4 65 RX4 yX4_save wsX4_save) := goodIn_app (goodIn_of _ (by decide +kernel)) ggX4_setLevel_X4_save
theorem dX4_setLevel_0 : decode cX4_setLevel 0 = .ok (.iload_n 1, 1) := by decide +kernel
theorem dX4_setLevel_1 : decode cX4_setLevel 1 = .ok (.ifCond .ge 13, 3) := by decide +kernel
theorem dX4_setLevel_4 : decode cX4_setLevel 4 = .ok (.new 47, 3) := by decide +kernel
theorem dX4_setLevel_7 : decode cX4_setLevel 7 = .ok (.dup, 1) := by decide +kernel

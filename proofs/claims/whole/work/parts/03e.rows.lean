theorem dX4_wouldBeKept_54 : decode cX4_wouldBeKept 54 = .ok (.iconst 0, 1) := by decide +kernel
theorem dX4_wouldBeKept_55 : decode cX4_wouldBeKept 55 = .ok (.ireturn, 1) := by decide +kernel
theorem dX4_wouldBeKept_56 : decode cX4_wouldBeKept 56 = .ok (.iinc 3 1, 3) := by decide +kernel
theorem dX4_wouldBeKept_59 : decode cX4_wouldBeKept 59 = .ok (.goto (-35), 3) := by decide +kernel
theorem dX4_wouldBeKept_62 : decode cX4_wouldBeKept 62 = .ok (.iconst 1, 1) := by decide +kernel
theorem dX4_wouldBeKept_63 : decode cX4_wouldBeKept 63 = .ok (.ireturn, 1) := by decide +kernel
set_option maxRecDepth 20000 in
theorem ggX4_carriesOut_X1_part : GoodIn wsX4_carriesOut wsX1_part := goodIn_r _ [10, 11, 179, 180, 181, 182, 183, 184] (by decide +kernel) (by decide +kernel)
set_option maxRecDepth 20000 in
theorem gX4_carriesOut_X1_part : GoodIn wsX4_carriesOut (wsV RX4 257 RX1 yX1_part wsX1_part) := goodIn_app (goodIn_of _ (by decide +kernel)) ggX4_carriesOut_X1_part
set_option maxRecDepth 20000 in
theorem ggX4_carriesOut_X4_hasTimeFor : GoodIn wsX4_carriesOut wsX4_hasTimeFor := goodIn_r _ [16, 2, 17, 18, 147, 148, 149, 150, 151, 152, 153, 154, 155, 156, 157, 158, 159, 160, 161, 162, 163, 164, 165, 166, 167, 168, 169] (by decide +kernel) (by decide +kernel)
set_option maxRecDepth 20000 in
theorem gX4_carriesOut_X4_hasTimeFor : GoodIn wsX4_carriesOut (wsV RX4 146 RX4 yX4_hasTimeFor wsX4_hasTimeFor) := goodIn_app (goodIn_of _ (by decide +kernel)) ggX4_carriesOut_X4_hasTimeFor
set_option maxRecDepth 20000 in
theorem ggX4_carriesOut_X3_letPass : GoodIn wsX4_carriesOut wsX3_letPass := goodIn_r _ [23, 24, 25, 26, 22, 27, 28, 29, 30, 31, 32, 33, 34, 35, 36, 37, 38, 39, 40, 41, 42, 43, 44, 45, 46, 47, 48, 49, 50, 51, 52, 53, 54, 55, 56, 57, 58, 59, 60, 61, 62, 63, 64, 65, 66, 67, 68, 69, 70, 71, 72, 73, 74, 75, 76, 77, 78, 79, 80, 81, 82, 83, 84, 85, 86, 87, 88, 89, 90, 91, 92, 93, 94, 95, 96, 97, 98, 99, 100, 101, 102, 103, 104, 105, 106, 107, 108, 109, 110, 111, 112, 113, 114, 115, 116, 117, 118, 119, 120, 121, 122, 123, 124, 125, 126, 127, 128, 129, 130, 131, 132, 133, 155, 156, 157, 158, 159, 160, 161, 162, 163, 164, 165, 166, 167, 168, 169, 170, 171, 172, 173, 174, 175, 176, 177, 178, 185, 186] (by decide +kernel) (by decide +kernel)
set_option maxRecDepth 20000 in
theorem gX4_carriesOut_X3_letPass : GoodIn wsX4_carriesOut (wsV RX4 154 RX3 yX3_letPass wsX3_letPass) := goodIn_app (goodIn_of _ (by decide +kernel)) ggX4_carriesOut_X3_letPass
set_option maxRecDepth 20000 in
theorem ggX4_carriesOut_X4_isPump : GoodIn wsX4_carriesOut wsX4_isPump := goodIn_r _ [137, 2, 3, 138, 86, 87, 44, 88, 46, 147, 148, 149, 150, 151, 152, 153, 154, 155, 156, 157, 158, 159, 160, 161, 162, 163, 164, 165, 166, 167, 168, 169, 170, 171, 172, 173, 174, 175, 176, 177, 178] (by decide +kernel) (by decide +kernel)
set_option maxRecDepth 20000 in
theorem gX4_carriesOut_X4_isPump : GoodIn wsX4_carriesOut (wsV RX4 125 RX4 yX4_isPump wsX4_isPump) := goodIn_app (goodIn_of _ (by decide +kernel)) ggX4_carriesOut_X4_isPump
set_option maxRecDepth 20000 in
theorem ggX4_carriesOut_X4_isInService : GoodIn wsX4_carriesOut wsX4_isInService := goodIn_r _ [142, 2, 3, 5, 134, 135, 136, 15, 137, 138, 86, 87, 44, 88, 46, 147, 148, 149, 150, 151, 152, 153, 154, 155, 156, 157, 158, 159, 160, 161, 162, 163, 164, 165, 166, 167, 168, 169, 170, 171, 172, 173, 174, 175, 176, 177, 178] (by decide +kernel) (by decide +kernel)
set_option maxRecDepth 20000 in
theorem gX4_carriesOut_X4_isInService : GoodIn wsX4_carriesOut (wsV RX4 136 RX4 yX4_isInService wsX4_isInService) := goodIn_app (goodIn_of _ (by decide +kernel)) ggX4_carriesOut_X4_isInService
set_option maxRecDepth 20000 in
theorem ggX4_carriesOut_X3_changeDemand : GoodIn wsX4_carriesOut wsX3_changeDemand := goodIn_r _ [146, 133, 129, 130, 131, 22, 132, 155, 156, 157, 158, 159, 160, 161, 162, 163, 164, 165, 166, 167, 168, 169] (by decide +kernel) (by decide +kernel)
set_option maxRecDepth 20000 in
theorem gX4_carriesOut_X3_changeDemand : GoodIn wsX4_carriesOut (wsV RX4 103 RX3 yX3_changeDemand wsX3_changeDemand) := goodIn_app (goodIn_of _ (by decide +kernel)) ggX4_carriesOut_X3_changeDemand
theorem dX4_carriesOut_0 : decode cX4_carriesOut 0 = .ok (.aload_n 0, 1) := by decide +kernel
theorem dX4_carriesOut_1 : decode cX4_carriesOut 1 = .ok (.getfield 34, 3) := by decide +kernel
theorem dX4_carriesOut_4 : decode cX4_carriesOut 4 = .ok (.iload_n 1, 1) := by decide +kernel
theorem dX4_carriesOut_5 : decode cX4_carriesOut 5 = .ok (.iconst 1, 1) := by decide +kernel
theorem dX4_carriesOut_6 : decode cX4_carriesOut 6 = .ok (.invokevirtual 257, 3) := by decide +kernel
theorem dX4_carriesOut_9 : decode cX4_carriesOut 9 = .ok (.istore_n 2, 1) := by decide +kernel
theorem dX4_carriesOut_10 : decode cX4_carriesOut 10 = .ok (.aload_n 0, 1) := by decide +kernel
theorem dX4_carriesOut_11 : decode cX4_carriesOut 11 = .ok (.getfield 34, 3) := by decide +kernel
theorem dX4_carriesOut_14 : decode cX4_carriesOut 14 = .ok (.iload_n 1, 1) := by decide +kernel
theorem dX4_carriesOut_15 : decode cX4_carriesOut 15 = .ok (.iconst 2, 1) := by decide +kernel
theorem dX4_carriesOut_16 : decode cX4_carriesOut 16 = .ok (.invokevirtual 257, 3) := by decide +kernel
theorem dX4_carriesOut_19 : decode cX4_carriesOut 19 = .ok (.istore_n 3, 1) := by decide +kernel
theorem dX4_carriesOut_20 : decode cX4_carriesOut 20 = .ok (.aload_n 0, 1) := by decide +kernel
theorem dX4_carriesOut_21 : decode cX4_carriesOut 21 = .ok (.getfield 34, 3) := by decide +kernel
theorem dX4_carriesOut_24 : decode cX4_carriesOut 24 = .ok (.iload_n 1, 1) := by decide +kernel
theorem dX4_carriesOut_25 : decode cX4_carriesOut 25 = .ok (.iconst 0, 1) := by decide +kernel
theorem dX4_carriesOut_26 : decode cX4_carriesOut 26 = .ok (.invokevirtual 257, 3) := by decide +kernel
theorem dX4_carriesOut_29 : decode cX4_carriesOut 29 = .ok (.lookupswitch 154 #[(109, 43), (111, 63), (120, 88), (121, 121)], 43) := by decide +kernel
theorem dX4_carriesOut_72 : decode cX4_carriesOut 72 = .ok (.aload_n 0, 1) := by decide +kernel
theorem dX4_carriesOut_73 : decode cX4_carriesOut 73 = .ok (.iload_n 3, 1) := by decide +kernel
theorem dX4_carriesOut_74 : decode cX4_carriesOut 74 = .ok (.invokevirtual 146, 3) := by decide +kernel
theorem dX4_carriesOut_77 : decode cX4_carriesOut 77 = .ok (.ifCond .ne 5, 3) := by decide +kernel
theorem dX4_carriesOut_80 : decode cX4_carriesOut 80 = .ok (.iconst 0, 1) := by decide +kernel
theorem dX4_carriesOut_81 : decode cX4_carriesOut 81 = .ok (.ireturn, 1) := by decide +kernel
theorem dX4_carriesOut_82 : decode cX4_carriesOut 82 = .ok (.aload_n 0, 1) := by decide +kernel
theorem dX4_carriesOut_83 : decode cX4_carriesOut 83 = .ok (.getfield 10, 3) := by decide +kernel
theorem dX4_carriesOut_86 : decode cX4_carriesOut 86 = .ok (.iload_n 3, 1) := by decide +kernel
theorem dX4_carriesOut_87 : decode cX4_carriesOut 87 = .ok (.invokevirtual 154, 3) := by decide +kernel
theorem dX4_carriesOut_90 : decode cX4_carriesOut 90 = .ok (.iconst 1, 1) := by decide +kernel
theorem dX4_carriesOut_91 : decode cX4_carriesOut 91 = .ok (.ireturn, 1) := by decide +kernel
theorem dX4_carriesOut_92 : decode cX4_carriesOut 92 = .ok (.aload_n 0, 1) := by decide +kernel
theorem dX4_carriesOut_93 : decode cX4_carriesOut 93 = .ok (.iload_n 2, 1) := by decide +kernel
theorem dX4_carriesOut_94 : decode cX4_carriesOut 94 = .ok (.invokevirtual 125, 3) := by decide +kernel
theorem dX4_carriesOut_97 : decode cX4_carriesOut 97 = .ok (.ifCond .ne 5, 3) := by decide +kernel
theorem dX4_carriesOut_100 : decode cX4_carriesOut 100 = .ok (.iconst 0, 1) := by decide +kernel
theorem dX4_carriesOut_101 : decode cX4_carriesOut 101 = .ok (.ireturn, 1) := by decide +kernel
theorem dX4_carriesOut_102 : decode cX4_carriesOut 102 = .ok (.aload_n 0, 1) := by decide +kernel
theorem dX4_carriesOut_103 : decode cX4_carriesOut 103 = .ok (.getfield 10, 3) := by decide +kernel
theorem dX4_carriesOut_106 : decode cX4_carriesOut 106 = .ok (.getfield 111, 3) := by decide +kernel
theorem dX4_carriesOut_109 : decode cX4_carriesOut 109 = .ok (.getfield 132, 3) := by decide +kernel
theorem dX4_carriesOut_112 : decode cX4_carriesOut 112 = .ok (.iload_n 2, 1) := by decide +kernel
theorem dX4_carriesOut_113 : decode cX4_carriesOut 113 = .ok (.iload_n 3, 1) := by decide +kernel
theorem dX4_carriesOut_114 : decode cX4_carriesOut 114 = .ok (.iastore, 1) := by decide +kernel
theorem dX4_carriesOut_115 : decode cX4_carriesOut 115 = .ok (.iconst 1, 1) := by decide +kernel
theorem dX4_carriesOut_116 : decode cX4_carriesOut 116 = .ok (.ireturn, 1) := by decide +kernel
theorem dX4_carriesOut_117 : decode cX4_carriesOut 117 = .ok (.aload_n 0, 1) := by decide +kernel
theorem dX4_carriesOut_118 : decode cX4_carriesOut 118 = .ok (.iload_n 2, 1) := by decide +kernel
theorem dX4_carriesOut_119 : decode cX4_carriesOut 119 = .ok (.invokevirtual 125, 3) := by decide +kernel
theorem dX4_carriesOut_122 : decode cX4_carriesOut 122 = .ok (.ifCond .eq 11, 3) := by decide +kernel
theorem dX4_carriesOut_125 : decode cX4_carriesOut 125 = .ok (.aload_n 0, 1) := by decide +kernel
theorem dX4_carriesOut_126 : decode cX4_carriesOut 126 = .ok (.iload_n 2, 1) := by decide +kernel
theorem dX4_carriesOut_127 : decode cX4_carriesOut 127 = .ok (.invokevirtual 136, 3) := by decide +kernel
theorem dX4_carriesOut_130 : decode cX4_carriesOut 130 = .ok (.ifCond .ne 5, 3) := by decide +kernel
theorem dX4_carriesOut_133 : decode cX4_carriesOut 133 = .ok (.iconst 0, 1) := by decide +kernel
theorem dX4_carriesOut_134 : decode cX4_carriesOut 134 = .ok (.ireturn, 1) := by decide +kernel
theorem dX4_carriesOut_135 : decode cX4_carriesOut 135 = .ok (.aload_n 0, 1) := by decide +kernel
theorem dX4_carriesOut_136 : decode cX4_carriesOut 136 = .ok (.getfield 10, 3) := by decide +kernel
theorem dX4_carriesOut_139 : decode cX4_carriesOut 139 = .ok (.getfield 111, 3) := by decide +kernel
theorem dX4_carriesOut_142 : decode cX4_carriesOut 142 = .ok (.getfield 141, 3) := by decide +kernel
theorem dX4_carriesOut_145 : decode cX4_carriesOut 145 = .ok (.iload_n 2, 1) := by decide +kernel
theorem dX4_carriesOut_146 : decode cX4_carriesOut 146 = .ok (.iconst 2, 1) := by decide +kernel
theorem dX4_carriesOut_147 : decode cX4_carriesOut 147 = .ok (.iastore, 1) := by decide +kernel
theorem dX4_carriesOut_148 : decode cX4_carriesOut 148 = .ok (.iconst 1, 1) := by decide +kernel
theorem dX4_carriesOut_149 : decode cX4_carriesOut 149 = .ok (.ireturn, 1) := by decide +kernel
theorem dX4_carriesOut_150 : decode cX4_carriesOut 150 = .ok (.aload_n 0, 1) := by decide +kernel
theorem dX4_carriesOut_151 : decode cX4_carriesOut 151 = .ok (.iload_n 2, 1) := by decide +kernel
theorem dX4_carriesOut_152 : decode cX4_carriesOut 152 = .ok (.invokevirtual 125, 3) := by decide +kernel
theorem dX4_carriesOut_155 : decode cX4_carriesOut 155 = .ok (.ifCond .eq 11, 3) := by decide +kernel
theorem dX4_carriesOut_158 : decode cX4_carriesOut 158 = .ok (.aload_n 0, 1) := by decide +kernel
theorem dX4_carriesOut_159 : decode cX4_carriesOut 159 = .ok (.iload_n 2, 1) := by decide +kernel
theorem dX4_carriesOut_160 : decode cX4_carriesOut 160 = .ok (.invokevirtual 136, 3) := by decide +kernel
theorem dX4_carriesOut_163 : decode cX4_carriesOut 163 = .ok (.ifCond .eq 5, 3) := by decide +kernel
theorem dX4_carriesOut_166 : decode cX4_carriesOut 166 = .ok (.iconst 0, 1) := by decide +kernel
theorem dX4_carriesOut_167 : decode cX4_carriesOut 167 = .ok (.ireturn, 1) := by decide +kernel
theorem dX4_carriesOut_168 : decode cX4_carriesOut 168 = .ok (.aload_n 0, 1) := by decide +kernel
theorem dX4_carriesOut_169 : decode cX4_carriesOut 169 = .ok (.getfield 10, 3) := by decide +kernel
theorem dX4_carriesOut_172 : decode cX4_carriesOut 172 = .ok (.getfield 111, 3) := by decide +kernel
theorem dX4_carriesOut_175 : decode cX4_carriesOut 175 = .ok (.getfield 141, 3) := by decide +kernel
theorem dX4_carriesOut_178 : decode cX4_carriesOut 178 = .ok (.iload_n 2, 1) := by decide +kernel
theorem dX4_carriesOut_179 : decode cX4_carriesOut 179 = .ok (.iconst 0, 1) := by decide +kernel
theorem dX4_carriesOut_180 : decode cX4_carriesOut 180 = .ok (.iastore, 1) := by decide +kernel
theorem dX4_carriesOut_181 : decode cX4_carriesOut 181 = .ok (.iconst 1, 1) := by decide +kernel
theorem dX4_carriesOut_182 : decode cX4_carriesOut 182 = .ok (.ireturn, 1) := by decide +kernel
theorem dX4_carriesOut_183 : decode cX4_carriesOut 183 = .ok (.aload_n 0, 1) := by decide +kernel
theorem dX4_carriesOut_184 : decode cX4_carriesOut 184 = .ok (.getfield 10, 3) := by decide +kernel
theorem dX4_carriesOut_187 : decode cX4_carriesOut 187 = .ok (.iload_n 2, 1) := by decide +kernel
theorem dX4_carriesOut_188 : decode cX4_carriesOut 188 = .ok (.iload_n 3, 1) := by decide +kernel
theorem dX4_carriesOut_189 : decode cX4_carriesOut 189 = .ok (.invokevirtual 103, 3) := by decide +kernel
theorem dX4_carriesOut_192 : decode cX4_carriesOut 192 = .ok (.pop, 1) := by decide +kernel
theorem dX4_carriesOut_193 : decode cX4_carriesOut 193 = .ok (.iconst 1, 1) := by decide +kernel
theorem dX4_carriesOut_194 : decode cX4_carriesOut 194 = .ok (.ireturn, 1) := by decide +kernel
theorem dX5_init_0 : decode cX5_init 0 = .ok (.aload_n 0, 1) := by decide +kernel
theorem dX5_init_1 : decode cX5_init 1 = .ok (.invokespecial 1, 3) := by decide +kernel
theorem dX5_init_4 : decode cX5_init 4 = .ok (.aload_n 0, 1) := by decide +kernel
theorem dX5_init_5 : decode cX5_init 5 = .ok (.sipush 138, 3) := by decide +kernel
theorem dX5_init_8 : decode cX5_init 8 = .ok (.newarray .long, 2) := by decide +kernel
theorem dX5_init_10 : decode cX5_init 10 = .ok (.putfield 7, 3) := by decide +kernel
theorem dX5_init_13 : decode cX5_init 13 = .ok (.aload_n 0, 1) := by decide +kernel
theorem dX5_init_14 : decode cX5_init 14 = .ok (.sipush 138, 3) := by decide +kernel
theorem dX5_init_17 : decode cX5_init 17 = .ok (.newarray .long, 2) := by decide +kernel
theorem dX5_init_19 : decode cX5_init 19 = .ok (.putfield 13, 3) := by decide +kernel
theorem dX5_init_22 : decode cX5_init 22 = .ok (.aload_n 0, 1) := by decide +kernel
theorem dX5_init_23 : decode cX5_init 23 = .ok (.sipush 552, 3) := by decide +kernel
theorem dX5_init_26 : decode cX5_init 26 = .ok (.newarray .long, 2) := by decide +kernel
theorem dX5_init_28 : decode cX5_init 28 = .ok (.putfield 16, 3) := by decide +kernel
theorem dX5_init_31 : decode cX5_init 31 = .ok (.aload_n 0, 1) := by decide +kernel
theorem dX5_init_32 : decode cX5_init 32 = .ok (.bipush 100, 2) := by decide +kernel
theorem dX5_init_34 : decode cX5_init 34 = .ok (.newarray .int, 2) := by decide +kernel
theorem dX5_init_36 : decode cX5_init 36 = .ok (.putfield 19, 3) := by decide +kernel
theorem dX5_init_39 : decode cX5_init 39 = .ok (.aload_n 0, 1) := by decide +kernel
theorem dX5_init_40 : decode cX5_init 40 = .ok (.bipush 34, 2) := by decide +kernel
theorem dX5_init_42 : decode cX5_init 42 = .ok (.newarray .int, 2) := by decide +kernel
theorem dX5_init_44 : decode cX5_init 44 = .ok (.putfield 23, 3) := by decide +kernel
theorem dX5_init_47 : decode cX5_init 47 = .ok (.aload_n 0, 1) := by decide +kernel
theorem dX5_init_48 : decode cX5_init 48 = .ok (.bipush 34, 2) := by decide +kernel
theorem dX5_init_50 : decode cX5_init 50 = .ok (.newarray .int, 2) := by decide +kernel
theorem dX5_init_52 : decode cX5_init 52 = .ok (.putfield 26, 3) := by decide +kernel
theorem dX5_init_55 : decode cX5_init 55 = .ok (.aload_n 0, 1) := by decide +kernel
theorem dX5_init_56 : decode cX5_init 56 = .ok (.bipush 34, 2) := by decide +kernel
theorem dX5_init_58 : decode cX5_init 58 = .ok (.newarray .int, 2) := by decide +kernel
theorem dX5_init_60 : decode cX5_init 60 = .ok (.putfield 29, 3) := by decide +kernel
theorem dX5_init_63 : decode cX5_init 63 = .ok (.aload_n 0, 1) := by decide +kernel
theorem dX5_init_64 : decode cX5_init 64 = .ok (.getfield 7, 3) := by decide +kernel
theorem dX5_init_67 : decode cX5_init 67 = .ok (.iconst 0, 1) := by decide +kernel
theorem dX5_init_68 : decode cX5_init 68 = .ok (.ldc2_w 32, 3) := by decide +kernel
theorem dX5_init_71 : decode cX5_init 71 = .ok (.lastore, 1) := by decide +kernel
theorem dX5_init_72 : decode cX5_init 72 = .ok (.aload_n 0, 1) := by decide +kernel
theorem dX5_init_73 : decode cX5_init 73 = .ok (.getfield 7, 3) := by decide +kernel
theorem dX5_init_76 : decode cX5_init 76 = .ok (.iconst 1, 1) := by decide +kernel
theorem dX5_init_77 : decode cX5_init 77 = .ok (.ldc2_w 34, 3) := by decide +kernel
theorem dX5_init_80 : decode cX5_init 80 = .ok (.lastore, 1) := by decide +kernel
theorem dX5_init_81 : decode cX5_init 81 = .ok (.aload_n 0, 1) := by decide +kernel
theorem dX5_init_82 : decode cX5_init 82 = .ok (.getfield 7, 3) := by decide +kernel
theorem dX5_init_85 : decode cX5_init 85 = .ok (.iconst 2, 1) := by decide +kernel
theorem dX5_init_86 : decode cX5_init 86 = .ok (.ldc2_w 36, 3) := by decide +kernel
theorem dX5_init_89 : decode cX5_init 89 = .ok (.lastore, 1) := by decide +kernel
theorem dX5_init_90 : decode cX5_init 90 = .ok (.aload_n 0, 1) := by decide +kernel
theorem dX5_init_91 : decode cX5_init 91 = .ok (.getfield 7, 3) := by decide +kernel
theorem dX5_init_94 : decode cX5_init 94 = .ok (.iconst 3, 1) := by decide +kernel
theorem dX5_init_95 : decode cX5_init 95 = .ok (.ldc2_w 38, 3) := by decide +kernel
theorem dX5_init_98 : decode cX5_init 98 = .ok (.lastore, 1) := by decide +kernel
theorem dX5_init_99 : decode cX5_init 99 = .ok (.aload_n 0, 1) := by decide +kernel
theorem dX5_init_100 : decode cX5_init 100 = .ok (.getfield 7, 3) := by decide +kernel
theorem dX5_init_103 : decode cX5_init 103 = .ok (.iconst 4, 1) := by decide +kernel
theorem dX5_init_104 : decode cX5_init 104 = .ok (.ldc2_w 40, 3) := by decide +kernel
theorem dX5_init_107 : decode cX5_init 107 = .ok (.lastore, 1) := by decide +kernel
theorem dX5_init_108 : decode cX5_init 108 = .ok (.aload_n 0, 1) := by decide +kernel
theorem dX5_init_109 : decode cX5_init 109 = .ok (.getfield 7, 3) := by decide +kernel
theorem dX5_init_112 : decode cX5_init 112 = .ok (.bipush 6, 2) := by decide +kernel
theorem dX5_init_114 : decode cX5_init 114 = .ok (.lconst 1, 1) := by decide +kernel
theorem dX5_init_115 : decode cX5_init 115 = .ok (.lastore, 1) := by decide +kernel
theorem dX5_init_116 : decode cX5_init 116 = .ok (.iconst 0, 1) := by decide +kernel
theorem dX5_init_117 : decode cX5_init 117 = .ok (.istore_n 1, 1) := by decide +kernel
theorem dX5_init_118 : decode cX5_init 118 = .ok (.iload_n 1, 1) := by decide +kernel
theorem dX5_init_119 : decode cX5_init 119 = .ok (.bipush 24, 2) := by decide +kernel
theorem dX5_init_121 : decode cX5_init 121 = .ok (.if_icmp .ge 21, 3) := by decide +kernel
theorem dX5_init_124 : decode cX5_init 124 = .ok (.aload_n 0, 1) := by decide +kernel
theorem dX5_init_125 : decode cX5_init 125 = .ok (.getfield 7, 3) := by decide +kernel
theorem dX5_init_128 : decode cX5_init 128 = .ok (.bipush 24, 2) := by decide +kernel
theorem dX5_init_130 : decode cX5_init 130 = .ok (.iload_n 1, 1) := by decide +kernel
theorem dX5_init_131 : decode cX5_init 131 = .ok (.iadd, 1) := by decide +kernel
theorem dX5_init_132 : decode cX5_init 132 = .ok (.ldc2_w 42, 3) := by decide +kernel
theorem dX5_init_135 : decode cX5_init 135 = .ok (.lastore, 1) := by decide +kernel
theorem dX5_init_136 : decode cX5_init 136 = .ok (.iinc 1 1, 3) := by decide +kernel
theorem dX5_init_139 : decode cX5_init 139 = .ok (.goto (-21), 3) := by decide +kernel
theorem dX5_init_142 : decode cX5_init 142 = .ok (.return_, 1) := by decide +kernel
theorem dX5_thrown_0 : decode cX5_thrown 0 = .ok (.aload_n 0, 1) := by decide +kernel
theorem dX5_thrown_1 : decode cX5_thrown 1 = .ok (.getfield 44, 3) := by decide +kernel
theorem dX5_thrown_4 : decode cX5_thrown 4 = .ok (.ireturn, 1) := by decide +kernel
theorem dX5_in_0 : decode cX5_in 0 = .ok (.lload_n 0, 1) := by decide +kernel
theorem dX5_in_1 : decode cX5_in 1 = .ok (.lload_n 2, 1) := by decide +kernel
theorem dX5_in_2 : decode cX5_in 2 = .ok (.lcmp, 1) := by decide +kernel
theorem dX5_in_3 : decode cX5_in 3 = .ok (.ifCond .lt 14, 3) := by decide +kernel
theorem dX5_in_6 : decode cX5_in 6 = .ok (.lload_n 0, 1) := by decide +kernel
theorem dX5_in_7 : decode cX5_in 7 = .ok (.lload 4, 2) := by decide +kernel
theorem dX5_in_9 : decode cX5_in 9 = .ok (.lcmp, 1) := by decide +kernel
theorem dX5_in_10 : decode cX5_in 10 = .ok (.ifCond .gt 7, 3) := by decide +kernel
theorem dX5_in_13 : decode cX5_in 13 = .ok (.iconst 1, 1) := by decide +kernel
theorem dX5_in_14 : decode cX5_in 14 = .ok (.goto 4, 3) := by decide +kernel
theorem dX5_in_17 : decode cX5_in 17 = .ok (.iconst 0, 1) := by decide +kernel
theorem dX5_in_18 : decode cX5_in 18 = .ok (.ireturn, 1) := by decide +kernel
theorem dX5_goes_0 : decode cX5_goes 0 = .ok (.aload_n 0, 1) := by decide +kernel
theorem dX5_goes_1 : decode cX5_goes 1 = .ok (.iload_n 1, 1) := by decide +kernel
theorem dX5_goes_2 : decode cX5_goes 2 = .ok (.ifCond .eq 7, 3) := by decide +kernel
theorem dX5_goes_5 : decode cX5_goes 5 = .ok (.iconst 1, 1) := by decide +kernel
theorem dX5_goes_6 : decode cX5_goes 6 = .ok (.goto 12, 3) := by decide +kernel
theorem dX5_goes_9 : decode cX5_goes 9 = .ok (.iload_n 2, 1) := by decide +kernel
theorem dX5_goes_10 : decode cX5_goes 10 = .ok (.ifCond .eq 7, 3) := by decide +kernel
theorem dX5_goes_13 : decode cX5_goes 13 = .ok (.iconst 2, 1) := by decide +kernel
theorem dX5_goes_14 : decode cX5_goes 14 = .ok (.goto 4, 3) := by decide +kernel
theorem dX5_goes_17 : decode cX5_goes 17 = .ok (.iconst 0, 1) := by decide +kernel
theorem dX5_goes_18 : decode cX5_goes 18 = .ok (.putfield 44, 3) := by decide +kernel
theorem dX5_goes_21 : decode cX5_goes 21 = .ok (.aload_n 0, 1) := by decide +kernel
theorem dX5_goes_22 : decode cX5_goes 22 = .ok (.getfield 44, 3) := by decide +kernel
theorem dX5_goes_25 : decode cX5_goes 25 = .ok (.ifCond .ne 7, 3) := by decide +kernel
theorem dX5_goes_28 : decode cX5_goes 28 = .ok (.iconst 1, 1) := by decide +kernel
theorem dX5_goes_29 : decode cX5_goes 29 = .ok (.goto 4, 3) := by decide +kernel
theorem dX5_goes_32 : decode cX5_goes 32 = .ok (.iconst 0, 1) := by decide +kernel
theorem dX5_goes_33 : decode cX5_goes 33 = .ok (.ireturn, 1) := by decide +kernel
theorem dX5_p_0 : decode cX5_p 0 = .ok (.bipush 48, 2) := by decide +kernel
theorem dX5_p_2 : decode cX5_p 2 = .ok (.bipush 8, 2) := by decide +kernel
theorem dX5_p_4 : decode cX5_p 4 = .ok (.iload_n 0, 1) := by decide +kernel
theorem dX5_p_5 : decode cX5_p 5 = .ok (.imul, 1) := by decide +kernel
theorem dX5_p_6 : decode cX5_p 6 = .ok (.iadd, 1) := by decide +kernel
theorem dX5_p_7 : decode cX5_p 7 = .ok (.iload_n 1, 1) := by decide +kernel
theorem dX5_p_8 : decode cX5_p 8 = .ok (.iadd, 1) := by decide +kernel
theorem dX5_p_9 : decode cX5_p 9 = .ok (.ireturn, 1) := by decide +kernel
set_option maxRecDepth 20000 in
theorem ggX5_isPump_X5_in : GoodIn wsX5_isPump wsX5_in := goodIn_r _ [5] (by decide +kernel) (by decide +kernel)
set_option maxRecDepth 20000 in
theorem gX5_isPump_X5_in : GoodIn wsX5_isPump (va_wsS RX5 48 yX5_in wsX5_in) := goodIn_app (goodIn_of _ (by decide +kernel)) ggX5_isPump_X5_in
theorem dX5_isPump_0 : decode cX5_isPump 0 = .ok (.iload_n 1, 1) := by decide +kernel
theorem dX5_isPump_1 : decode cX5_isPump 1 = .ok (.i2l, 1) := by decide +kernel
theorem dX5_isPump_2 : decode cX5_isPump 2 = .ok (.lconst 0, 1) := by decide +kernel
theorem dX5_isPump_3 : decode cX5_isPump 3 = .ok (.aload_n 0, 1) := by decide +kernel
theorem dX5_isPump_4 : decode cX5_isPump 4 = .ok (.getfield 7, 3) := by decide +kernel
theorem dX5_isPump_7 : decode cX5_isPump 7 = .ok (.bipush 7, 2) := by decide +kernel
theorem dX5_isPump_9 : decode cX5_isPump 9 = .ok (.laload, 1) := by decide +kernel
theorem dX5_isPump_10 : decode cX5_isPump 10 = .ok (.lconst 1, 1) := by decide +kernel
theorem dX5_isPump_11 : decode cX5_isPump 11 = .ok (.lsub, 1) := by decide +kernel
theorem dX5_isPump_12 : decode cX5_isPump 12 = .ok (.invokestatic 48, 3) := by decide +kernel
theorem dX5_isPump_15 : decode cX5_isPump 15 = .ok (.ireturn, 1) := by decide +kernel
theorem dX5_saves_0 : decode cX5_saves 0 = .ok (.aload_n 0, 1) := by decide +kernel
theorem dX5_saves_1 : decode cX5_saves 1 = .ok (.getfield 52, 3) := by decide +kernel
theorem dX5_saves_4 : decode cX5_saves 4 = .ok (.iconst 4, 1) := by decide +kernel
theorem dX5_saves_5 : decode cX5_saves 5 = .ok (.if_icmp .ne 44, 3) := by decide +kernel
theorem dX5_saves_8 : decode cX5_saves 8 = .ok (.iconst 0, 1) := by decide +kernel
theorem dX5_saves_9 : decode cX5_saves 9 = .ok (.istore_n 1, 1) := by decide +kernel
theorem dX5_saves_10 : decode cX5_saves 10 = .ok (.iload_n 1, 1) := by decide +kernel
theorem dX5_saves_11 : decode cX5_saves 11 = .ok (.sipush 414, 3) := by decide +kernel
theorem dX5_saves_14 : decode cX5_saves 14 = .ok (.if_icmp .ge 25, 3) := by decide +kernel
theorem dX5_saves_17 : decode cX5_saves 17 = .ok (.aload_n 0, 1) := by decide +kernel
theorem dX5_saves_18 : decode cX5_saves 18 = .ok (.getfield 16, 3) := by decide +kernel
theorem dX5_saves_21 : decode cX5_saves 21 = .ok (.iload_n 1, 1) := by decide +kernel
theorem dX5_saves_22 : decode cX5_saves 22 = .ok (.aload_n 0, 1) := by decide +kernel
theorem dX5_saves_23 : decode cX5_saves 23 = .ok (.getfield 16, 3) := by decide +kernel
theorem dX5_saves_26 : decode cX5_saves 26 = .ok (.iload_n 1, 1) := by decide +kernel
theorem dX5_saves_27 : decode cX5_saves 27 = .ok (.sipush 138, 3) := by decide +kernel
theorem dX5_saves_30 : decode cX5_saves 30 = .ok (.iadd, 1) := by decide +kernel
theorem dX5_saves_31 : decode cX5_saves 31 = .ok (.laload, 1) := by decide +kernel
theorem dX5_saves_32 : decode cX5_saves 32 = .ok (.lastore, 1) := by decide +kernel
theorem dX5_saves_33 : decode cX5_saves 33 = .ok (.iinc 1 1, 3) := by decide +kernel
theorem dX5_saves_36 : decode cX5_saves 36 = .ok (.goto (-26), 3) := by decide +kernel
theorem dX5_saves_39 : decode cX5_saves 39 = .ok (.aload_n 0, 1) := by decide +kernel
theorem dX5_saves_40 : decode cX5_saves 40 = .ok (.dup, 1) := by decide +kernel
theorem dX5_saves_41 : decode cX5_saves 41 = .ok (.getfield 52, 3) := by decide +kernel
theorem dX5_saves_44 : decode cX5_saves 44 = .ok (.iconst 1, 1) := by decide +kernel
theorem dX5_saves_45 : decode cX5_saves 45 = .ok (.isub, 1) := by decide +kernel
theorem dX5_saves_46 : decode cX5_saves 46 = .ok (.putfield 52, 3) := by decide +kernel
theorem dX5_saves_49 : decode cX5_saves 49 = .ok (.iconst 0, 1) := by decide +kernel
theorem dX5_saves_50 : decode cX5_saves 50 = .ok (.istore_n 1, 1) := by decide +kernel
theorem dX5_saves_51 : decode cX5_saves 51 = .ok (.iload_n 1, 1) := by decide +kernel
theorem dX5_saves_52 : decode cX5_saves 52 = .ok (.sipush 138, 3) := by decide +kernel
theorem dX5_saves_55 : decode cX5_saves 55 = .ok (.if_icmp .ge 30, 3) := by decide +kernel
theorem dX5_saves_58 : decode cX5_saves 58 = .ok (.aload_n 0, 1) := by decide +kernel
theorem dX5_saves_59 : decode cX5_saves 59 = .ok (.getfield 16, 3) := by decide +kernel
theorem dX5_saves_62 : decode cX5_saves 62 = .ok (.sipush 138, 3) := by decide +kernel
theorem dX5_saves_65 : decode cX5_saves 65 = .ok (.aload_n 0, 1) := by decide +kernel
theorem dX5_saves_66 : decode cX5_saves 66 = .ok (.getfield 52, 3) := by decide +kernel
theorem dX5_saves_69 : decode cX5_saves 69 = .ok (.imul, 1) := by decide +kernel
theorem dX5_saves_70 : decode cX5_saves 70 = .ok (.iload_n 1, 1) := by decide +kernel
theorem dX5_saves_71 : decode cX5_saves 71 = .ok (.iadd, 1) := by decide +kernel
theorem dX5_saves_72 : decode cX5_saves 72 = .ok (.aload_n 0, 1) := by decide +kernel
theorem dX5_saves_73 : decode cX5_saves 73 = .ok (.getfield 7, 3) := by decide +kernel
theorem dX5_saves_76 : decode cX5_saves 76 = .ok (.iload_n 1, 1) := by decide +kernel
theorem dX5_saves_77 : decode cX5_saves 77 = .ok (.laload, 1) := by decide +kernel
theorem dX5_saves_78 : decode cX5_saves 78 = .ok (.lastore, 1) := by decide +kernel
theorem dX5_saves_79 : decode cX5_saves 79 = .ok (.iinc 1 1, 3) := by decide +kernel
theorem dX5_saves_82 : decode cX5_saves 82 = .ok (.goto (-31), 3) := by decide +kernel
theorem dX5_saves_85 : decode cX5_saves 85 = .ok (.aload_n 0, 1) := by decide +kernel
theorem dX5_saves_86 : decode cX5_saves 86 = .ok (.dup, 1) := by decide +kernel
theorem dX5_saves_87 : decode cX5_saves 87 = .ok (.getfield 52, 3) := by decide +kernel
theorem dX5_saves_90 : decode cX5_saves 90 = .ok (.iconst 1, 1) := by decide +kernel
theorem dX5_saves_91 : decode cX5_saves 91 = .ok (.iadd, 1) := by decide +kernel
theorem dX5_saves_92 : decode cX5_saves 92 = .ok (.putfield 52, 3) := by decide +kernel
theorem dX5_saves_95 : decode cX5_saves 95 = .ok (.return_, 1) := by decide +kernel
set_option maxRecDepth 20000 in
theorem ggX5_puts_X5_saves : GoodIn wsX5_puts wsX5_saves := goodIn_r _ [6, 7, 8, 1, 9, 10, 11, 12, 13, 14, 15, 16, 17, 18, 19, 20, 21, 22] (by decide +kernel) (by decide +kernel)
set_option maxRecDepth 20000 in
theorem gX5_puts_X5_saves : GoodIn wsX5_puts (wsV RX5 55 RX5 yX5_saves wsX5_saves) := goodIn_app (goodIn_of _ (by decide +kernel)) ggX5_puts_X5_saves
theorem dX5_puts_0 : decode cX5_puts 0 = .ok (.aload_n 0, 1) := by decide +kernel
theorem dX5_puts_1 : decode cX5_puts 1 = .ok (.invokevirtual 55, 3) := by decide +kernel
theorem dX5_puts_4 : decode cX5_puts 4 = .ok (.aload_n 0, 1) := by decide +kernel
theorem dX5_puts_5 : decode cX5_puts 5 = .ok (.getfield 7, 3) := by decide +kernel
theorem dX5_puts_8 : decode cX5_puts 8 = .ok (.iload_n 1, 1) := by decide +kernel
theorem dX5_puts_9 : decode cX5_puts 9 = .ok (.laload, 1) := by decide +kernel
theorem dX5_puts_10 : decode cX5_puts 10 = .ok (.l2i, 1) := by decide +kernel
theorem dX5_puts_11 : decode cX5_puts 11 = .ok (.istore_n 3, 1) := by decide +kernel
theorem dX5_puts_12 : decode cX5_puts 12 = .ok (.aload_n 0, 1) := by decide +kernel
theorem dX5_puts_13 : decode cX5_puts 13 = .ok (.getfield 7, 3) := by decide +kernel
theorem dX5_puts_16 : decode cX5_puts 16 = .ok (.iload_n 1, 1) := by decide +kernel
theorem dX5_puts_17 : decode cX5_puts 17 = .ok (.iload_n 2, 1) := by decide +kernel
theorem dX5_puts_18 : decode cX5_puts 18 = .ok (.i2l, 1) := by decide +kernel
theorem dX5_puts_19 : decode cX5_puts 19 = .ok (.lastore, 1) := by decide +kernel
theorem dX5_puts_20 : decode cX5_puts 20 = .ok (.iload_n 3, 1) := by decide +kernel
theorem dX5_puts_21 : decode cX5_puts 21 = .ok (.ireturn, 1) := by decide +kernel
set_option maxRecDepth 20000 in
theorem ggX5_setSize_X5_in : GoodIn wsX5_setSize wsX5_in := goodIn_r _ [7] (by decide +kernel) (by decide +kernel)
set_option maxRecDepth 20000 in
theorem gX5_setSize_X5_in : GoodIn wsX5_setSize (va_wsS RX5 48 yX5_in wsX5_in) := goodIn_app (goodIn_of _ (by decide +kernel)) ggX5_setSize_X5_in
set_option maxRecDepth 20000 in
theorem ggX5_setSize_X5_goes : GoodIn wsX5_setSize wsX5_goes := goodIn_r _ [11, 12, 23, 24, 25, 26, 27, 28, 29, 30, 31, 32, 33, 34, 35, 36] (by decide +kernel) (by decide +kernel)
set_option maxRecDepth 20000 in
theorem gX5_setSize_X5_goes : GoodIn wsX5_setSize (wsV RX5 62 RX5 yX5_goes wsX5_goes) := goodIn_app (goodIn_of _ (by decide +kernel)) ggX5_setSize_X5_goes
set_option maxRecDepth 20000 in
theorem ggX5_setSize_X5_puts : GoodIn wsX5_setSize wsX5_puts := goodIn_r _ [16, 3, 17, 18, 19, 6, 20, 21, 22, 23, 24, 25, 26, 27, 28, 29, 30, 31, 32, 33, 34, 35, 36] (by decide +kernel) (by decide +kernel)
set_option maxRecDepth 20000 in
theorem gX5_setSize_X5_puts : GoodIn wsX5_setSize (wsV RX5 66 RX5 yX5_puts wsX5_puts) := goodIn_app (goodIn_of _ (by decide +kernel)) ggX5_setSize_X5_puts
theorem dX5_setSize_0 : decode cX5_setSize 0 = .ok (.aload_n 0, 1) := by decide +kernel
theorem dX5_setSize_1 : decode cX5_setSize 1 = .ok (.iload_n 1, 1) := by decide +kernel
theorem dX5_setSize_2 : decode cX5_setSize 2 = .ok (.i2l, 1) := by decide +kernel
theorem dX5_setSize_3 : decode cX5_setSize 3 = .ok (.ldc2_w 58, 3) := by decide +kernel
theorem dX5_setSize_6 : decode cX5_setSize 6 = .ok (.ldc2_w 60, 3) := by decide +kernel
theorem dX5_setSize_9 : decode cX5_setSize 9 = .ok (.invokestatic 48, 3) := by decide +kernel
theorem dX5_setSize_12 : decode cX5_setSize 12 = .ok (.ifCond .ne 7, 3) := by decide +kernel
theorem dX5_setSize_15 : decode cX5_setSize 15 = .ok (.iconst 1, 1) := by decide +kernel
theorem dX5_setSize_16 : decode cX5_setSize 16 = .ok (.goto 4, 3) := by decide +kernel
theorem dX5_setSize_19 : decode cX5_setSize 19 = .ok (.iconst 0, 1) := by decide +kernel
theorem dX5_setSize_20 : decode cX5_setSize 20 = .ok (.aload_n 0, 1) := by decide +kernel
theorem dX5_setSize_21 : decode cX5_setSize 21 = .ok (.getfield 7, 3) := by decide +kernel
theorem dX5_setSize_24 : decode cX5_setSize 24 = .ok (.iconst 1, 1) := by decide +kernel
theorem dX5_setSize_25 : decode cX5_setSize 25 = .ok (.laload, 1) := by decide +kernel
theorem dX5_setSize_26 : decode cX5_setSize 26 = .ok (.iload_n 1, 1) := by decide +kernel
theorem dX5_setSize_27 : decode cX5_setSize 27 = .ok (.i2l, 1) := by decide +kernel
theorem dX5_setSize_28 : decode cX5_setSize 28 = .ok (.lcmp, 1) := by decide +kernel
theorem dX5_setSize_29 : decode cX5_setSize 29 = .ok (.ifCond .gt 15, 3) := by decide +kernel
theorem dX5_setSize_32 : decode cX5_setSize 32 = .ok (.aload_n 0, 1) := by decide +kernel
theorem dX5_setSize_33 : decode cX5_setSize 33 = .ok (.getfield 7, 3) := by decide +kernel
theorem dX5_setSize_36 : decode cX5_setSize 36 = .ok (.iconst 3, 1) := by decide +kernel
theorem dX5_setSize_37 : decode cX5_setSize 37 = .ok (.laload, 1) := by decide +kernel
theorem dX5_setSize_38 : decode cX5_setSize 38 = .ok (.iload_n 1, 1) := by decide +kernel
theorem dX5_setSize_39 : decode cX5_setSize 39 = .ok (.i2l, 1) := by decide +kernel
theorem dX5_setSize_40 : decode cX5_setSize 40 = .ok (.lcmp, 1) := by decide +kernel
theorem dX5_setSize_41 : decode cX5_setSize 41 = .ok (.ifCond .le 7, 3) := by decide +kernel
theorem dX5_setSize_44 : decode cX5_setSize 44 = .ok (.iconst 1, 1) := by decide +kernel
theorem dX5_setSize_45 : decode cX5_setSize 45 = .ok (.goto 4, 3) := by decide +kernel
theorem dX5_setSize_48 : decode cX5_setSize 48 = .ok (.iconst 0, 1) := by decide +kernel
theorem dX5_setSize_49 : decode cX5_setSize 49 = .ok (.invokevirtual 62, 3) := by decide +kernel
theorem dX5_setSize_52 : decode cX5_setSize 52 = .ok (.ifCond .eq 12, 3) := by decide +kernel
theorem dX5_setSize_55 : decode cX5_setSize 55 = .ok (.aload_n 0, 1) := by decide +kernel
theorem dX5_setSize_56 : decode cX5_setSize 56 = .ok (.iconst 0, 1) := by decide +kernel
theorem dX5_setSize_57 : decode cX5_setSize 57 = .ok (.iload_n 1, 1) := by decide +kernel
theorem dX5_setSize_58 : decode cX5_setSize 58 = .ok (.invokevirtual 66, 3) := by decide +kernel
theorem dX5_setSize_61 : decode cX5_setSize 61 = .ok (.goto 4, 3) := by decide +kernel
theorem dX5_setSize_64 : decode cX5_setSize 64 = .ok (.iconst 0, 1) := by decide +kernel
theorem dX5_setSize_65 : decode cX5_setSize 65 = .ok (.ireturn, 1) := by decide +kernel
set_option maxRecDepth 20000 in
theorem ggX5_setBand_X5_goes : GoodIn wsX5_setBand wsX5_goes := goodIn_r _ [6, 7, 18, 19, 20, 21, 22, 23, 24, 25, 26, 27, 28, 29, 30, 31] (by decide +kernel) (by decide +kernel)
set_option maxRecDepth 20000 in
theorem gX5_setBand_X5_goes : GoodIn wsX5_setBand (wsV RX5 62 RX5 yX5_goes wsX5_goes) := goodIn_app (goodIn_of _ (by decide +kernel)) ggX5_setBand_X5_goes
set_option maxRecDepth 20000 in
theorem ggX5_setBand_X5_puts : GoodIn wsX5_setBand wsX5_puts := goodIn_r _ [11, 1, 12, 13, 14, 5, 15, 16, 17, 18, 19, 20, 21, 22, 23, 24, 25, 26, 27, 28, 29, 30, 31] (by decide +kernel) (by decide +kernel)
set_option maxRecDepth 20000 in
theorem gX5_setBand_X5_puts : GoodIn wsX5_setBand (wsV RX5 66 RX5 yX5_puts wsX5_puts) := goodIn_app (goodIn_of _ (by decide +kernel)) ggX5_setBand_X5_puts
theorem dX5_setBand_0 : decode cX5_setBand 0 = .ok (.aload_n 0, 1) := by decide +kernel
theorem dX5_setBand_1 : decode cX5_setBand 1 = .ok (.iload_n 1, 1) := by decide +kernel
theorem dX5_setBand_2 : decode cX5_setBand 2 = .ok (.iconst 1, 1) := by decide +kernel
theorem dX5_setBand_3 : decode cX5_setBand 3 = .ok (.if_icmp .lt 8, 3) := by decide +kernel
theorem dX5_setBand_6 : decode cX5_setBand 6 = .ok (.iload_n 2, 1) := by decide +kernel
theorem dX5_setBand_7 : decode cX5_setBand 7 = .ok (.iload_n 1, 1) := by decide +kernel
theorem dX5_setBand_8 : decode cX5_setBand 8 = .ok (.if_icmp .gt 7, 3) := by decide +kernel
theorem dX5_setBand_11 : decode cX5_setBand 11 = .ok (.iconst 1, 1) := by decide +kernel
theorem dX5_setBand_12 : decode cX5_setBand 12 = .ok (.goto 4, 3) := by decide +kernel
theorem dX5_setBand_15 : decode cX5_setBand 15 = .ok (.iconst 0, 1) := by decide +kernel
theorem dX5_setBand_16 : decode cX5_setBand 16 = .ok (.iload_n 2, 1) := by decide +kernel
theorem dX5_setBand_17 : decode cX5_setBand 17 = .ok (.i2l, 1) := by decide +kernel
theorem dX5_setBand_18 : decode cX5_setBand 18 = .ok (.aload_n 0, 1) := by decide +kernel
theorem dX5_setBand_19 : decode cX5_setBand 19 = .ok (.getfield 7, 3) := by decide +kernel
theorem dX5_setBand_22 : decode cX5_setBand 22 = .ok (.iconst 0, 1) := by decide +kernel
theorem dX5_setBand_23 : decode cX5_setBand 23 = .ok (.laload, 1) := by decide +kernel
theorem dX5_setBand_24 : decode cX5_setBand 24 = .ok (.lcmp, 1) := by decide +kernel
theorem dX5_setBand_25 : decode cX5_setBand 25 = .ok (.ifCond .le 7, 3) := by decide +kernel
theorem dX5_setBand_28 : decode cX5_setBand 28 = .ok (.iconst 1, 1) := by decide +kernel
theorem dX5_setBand_29 : decode cX5_setBand 29 = .ok (.goto 4, 3) := by decide +kernel
theorem dX5_setBand_32 : decode cX5_setBand 32 = .ok (.iconst 0, 1) := by decide +kernel
theorem dX5_setBand_33 : decode cX5_setBand 33 = .ok (.invokevirtual 62, 3) := by decide +kernel
theorem dX5_setBand_36 : decode cX5_setBand 36 = .ok (.ifCond .ne 5, 3) := by decide +kernel
theorem dX5_setBand_39 : decode cX5_setBand 39 = .ok (.iconst 0, 1) := by decide +kernel
theorem dX5_setBand_40 : decode cX5_setBand 40 = .ok (.ireturn, 1) := by decide +kernel
theorem dX5_setBand_41 : decode cX5_setBand 41 = .ok (.aload_n 0, 1) := by decide +kernel
theorem dX5_setBand_42 : decode cX5_setBand 42 = .ok (.getfield 7, 3) := by decide +kernel
theorem dX5_setBand_45 : decode cX5_setBand 45 = .ok (.iconst 3, 1) := by decide +kernel
theorem dX5_setBand_46 : decode cX5_setBand 46 = .ok (.laload, 1) := by decide +kernel
theorem dX5_setBand_47 : decode cX5_setBand 47 = .ok (.aload_n 0, 1) := by decide +kernel
theorem dX5_setBand_48 : decode cX5_setBand 48 = .ok (.getfield 7, 3) := by decide +kernel
theorem dX5_setBand_51 : decode cX5_setBand 51 = .ok (.iconst 2, 1) := by decide +kernel
theorem dX5_setBand_52 : decode cX5_setBand 52 = .ok (.laload, 1) := by decide +kernel
theorem dX5_setBand_53 : decode cX5_setBand 53 = .ok (.lsub, 1) := by decide +kernel
theorem dX5_setBand_54 : decode cX5_setBand 54 = .ok (.l2i, 1) := by decide +kernel
theorem dX5_setBand_55 : decode cX5_setBand 55 = .ok (.istore_n 3, 1) := by decide +kernel
theorem dX5_setBand_56 : decode cX5_setBand 56 = .ok (.aload_n 0, 1) := by decide +kernel
theorem dX5_setBand_57 : decode cX5_setBand 57 = .ok (.iconst 2, 1) := by decide +kernel
theorem dX5_setBand_58 : decode cX5_setBand 58 = .ok (.iload_n 1, 1) := by decide +kernel
theorem dX5_setBand_59 : decode cX5_setBand 59 = .ok (.invokevirtual 66, 3) := by decide +kernel
theorem dX5_setBand_62 : decode cX5_setBand 62 = .ok (.pop, 1) := by decide +kernel
theorem dX5_setBand_63 : decode cX5_setBand 63 = .ok (.aload_n 0, 1) := by decide +kernel
theorem dX5_setBand_64 : decode cX5_setBand 64 = .ok (.getfield 7, 3) := by decide +kernel
theorem dX5_setBand_67 : decode cX5_setBand 67 = .ok (.iconst 3, 1) := by decide +kernel
theorem dX5_setBand_68 : decode cX5_setBand 68 = .ok (.iload_n 2, 1) := by decide +kernel
theorem dX5_setBand_69 : decode cX5_setBand 69 = .ok (.i2l, 1) := by decide +kernel
theorem dX5_setBand_70 : decode cX5_setBand 70 = .ok (.lastore, 1) := by decide +kernel
theorem dX5_setBand_71 : decode cX5_setBand 71 = .ok (.iload_n 3, 1) := by decide +kernel
theorem dX5_setBand_72 : decode cX5_setBand 72 = .ok (.ireturn, 1) := by decide +kernel
set_option maxRecDepth 20000 in
theorem ggX5_setLevel_X5_goes : GoodIn wsX5_setLevel wsX5_goes := goodIn_r _ [6, 7, 18, 19, 20, 21, 22, 23, 24, 25, 26, 27, 28, 29, 30, 31] (by decide +kernel) (by decide +kernel)
set_option maxRecDepth 20000 in
theorem gX5_setLevel_X5_goes : GoodIn wsX5_setLevel (wsV RX5 62 RX5 yX5_goes wsX5_goes) := goodIn_app (goodIn_of _ (by decide +kernel)) ggX5_setLevel_X5_goes
set_option maxRecDepth 20000 in
theorem ggX5_setLevel_X5_puts : GoodIn wsX5_setLevel wsX5_puts := goodIn_r _ [11, 1, 12, 13, 14, 5, 15, 16, 17, 18, 19, 20, 21, 22, 23, 24, 25, 26, 27, 28, 29, 30, 31] (by decide +kernel) (by decide +kernel)
set_option maxRecDepth 20000 in
theorem gX5_setLevel_X5_puts : GoodIn wsX5_setLevel (wsV RX5 66 RX5 yX5_puts wsX5_puts) := goodIn_app (goodIn_of _ (by decide +kernel)) ggX5_setLevel_X5_puts
theorem dX5_setLevel_0 : decode cX5_setLevel 0 = .ok (.aload_n 0, 1) := by decide +kernel
theorem dX5_setLevel_1 : decode cX5_setLevel 1 = .ok (.iload_n 1, 1) := by decide +kernel
theorem dX5_setLevel_2 : decode cX5_setLevel 2 = .ok (.ifCond .ge 7, 3) := by decide +kernel
theorem dX5_setLevel_5 : decode cX5_setLevel 5 = .ok (.iconst 1, 1) := by decide +kernel
theorem dX5_setLevel_6 : decode cX5_setLevel 6 = .ok (.goto 4, 3) := by decide +kernel
theorem dX5_setLevel_9 : decode cX5_setLevel 9 = .ok (.iconst 0, 1) := by decide +kernel
theorem dX5_setLevel_10 : decode cX5_setLevel 10 = .ok (.iload_n 1, 1) := by decide +kernel
theorem dX5_setLevel_11 : decode cX5_setLevel 11 = .ok (.i2l, 1) := by decide +kernel
theorem dX5_setLevel_12 : decode cX5_setLevel 12 = .ok (.aload_n 0, 1) := by decide +kernel
theorem dX5_setLevel_13 : decode cX5_setLevel 13 = .ok (.getfield 7, 3) := by decide +kernel
theorem dX5_setLevel_16 : decode cX5_setLevel 16 = .ok (.iconst 0, 1) := by decide +kernel
theorem dX5_setLevel_17 : decode cX5_setLevel 17 = .ok (.laload, 1) := by decide +kernel
theorem dX5_setLevel_18 : decode cX5_setLevel 18 = .ok (.lcmp, 1) := by decide +kernel
theorem dX5_setLevel_19 : decode cX5_setLevel 19 = .ok (.ifCond .le 7, 3) := by decide +kernel
theorem dX5_setLevel_22 : decode cX5_setLevel 22 = .ok (.iconst 1, 1) := by decide +kernel
theorem dX5_setLevel_23 : decode cX5_setLevel 23 = .ok (.goto 4, 3) := by decide +kernel
theorem dX5_setLevel_26 : decode cX5_setLevel 26 = .ok (.iconst 0, 1) := by decide +kernel
theorem dX5_setLevel_27 : decode cX5_setLevel 27 = .ok (.invokevirtual 62, 3) := by decide +kernel
theorem dX5_setLevel_30 : decode cX5_setLevel 30 = .ok (.ifCond .eq 12, 3) := by decide +kernel
theorem dX5_setLevel_33 : decode cX5_setLevel 33 = .ok (.aload_n 0, 1) := by decide +kernel
theorem dX5_setLevel_34 : decode cX5_setLevel 34 = .ok (.iconst 1, 1) := by decide +kernel
theorem dX5_setLevel_35 : decode cX5_setLevel 35 = .ok (.iload_n 1, 1) := by decide +kernel
theorem dX5_setLevel_36 : decode cX5_setLevel 36 = .ok (.invokevirtual 66, 3) := by decide +kernel
theorem dX5_setLevel_39 : decode cX5_setLevel 39 = .ok (.goto 4, 3) := by decide +kernel
theorem dX5_setLevel_42 : decode cX5_setLevel 42 = .ok (.iconst 0, 1) := by decide +kernel
theorem dX5_setLevel_43 : decode cX5_setLevel 43 = .ok (.ireturn, 1) := by decide +kernel
set_option maxRecDepth 20000 in
theorem ggX5_isSetting_X5_in : GoodIn wsX5_isSetting wsX5_in := goodIn_r _ [6] (by decide +kernel) (by decide +kernel)
set_option maxRecDepth 20000 in
theorem gX5_isSetting_X5_in : GoodIn wsX5_isSetting (va_wsS RX5 48 yX5_in wsX5_in) := goodIn_app (goodIn_of _ (by decide +kernel)) ggX5_isSetting_X5_in
theorem dX5_isSetting_0 : decode cX5_isSetting 0 = .ok (.iload_n 0, 1) := by decide +kernel
theorem dX5_isSetting_1 : decode cX5_isSetting 1 = .ok (.tableswitch 55 0 2 #[27, 37, 47], 27) := by decide +kernel
theorem dX5_isSetting_28 : decode cX5_isSetting 28 = .ok (.iload_n 1, 1) := by decide +kernel
theorem dX5_isSetting_29 : decode cX5_isSetting 29 = .ok (.i2l, 1) := by decide +kernel
theorem dX5_isSetting_30 : decode cX5_isSetting 30 = .ok (.lconst 1, 1) := by decide +kernel
theorem dX5_isSetting_31 : decode cX5_isSetting 31 = .ok (.ldc2_w 34, 3) := by decide +kernel
theorem dX5_isSetting_34 : decode cX5_isSetting 34 = .ok (.invokestatic 48, 3) := by decide +kernel
theorem dX5_isSetting_37 : decode cX5_isSetting 37 = .ok (.ireturn, 1) := by decide +kernel
theorem dX5_isSetting_38 : decode cX5_isSetting 38 = .ok (.iload_n 1, 1) := by decide +kernel
theorem dX5_isSetting_39 : decode cX5_isSetting 39 = .ok (.i2l, 1) := by decide +kernel
theorem dX5_isSetting_40 : decode cX5_isSetting 40 = .ok (.lconst 0, 1) := by decide +kernel
theorem dX5_isSetting_41 : decode cX5_isSetting 41 = .ok (.ldc2_w 58, 3) := by decide +kernel
theorem dX5_isSetting_44 : decode cX5_isSetting 44 = .ok (.invokestatic 48, 3) := by decide +kernel
theorem dX5_isSetting_47 : decode cX5_isSetting 47 = .ok (.ireturn, 1) := by decide +kernel
theorem dX5_isSetting_48 : decode cX5_isSetting 48 = .ok (.iload_n 1, 1) := by decide +kernel
theorem dX5_isSetting_49 : decode cX5_isSetting 49 = .ok (.i2l, 1) := by decide +kernel
theorem dX5_isSetting_50 : decode cX5_isSetting 50 = .ok (.lconst 0, 1) := by decide +kernel
theorem dX5_isSetting_51 : decode cX5_isSetting 51 = .ok (.lconst 1, 1) := by decide +kernel
theorem dX5_isSetting_52 : decode cX5_isSetting 52 = .ok (.invokestatic 48, 3) := by decide +kernel
theorem dX5_isSetting_55 : decode cX5_isSetting 55 = .ok (.ireturn, 1) := by decide +kernel
theorem dX5_isSetting_56 : decode cX5_isSetting 56 = .ok (.iconst 0, 1) := by decide +kernel
theorem dX5_isSetting_57 : decode cX5_isSetting 57 = .ok (.ireturn, 1) := by decide +kernel
set_option maxRecDepth 20000 in
theorem ggX5_set_X5_isSetting : GoodIn wsX5_set wsX5_isSetting := goodIn_r _ [4, 5, 6, 7, 8, 3, 9] (by decide +kernel) (by decide +kernel)
set_option maxRecDepth 20000 in
theorem gX5_set_X5_isSetting : GoodIn wsX5_set (va_wsS RX5 70 yX5_isSetting wsX5_isSetting) := goodIn_app (goodIn_of _ (by decide +kernel)) ggX5_set_X5_isSetting
set_option maxRecDepth 20000 in
theorem ggX5_set_X5_goes : GoodIn wsX5_set wsX5_goes := goodIn_r _ [13, 14, 26, 27, 28, 29, 30, 31, 32, 33, 34, 35, 36, 37, 38, 39] (by decide +kernel) (by decide +kernel)
set_option maxRecDepth 20000 in
theorem gX5_set_X5_goes : GoodIn wsX5_set (wsV RX5 62 RX5 yX5_goes wsX5_goes) := goodIn_app (goodIn_of _ (by decide +kernel)) ggX5_set_X5_goes
set_option maxRecDepth 20000 in
theorem ggX5_set_X5_puts : GoodIn wsX5_set wsX5_puts := goodIn_r _ [18, 19, 20, 21, 22, 3, 23, 24, 25, 26, 27, 28, 29, 30, 31, 32, 33, 34, 35, 36, 37, 38, 39] (by decide +kernel) (by decide +kernel)
set_option maxRecDepth 20000 in
theorem gX5_set_X5_puts : GoodIn wsX5_set (wsV RX5 66 RX5 yX5_puts wsX5_puts) := goodIn_app (goodIn_of _ (by decide +kernel)) ggX5_set_X5_puts
theorem dX5_set_0 : decode cX5_set 0 = .ok (.aload_n 0, 1) := by decide +kernel
theorem dX5_set_1 : decode cX5_set 1 = .ok (.iload_n 1, 1) := by decide +kernel
theorem dX5_set_2 : decode cX5_set 2 = .ok (.iload_n 2, 1) := by decide +kernel
theorem dX5_set_3 : decode cX5_set 3 = .ok (.invokestatic 70, 3) := by decide +kernel
theorem dX5_set_6 : decode cX5_set 6 = .ok (.ifCond .ne 7, 3) := by decide +kernel
theorem dX5_set_9 : decode cX5_set 9 = .ok (.iconst 1, 1) := by decide +kernel
theorem dX5_set_10 : decode cX5_set 10 = .ok (.goto 4, 3) := by decide +kernel
theorem dX5_set_13 : decode cX5_set 13 = .ok (.iconst 0, 1) := by decide +kernel
theorem dX5_set_14 : decode cX5_set 14 = .ok (.iconst 0, 1) := by decide +kernel
theorem dX5_set_15 : decode cX5_set 15 = .ok (.invokevirtual 62, 3) := by decide +kernel
theorem dX5_set_18 : decode cX5_set 18 = .ok (.ifCond .eq 14, 3) := by decide +kernel
theorem dX5_set_21 : decode cX5_set 21 = .ok (.aload_n 0, 1) := by decide +kernel
theorem dX5_set_22 : decode cX5_set 22 = .ok (.iconst 4, 1) := by decide +kernel
theorem dX5_set_23 : decode cX5_set 23 = .ok (.iload_n 1, 1) := by decide +kernel
theorem dX5_set_24 : decode cX5_set 24 = .ok (.iadd, 1) := by decide +kernel
theorem dX5_set_25 : decode cX5_set 25 = .ok (.iload_n 2, 1) := by decide +kernel
theorem dX5_set_26 : decode cX5_set 26 = .ok (.invokevirtual 66, 3) := by decide +kernel
theorem dX5_set_29 : decode cX5_set 29 = .ok (.goto 4, 3) := by decide +kernel
theorem dX5_set_32 : decode cX5_set 32 = .ok (.iconst 0, 1) := by decide +kernel
theorem dX5_set_33 : decode cX5_set 33 = .ok (.ireturn, 1) := by decide +kernel
set_option maxRecDepth 20000 in
theorem ggX5_setDemand_X5_in : GoodIn wsX5_setDemand wsX5_in := goodIn_r _ [6] (by decide +kernel) (by decide +kernel)
set_option maxRecDepth 20000 in
theorem gX5_setDemand_X5_in : GoodIn wsX5_setDemand (va_wsS RX5 48 yX5_in wsX5_in) := goodIn_app (goodIn_of _ (by decide +kernel)) ggX5_setDemand_X5_in
set_option maxRecDepth 20000 in
theorem ggX5_setDemand_X5_goes : GoodIn wsX5_setDemand wsX5_goes := goodIn_r _ [10, 11, 23, 24, 25, 26, 27, 28, 29, 30, 31, 32, 33, 34, 35, 36] (by decide +kernel) (by decide +kernel)
set_option maxRecDepth 20000 in
theorem gX5_setDemand_X5_goes : GoodIn wsX5_setDemand (wsV RX5 62 RX5 yX5_goes wsX5_goes) := goodIn_app (goodIn_of _ (by decide +kernel)) ggX5_setDemand_X5_goes
set_option maxRecDepth 20000 in
theorem ggX5_setDemand_X5_puts : GoodIn wsX5_setDemand wsX5_puts := goodIn_r _ [15, 16, 17, 18, 19, 5, 20, 21, 22, 23, 24, 25, 26, 27, 28, 29, 30, 31, 32, 33, 34, 35, 36] (by decide +kernel) (by decide +kernel)
set_option maxRecDepth 20000 in
theorem gX5_setDemand_X5_puts : GoodIn wsX5_setDemand (wsV RX5 66 RX5 yX5_puts wsX5_puts) := goodIn_app (goodIn_of _ (by decide +kernel)) ggX5_setDemand_X5_puts
theorem dX5_setDemand_0 : decode cX5_setDemand 0 = .ok (.aload_n 0, 1) := by decide +kernel
theorem dX5_setDemand_1 : decode cX5_setDemand 1 = .ok (.iload_n 1, 1) := by decide +kernel
theorem dX5_setDemand_2 : decode cX5_setDemand 2 = .ok (.i2l, 1) := by decide +kernel
theorem dX5_setDemand_3 : decode cX5_setDemand 3 = .ok (.lconst 0, 1) := by decide +kernel
theorem dX5_setDemand_4 : decode cX5_setDemand 4 = .ok (.ldc2_w 74, 3) := by decide +kernel
theorem dX5_setDemand_7 : decode cX5_setDemand 7 = .ok (.invokestatic 48, 3) := by decide +kernel
theorem dX5_setDemand_10 : decode cX5_setDemand 10 = .ok (.ifCond .ne 7, 3) := by decide +kernel
theorem dX5_setDemand_13 : decode cX5_setDemand 13 = .ok (.iconst 1, 1) := by decide +kernel
theorem dX5_setDemand_14 : decode cX5_setDemand 14 = .ok (.goto 4, 3) := by decide +kernel
theorem dX5_setDemand_17 : decode cX5_setDemand 17 = .ok (.iconst 0, 1) := by decide +kernel
theorem dX5_setDemand_18 : decode cX5_setDemand 18 = .ok (.iload_n 2, 1) := by decide +kernel
theorem dX5_setDemand_19 : decode cX5_setDemand 19 = .ok (.i2l, 1) := by decide +kernel
theorem dX5_setDemand_20 : decode cX5_setDemand 20 = .ok (.lconst 0, 1) := by decide +kernel
theorem dX5_setDemand_21 : decode cX5_setDemand 21 = .ok (.ldc2_w 76, 3) := by decide +kernel
theorem dX5_setDemand_24 : decode cX5_setDemand 24 = .ok (.invokestatic 48, 3) := by decide +kernel
theorem dX5_setDemand_27 : decode cX5_setDemand 27 = .ok (.ifCond .ne 7, 3) := by decide +kernel
theorem dX5_setDemand_30 : decode cX5_setDemand 30 = .ok (.iconst 1, 1) := by decide +kernel
theorem dX5_setDemand_31 : decode cX5_setDemand 31 = .ok (.goto 4, 3) := by decide +kernel
theorem dX5_setDemand_34 : decode cX5_setDemand 34 = .ok (.iconst 0, 1) := by decide +kernel
theorem dX5_setDemand_35 : decode cX5_setDemand 35 = .ok (.invokevirtual 62, 3) := by decide +kernel
theorem dX5_setDemand_38 : decode cX5_setDemand 38 = .ok (.ifCond .eq 15, 3) := by decide +kernel
theorem dX5_setDemand_41 : decode cX5_setDemand 41 = .ok (.aload_n 0, 1) := by decide +kernel
theorem dX5_setDemand_42 : decode cX5_setDemand 42 = .ok (.bipush 24, 2) := by decide +kernel
theorem dX5_setDemand_44 : decode cX5_setDemand 44 = .ok (.iload_n 1, 1) := by decide +kernel
theorem dX5_setDemand_45 : decode cX5_setDemand 45 = .ok (.iadd, 1) := by decide +kernel
theorem dX5_setDemand_46 : decode cX5_setDemand 46 = .ok (.iload_n 2, 1) := by decide +kernel
theorem dX5_setDemand_47 : decode cX5_setDemand 47 = .ok (.invokevirtual 66, 3) := by decide +kernel
theorem dX5_setDemand_50 : decode cX5_setDemand 50 = .ok (.goto 4, 3) := by decide +kernel
theorem dX5_setDemand_53 : decode cX5_setDemand 53 = .ok (.iconst 0, 1) := by decide +kernel
theorem dX5_setDemand_54 : decode cX5_setDemand 54 = .ok (.ireturn, 1) := by decide +kernel
set_option maxRecDepth 20000 in
theorem ggX5_addPump_X5_in : GoodIn wsX5_addPump wsX5_in := goodIn_r _ [8] (by decide +kernel) (by decide +kernel)
set_option maxRecDepth 20000 in
theorem gX5_addPump_X5_in : GoodIn wsX5_addPump (va_wsS RX5 48 yX5_in wsX5_in) := goodIn_app (goodIn_of _ (by decide +kernel)) ggX5_addPump_X5_in
set_option maxRecDepth 20000 in
theorem ggX5_addPump_X5_goes : GoodIn wsX5_addPump wsX5_goes := goodIn_r _ [12, 13, 27, 28, 29, 30, 31, 32, 33, 34, 35, 36, 37, 38, 39, 40] (by decide +kernel) (by decide +kernel)
set_option maxRecDepth 20000 in
theorem gX5_addPump_X5_goes : GoodIn wsX5_addPump (wsV RX5 62 RX5 yX5_goes wsX5_goes) := goodIn_app (goodIn_of _ (by decide +kernel)) ggX5_addPump_X5_goes
set_option maxRecDepth 20000 in
theorem ggX5_addPump_X5_puts : GoodIn wsX5_addPump wsX5_puts := goodIn_r _ [17, 3, 18, 19, 20, 7, 21, 22, 23, 27, 28, 29, 30, 31, 32, 33, 34, 35, 36, 37, 38, 39, 40] (by decide +kernel) (by decide +kernel)
set_option maxRecDepth 20000 in
theorem gX5_addPump_X5_puts : GoodIn wsX5_addPump (wsV RX5 66 RX5 yX5_puts wsX5_puts) := goodIn_app (goodIn_of _ (by decide +kernel)) ggX5_addPump_X5_puts
set_option maxRecDepth 20000 in
theorem ggX5_addPump_X5_p : GoodIn wsX5_addPump wsX5_p := goodIn_r _ [26] (by decide +kernel) (by decide +kernel)
set_option maxRecDepth 20000 in
theorem gX5_addPump_X5_p : GoodIn wsX5_addPump (va_wsS RX5 82 yX5_p wsX5_p) := goodIn_app (goodIn_of _ (by decide +kernel)) ggX5_addPump_X5_p
theorem dX5_addPump_0 : decode cX5_addPump 0 = .ok (.aload_n 0, 1) := by decide +kernel
theorem dX5_addPump_1 : decode cX5_addPump 1 = .ok (.iload_n 1, 1) := by decide +kernel
theorem dX5_addPump_2 : decode cX5_addPump 2 = .ok (.i2l, 1) := by decide +kernel
theorem dX5_addPump_3 : decode cX5_addPump 3 = .ok (.lconst 1, 1) := by decide +kernel
theorem dX5_addPump_4 : decode cX5_addPump 4 = .ok (.ldc2_w 40, 3) := by decide +kernel
theorem dX5_addPump_7 : decode cX5_addPump 7 = .ok (.invokestatic 48, 3) := by decide +kernel
theorem dX5_addPump_10 : decode cX5_addPump 10 = .ok (.ifCond .eq 15, 3) := by decide +kernel
theorem dX5_addPump_13 : decode cX5_addPump 13 = .ok (.iload_n 2, 1) := by decide +kernel
theorem dX5_addPump_14 : decode cX5_addPump 14 = .ok (.i2l, 1) := by decide +kernel
theorem dX5_addPump_15 : decode cX5_addPump 15 = .ok (.lconst 1, 1) := by decide +kernel
theorem dX5_addPump_16 : decode cX5_addPump 16 = .ok (.ldc2_w 78, 3) := by decide +kernel
theorem dX5_addPump_19 : decode cX5_addPump 19 = .ok (.invokestatic 48, 3) := by decide +kernel
theorem dX5_addPump_22 : decode cX5_addPump 22 = .ok (.ifCond .ne 7, 3) := by decide +kernel
theorem dX5_addPump_25 : decode cX5_addPump 25 = .ok (.iconst 1, 1) := by decide +kernel
theorem dX5_addPump_26 : decode cX5_addPump 26 = .ok (.goto 4, 3) := by decide +kernel
theorem dX5_addPump_29 : decode cX5_addPump 29 = .ok (.iconst 0, 1) := by decide +kernel
theorem dX5_addPump_30 : decode cX5_addPump 30 = .ok (.aload_n 0, 1) := by decide +kernel
theorem dX5_addPump_31 : decode cX5_addPump 31 = .ok (.getfield 7, 3) := by decide +kernel
theorem dX5_addPump_34 : decode cX5_addPump 34 = .ok (.bipush 7, 2) := by decide +kernel
theorem dX5_addPump_36 : decode cX5_addPump 36 = .ok (.laload, 1) := by decide +kernel
theorem dX5_addPump_37 : decode cX5_addPump 37 = .ok (.ldc2_w 80, 3) := by decide +kernel
theorem dX5_addPump_40 : decode cX5_addPump 40 = .ok (.lcmp, 1) := by decide +kernel
theorem dX5_addPump_41 : decode cX5_addPump 41 = .ok (.ifCond .ne 7, 3) := by decide +kernel
theorem dX5_addPump_44 : decode cX5_addPump 44 = .ok (.iconst 1, 1) := by decide +kernel
theorem dX5_addPump_45 : decode cX5_addPump 45 = .ok (.goto 4, 3) := by decide +kernel
theorem dX5_addPump_48 : decode cX5_addPump 48 = .ok (.iconst 0, 1) := by decide +kernel
theorem dX5_addPump_49 : decode cX5_addPump 49 = .ok (.invokevirtual 62, 3) := by decide +kernel
theorem dX5_addPump_52 : decode cX5_addPump 52 = .ok (.ifCond .ne 5, 3) := by decide +kernel
theorem dX5_addPump_55 : decode cX5_addPump 55 = .ok (.iconst 0, 1) := by decide +kernel
theorem dX5_addPump_56 : decode cX5_addPump 56 = .ok (.ireturn, 1) := by decide +kernel
theorem dX5_addPump_57 : decode cX5_addPump 57 = .ok (.aload_n 0, 1) := by decide +kernel
theorem dX5_addPump_58 : decode cX5_addPump 58 = .ok (.bipush 7, 2) := by decide +kernel
theorem dX5_addPump_60 : decode cX5_addPump 60 = .ok (.aload_n 0, 1) := by decide +kernel
theorem dX5_addPump_61 : decode cX5_addPump 61 = .ok (.getfield 7, 3) := by decide +kernel
theorem dX5_addPump_64 : decode cX5_addPump 64 = .ok (.bipush 7, 2) := by decide +kernel
theorem dX5_addPump_66 : decode cX5_addPump 66 = .ok (.laload, 1) := by decide +kernel
theorem dX5_addPump_67 : decode cX5_addPump 67 = .ok (.l2i, 1) := by decide +kernel
theorem dX5_addPump_68 : decode cX5_addPump 68 = .ok (.iconst 1, 1) := by decide +kernel
theorem dX5_addPump_69 : decode cX5_addPump 69 = .ok (.iadd, 1) := by decide +kernel
theorem dX5_addPump_70 : decode cX5_addPump 70 = .ok (.invokevirtual 66, 3) := by decide +kernel
theorem dX5_addPump_73 : decode cX5_addPump 73 = .ok (.istore_n 3, 1) := by decide +kernel
theorem dX5_addPump_74 : decode cX5_addPump 74 = .ok (.aload_n 0, 1) := by decide +kernel
theorem dX5_addPump_75 : decode cX5_addPump 75 = .ok (.getfield 7, 3) := by decide +kernel
theorem dX5_addPump_78 : decode cX5_addPump 78 = .ok (.iload_n 3, 1) := by decide +kernel
theorem dX5_addPump_79 : decode cX5_addPump 79 = .ok (.iconst 0, 1) := by decide +kernel
theorem dX5_addPump_80 : decode cX5_addPump 80 = .ok (.invokestatic 82, 3) := by decide +kernel
theorem dX5_addPump_83 : decode cX5_addPump 83 = .ok (.iload_n 1, 1) := by decide +kernel
theorem dX5_addPump_84 : decode cX5_addPump 84 = .ok (.i2l, 1) := by decide +kernel
theorem dX5_addPump_85 : decode cX5_addPump 85 = .ok (.lastore, 1) := by decide +kernel
theorem dX5_addPump_86 : decode cX5_addPump 86 = .ok (.aload_n 0, 1) := by decide +kernel
theorem dX5_addPump_87 : decode cX5_addPump 87 = .ok (.getfield 7, 3) := by decide +kernel
theorem dX5_addPump_90 : decode cX5_addPump 90 = .ok (.iload_n 3, 1) := by decide +kernel
theorem dX5_addPump_91 : decode cX5_addPump 91 = .ok (.iconst 1, 1) := by decide +kernel
theorem dX5_addPump_92 : decode cX5_addPump 92 = .ok (.invokestatic 82, 3) := by decide +kernel
theorem dX5_addPump_95 : decode cX5_addPump 95 = .ok (.iload_n 2, 1) := by decide +kernel
theorem dX5_addPump_96 : decode cX5_addPump 96 = .ok (.i2l, 1) := by decide +kernel
theorem dX5_addPump_97 : decode cX5_addPump 97 = .ok (.lastore, 1) := by decide +kernel
theorem dX5_addPump_98 : decode cX5_addPump 98 = .ok (.aload_n 0, 1) := by decide +kernel
theorem dX5_addPump_99 : decode cX5_addPump 99 = .ok (.getfield 7, 3) := by decide +kernel
theorem dX5_addPump_102 : decode cX5_addPump 102 = .ok (.bipush 96, 2) := by decide +kernel
theorem dX5_addPump_104 : decode cX5_addPump 104 = .ok (.iload_n 3, 1) := by decide +kernel
theorem dX5_addPump_105 : decode cX5_addPump 105 = .ok (.iadd, 1) := by decide +kernel
theorem dX5_addPump_106 : decode cX5_addPump 106 = .ok (.iload_n 3, 1) := by decide +kernel
theorem dX5_addPump_107 : decode cX5_addPump 107 = .ok (.i2l, 1) := by decide +kernel
theorem dX5_addPump_108 : decode cX5_addPump 108 = .ok (.lastore, 1) := by decide +kernel
theorem dX5_addPump_109 : decode cX5_addPump 109 = .ok (.iload_n 3, 1) := by decide +kernel
theorem dX5_addPump_110 : decode cX5_addPump 110 = .ok (.ireturn, 1) := by decide +kernel
set_option maxRecDepth 20000 in
theorem ggX5_swear_X5_isPump : GoodIn wsX5_swear wsX5_isPump := goodIn_r _ [6, 7, 8, 9, 5, 10, 29, 30, 31, 32, 33, 34, 35, 36, 37, 38, 39, 40, 41, 42] (by decide +kernel) (by decide +kernel)
set_option maxRecDepth 20000 in
theorem gX5_swear_X5_isPump : GoodIn wsX5_swear (wsV RX5 85 RX5 yX5_isPump wsX5_isPump) := goodIn_app (goodIn_of _ (by decide +kernel)) ggX5_swear_X5_isPump
set_option maxRecDepth 20000 in
theorem ggX5_swear_X5_in : GoodIn wsX5_swear wsX5_in := goodIn_r _ [10] (by decide +kernel) (by decide +kernel)
set_option maxRecDepth 20000 in
theorem gX5_swear_X5_in : GoodIn wsX5_swear (va_wsS RX5 48 yX5_in wsX5_in) := goodIn_app (goodIn_of _ (by decide +kernel)) ggX5_swear_X5_in
set_option maxRecDepth 20000 in
theorem ggX5_swear_X5_goes : GoodIn wsX5_swear wsX5_goes := goodIn_r _ [14, 15, 29, 30, 31, 32, 33, 34, 35, 36, 37, 38, 39, 40, 41, 42] (by decide +kernel) (by decide +kernel)
set_option maxRecDepth 20000 in
theorem gX5_swear_X5_goes : GoodIn wsX5_swear (wsV RX5 62 RX5 yX5_goes wsX5_goes) := goodIn_app (goodIn_of _ (by decide +kernel)) ggX5_swear_X5_goes
set_option maxRecDepth 20000 in
theorem ggX5_swear_X5_p : GoodIn wsX5_swear wsX5_p := goodIn_r _ [18] (by decide +kernel) (by decide +kernel)
set_option maxRecDepth 20000 in
theorem gX5_swear_X5_p : GoodIn wsX5_swear (va_wsS RX5 82 yX5_p wsX5_p) := goodIn_app (goodIn_of _ (by decide +kernel)) ggX5_swear_X5_p
set_option maxRecDepth 20000 in
theorem ggX5_swear_X5_puts : GoodIn wsX5_swear wsX5_puts := goodIn_r _ [22, 7, 23, 24, 25, 5, 26, 27, 28, 29, 30, 31, 32, 33, 34, 35, 36, 37, 38, 39, 40, 41, 42] (by decide +kernel) (by decide +kernel)
set_option maxRecDepth 20000 in
theorem gX5_swear_X5_puts : GoodIn wsX5_swear (wsV RX5 66 RX5 yX5_puts wsX5_puts) := goodIn_app (goodIn_of _ (by decide +kernel)) ggX5_swear_X5_puts
theorem dX5_swear_0 : decode cX5_swear 0 = .ok (.aload_n 0, 1) := by decide +kernel
theorem dX5_swear_1 : decode cX5_swear 1 = .ok (.aload_n 0, 1) := by decide +kernel
theorem dX5_swear_2 : decode cX5_swear 2 = .ok (.iload_n 1, 1) := by decide +kernel
theorem dX5_swear_3 : decode cX5_swear 3 = .ok (.invokevirtual 85, 3) := by decide +kernel
theorem dX5_swear_6 : decode cX5_swear 6 = .ok (.ifCond .ne 7, 3) := by decide +kernel
theorem dX5_swear_9 : decode cX5_swear 9 = .ok (.iconst 1, 1) := by decide +kernel
theorem dX5_swear_10 : decode cX5_swear 10 = .ok (.goto 4, 3) := by decide +kernel
theorem dX5_swear_13 : decode cX5_swear 13 = .ok (.iconst 0, 1) := by decide +kernel
theorem dX5_swear_14 : decode cX5_swear 14 = .ok (.iload_n 2, 1) := by decide +kernel
theorem dX5_swear_15 : decode cX5_swear 15 = .ok (.i2l, 1) := by decide +kernel
theorem dX5_swear_16 : decode cX5_swear 16 = .ok (.lconst 1, 1) := by decide +kernel
theorem dX5_swear_17 : decode cX5_swear 17 = .ok (.ldc2_w 78, 3) := by decide +kernel
theorem dX5_swear_20 : decode cX5_swear 20 = .ok (.invokestatic 48, 3) := by decide +kernel
theorem dX5_swear_23 : decode cX5_swear 23 = .ok (.ifCond .ne 7, 3) := by decide +kernel
theorem dX5_swear_26 : decode cX5_swear 26 = .ok (.iconst 1, 1) := by decide +kernel
theorem dX5_swear_27 : decode cX5_swear 27 = .ok (.goto 4, 3) := by decide +kernel
theorem dX5_swear_30 : decode cX5_swear 30 = .ok (.iconst 0, 1) := by decide +kernel
theorem dX5_swear_31 : decode cX5_swear 31 = .ok (.invokevirtual 62, 3) := by decide +kernel
theorem dX5_swear_34 : decode cX5_swear 34 = .ok (.ifCond .eq 16, 3) := by decide +kernel
theorem dX5_swear_37 : decode cX5_swear 37 = .ok (.aload_n 0, 1) := by decide +kernel
theorem dX5_swear_38 : decode cX5_swear 38 = .ok (.iload_n 1, 1) := by decide +kernel
theorem dX5_swear_39 : decode cX5_swear 39 = .ok (.iconst 1, 1) := by decide +kernel
theorem dX5_swear_40 : decode cX5_swear 40 = .ok (.invokestatic 82, 3) := by decide +kernel
theorem dX5_swear_43 : decode cX5_swear 43 = .ok (.iload_n 2, 1) := by decide +kernel
theorem dX5_swear_44 : decode cX5_swear 44 = .ok (.invokevirtual 66, 3) := by decide +kernel
theorem dX5_swear_47 : decode cX5_swear 47 = .ok (.goto 4, 3) := by decide +kernel
theorem dX5_swear_50 : decode cX5_swear 50 = .ok (.iconst 0, 1) := by decide +kernel
theorem dX5_swear_51 : decode cX5_swear 51 = .ok (.ireturn, 1) := by decide +kernel
set_option maxRecDepth 20000 in
theorem ggX5_service_X5_isPump : GoodIn wsX5_service wsX5_isPump := goodIn_r _ [7, 1, 8, 9, 6, 10, 29, 30, 31, 32, 33, 34, 35, 36, 37, 38, 39, 40, 41, 42] (by decide +kernel) (by decide +kernel)
set_option maxRecDepth 20000 in
theorem gX5_service_X5_isPump : GoodIn wsX5_service (wsV RX5 85 RX5 yX5_isPump wsX5_isPump) := goodIn_app (goodIn_of _ (by decide +kernel)) ggX5_service_X5_isPump
set_option maxRecDepth 20000 in
theorem ggX5_service_X5_p : GoodIn wsX5_service wsX5_p := goodIn_r _ [13] (by decide +kernel) (by decide +kernel)
set_option maxRecDepth 20000 in
theorem gX5_service_X5_p : GoodIn wsX5_service (va_wsS RX5 82 yX5_p wsX5_p) := goodIn_app (goodIn_of _ (by decide +kernel)) ggX5_service_X5_p
set_option maxRecDepth 20000 in
theorem ggX5_service_X5_goes : GoodIn wsX5_service wsX5_goes := goodIn_r _ [17, 18, 29, 30, 31, 32, 33, 34, 35, 36, 37, 38, 39, 40, 41, 42] (by decide +kernel) (by decide +kernel)
set_option maxRecDepth 20000 in
theorem gX5_service_X5_goes : GoodIn wsX5_service (wsV RX5 62 RX5 yX5_goes wsX5_goes) := goodIn_app (goodIn_of _ (by decide +kernel)) ggX5_service_X5_goes
set_option maxRecDepth 20000 in
theorem ggX5_service_X5_puts : GoodIn wsX5_service wsX5_puts := goodIn_r _ [22, 1, 23, 24, 25, 6, 26, 27, 28, 29, 30, 31, 32, 33, 34, 35, 36, 37, 38, 39, 40, 41, 42] (by decide +kernel) (by decide +kernel)
set_option maxRecDepth 20000 in
theorem gX5_service_X5_puts : GoodIn wsX5_service (wsV RX5 66 RX5 yX5_puts wsX5_puts) := goodIn_app (goodIn_of _ (by decide +kernel)) ggX5_service_X5_puts
theorem dX5_service_0 : decode cX5_service 0 = .ok (.aload_n 0, 1) := by decide +kernel
theorem dX5_service_1 : decode cX5_service 1 = .ok (.iload_n 1, 1) := by decide +kernel
theorem dX5_service_2 : decode cX5_service 2 = .ok (.invokevirtual 85, 3) := by decide +kernel
theorem dX5_service_5 : decode cX5_service 5 = .ok (.istore_n 3, 1) := by decide +kernel
theorem dX5_service_6 : decode cX5_service 6 = .ok (.aload_n 0, 1) := by decide +kernel
theorem dX5_service_7 : decode cX5_service 7 = .ok (.iload_n 3, 1) := by decide +kernel
theorem dX5_service_8 : decode cX5_service 8 = .ok (.ifCond .ne 7, 3) := by decide +kernel
theorem dX5_service_11 : decode cX5_service 11 = .ok (.iconst 1, 1) := by decide +kernel
theorem dX5_service_12 : decode cX5_service 12 = .ok (.goto 4, 3) := by decide +kernel
theorem dX5_service_15 : decode cX5_service 15 = .ok (.iconst 0, 1) := by decide +kernel
theorem dX5_service_16 : decode cX5_service 16 = .ok (.iload_n 3, 1) := by decide +kernel
theorem dX5_service_17 : decode cX5_service 17 = .ok (.ifCond .eq 33, 3) := by decide +kernel
theorem dX5_service_20 : decode cX5_service 20 = .ok (.iload_n 2, 1) := by decide +kernel
theorem dX5_service_21 : decode cX5_service 21 = .ok (.aload_n 0, 1) := by decide +kernel
theorem dX5_service_22 : decode cX5_service 22 = .ok (.getfield 7, 3) := by decide +kernel
theorem dX5_service_25 : decode cX5_service 25 = .ok (.iload_n 1, 1) := by decide +kernel
theorem dX5_service_26 : decode cX5_service 26 = .ok (.iconst 2, 1) := by decide +kernel
theorem dX5_service_27 : decode cX5_service 27 = .ok (.invokestatic 82, 3) := by decide +kernel
theorem dX5_service_30 : decode cX5_service 30 = .ok (.laload, 1) := by decide +kernel
theorem dX5_service_31 : decode cX5_service 31 = .ok (.ldc2_w 89, 3) := by decide +kernel
theorem dX5_service_34 : decode cX5_service 34 = .ok (.lcmp, 1) := by decide +kernel
theorem dX5_service_35 : decode cX5_service 35 = .ok (.ifCond .eq 7, 3) := by decide +kernel
theorem dX5_service_38 : decode cX5_service 38 = .ok (.iconst 1, 1) := by decide +kernel
theorem dX5_service_39 : decode cX5_service 39 = .ok (.goto 4, 3) := by decide +kernel
theorem dX5_service_42 : decode cX5_service 42 = .ok (.iconst 0, 1) := by decide +kernel
theorem dX5_service_43 : decode cX5_service 43 = .ok (.if_icmp .ne 7, 3) := by decide +kernel
theorem dX5_service_46 : decode cX5_service 46 = .ok (.iconst 1, 1) := by decide +kernel
theorem dX5_service_47 : decode cX5_service 47 = .ok (.goto 4, 3) := by decide +kernel
theorem dX5_service_50 : decode cX5_service 50 = .ok (.iconst 0, 1) := by decide +kernel
theorem dX5_service_51 : decode cX5_service 51 = .ok (.invokevirtual 62, 3) := by decide +kernel
theorem dX5_service_54 : decode cX5_service 54 = .ok (.ifCond .ne 5, 3) := by decide +kernel
theorem dX5_service_57 : decode cX5_service 57 = .ok (.iconst 0, 1) := by decide +kernel
theorem dX5_service_58 : decode cX5_service 58 = .ok (.ireturn, 1) := by decide +kernel
theorem dX5_service_59 : decode cX5_service 59 = .ok (.aload_n 0, 1) := by decide +kernel
theorem dX5_service_60 : decode cX5_service 60 = .ok (.iload_n 1, 1) := by decide +kernel
theorem dX5_service_61 : decode cX5_service 61 = .ok (.iconst 2, 1) := by decide +kernel
theorem dX5_service_62 : decode cX5_service 62 = .ok (.invokestatic 82, 3) := by decide +kernel
theorem dX5_service_65 : decode cX5_service 65 = .ok (.iload_n 2, 1) := by decide +kernel
theorem dX5_service_66 : decode cX5_service 66 = .ok (.ifCond .eq 7, 3) := by decide +kernel
theorem dX5_service_69 : decode cX5_service 69 = .ok (.iconst 0, 1) := by decide +kernel
theorem dX5_service_70 : decode cX5_service 70 = .ok (.goto 4, 3) := by decide +kernel
theorem dX5_service_73 : decode cX5_service 73 = .ok (.iconst 2, 1) := by decide +kernel
theorem dX5_service_74 : decode cX5_service 74 = .ok (.invokevirtual 66, 3) := by decide +kernel
theorem dX5_service_77 : decode cX5_service 77 = .ok (.iconst 1, 1) := by decide +kernel
theorem dX5_service_78 : decode cX5_service 78 = .ok (.if_icmp .ne 7, 3) := by decide +kernel
theorem dX5_service_81 : decode cX5_service 81 = .ok (.iconst 1, 1) := by decide +kernel
theorem dX5_service_82 : decode cX5_service 82 = .ok (.goto 4, 3) := by decide +kernel
theorem dX5_service_85 : decode cX5_service 85 = .ok (.iconst 0, 1) := by decide +kernel
theorem dX5_service_86 : decode cX5_service 86 = .ok (.ireturn, 1) := by decide +kernel
set_option maxRecDepth 20000 in
theorem ggX5_many_X5_p : GoodIn wsX5_many wsX5_p := goodIn_r _ [4] (by decide +kernel) (by decide +kernel)
set_option maxRecDepth 20000 in
theorem gX5_many_X5_p : GoodIn wsX5_many (va_wsS RX5 82 yX5_p wsX5_p) := goodIn_app (goodIn_of _ (by decide +kernel)) ggX5_many_X5_p
theorem dX5_many_0 : decode cX5_many 0 = .ok (.iconst 0, 1) := by decide +kernel
theorem dX5_many_1 : decode cX5_many 1 = .ok (.istore_n 2, 1) := by decide +kernel
theorem dX5_many_2 : decode cX5_many 2 = .ok (.iconst 0, 1) := by decide +kernel
theorem dX5_many_3 : decode cX5_many 3 = .ok (.istore_n 3, 1) := by decide +kernel
theorem dX5_many_4 : decode cX5_many 4 = .ok (.iload_n 3, 1) := by decide +kernel
theorem dX5_many_5 : decode cX5_many 5 = .ok (.i2l, 1) := by decide +kernel
theorem dX5_many_6 : decode cX5_many 6 = .ok (.aload_n 0, 1) := by decide +kernel
theorem dX5_many_7 : decode cX5_many 7 = .ok (.bipush 7, 2) := by decide +kernel
theorem dX5_many_9 : decode cX5_many 9 = .ok (.laload, 1) := by decide +kernel
theorem dX5_many_10 : decode cX5_many 10 = .ok (.lcmp, 1) := by decide +kernel
theorem dX5_many_11 : decode cX5_many 11 = .ok (.ifCond .ge 30, 3) := by decide +kernel
theorem dX5_many_14 : decode cX5_many 14 = .ok (.iload_n 2, 1) := by decide +kernel
theorem dX5_many_15 : decode cX5_many 15 = .ok (.aload_n 0, 1) := by decide +kernel
theorem dX5_many_16 : decode cX5_many 16 = .ok (.iload_n 3, 1) := by decide +kernel
theorem dX5_many_17 : decode cX5_many 17 = .ok (.iconst 2, 1) := by decide +kernel
theorem dX5_many_18 : decode cX5_many 18 = .ok (.invokestatic 82, 3) := by decide +kernel
theorem dX5_many_21 : decode cX5_many 21 = .ok (.laload, 1) := by decide +kernel
theorem dX5_many_22 : decode cX5_many 22 = .ok (.iload_n 1, 1) := by decide +kernel
theorem dX5_many_23 : decode cX5_many 23 = .ok (.i2l, 1) := by decide +kernel
theorem dX5_many_24 : decode cX5_many 24 = .ok (.lcmp, 1) := by decide +kernel
theorem dX5_many_25 : decode cX5_many 25 = .ok (.ifCond .ne 7, 3) := by decide +kernel
theorem dX5_many_28 : decode cX5_many 28 = .ok (.iconst 1, 1) := by decide +kernel
theorem dX5_many_29 : decode cX5_many 29 = .ok (.goto 4, 3) := by decide +kernel
theorem dX5_many_32 : decode cX5_many 32 = .ok (.iconst 0, 1) := by decide +kernel
theorem dX5_many_33 : decode cX5_many 33 = .ok (.iadd, 1) := by decide +kernel
theorem dX5_many_34 : decode cX5_many 34 = .ok (.istore_n 2, 1) := by decide +kernel
theorem dX5_many_35 : decode cX5_many 35 = .ok (.iinc 3 1, 3) := by decide +kernel
theorem dX5_many_38 : decode cX5_many 38 = .ok (.goto (-34), 3) := by decide +kernel
theorem dX5_many_41 : decode cX5_many 41 = .ok (.iload_n 2, 1) := by decide +kernel
theorem dX5_many_42 : decode cX5_many 42 = .ok (.ireturn, 1) := by decide +kernel
set_option maxRecDepth 20000 in
theorem ggX5_rests_X5_many : GoodIn wsX5_rests wsX5_many := goodIn_r _ [4, 5, 6, 3, 7] (by decide +kernel) (by decide +kernel)
set_option maxRecDepth 20000 in
theorem gX5_rests_X5_many : GoodIn wsX5_rests (va_wsS RX5 91 yX5_many wsX5_many) := goodIn_app (goodIn_of _ (by decide +kernel)) ggX5_rests_X5_many
set_option maxRecDepth 20000 in
theorem ggX5_rests_X5_p : GoodIn wsX5_rests wsX5_p := goodIn_r _ [7] (by decide +kernel) (by decide +kernel)
set_option maxRecDepth 20000 in
theorem gX5_rests_X5_p : GoodIn wsX5_rests (va_wsS RX5 82 yX5_p wsX5_p) := goodIn_app (goodIn_of _ (by decide +kernel)) ggX5_rests_X5_p
theorem dX5_rests_0 : decode cX5_rests 0 = .ok (.aload_n 0, 1) := by decide +kernel
theorem dX5_rests_1 : decode cX5_rests 1 = .ok (.iconst 1, 1) := by decide +kernel
theorem dX5_rests_2 : decode cX5_rests 2 = .ok (.invokestatic 91, 3) := by decide +kernel
theorem dX5_rests_5 : decode cX5_rests 5 = .ok (.ifCond .ne 4, 3) := by decide +kernel
theorem dX5_rests_8 : decode cX5_rests 8 = .ok (.return_, 1) := by decide +kernel
theorem dX5_rests_9 : decode cX5_rests 9 = .ok (.aload_n 0, 1) := by decide +kernel
theorem dX5_rests_10 : decode cX5_rests 10 = .ok (.bipush 7, 2) := by decide +kernel
theorem dX5_rests_12 : decode cX5_rests 12 = .ok (.laload, 1) := by decide +kernel
theorem dX5_rests_13 : decode cX5_rests 13 = .ok (.l2i, 1) := by decide +kernel
theorem dX5_rests_14 : decode cX5_rests 14 = .ok (.iconst 1, 1) := by decide +kernel
theorem dX5_rests_15 : decode cX5_rests 15 = .ok (.isub, 1) := by decide +kernel
theorem dX5_rests_16 : decode cX5_rests 16 = .ok (.istore_n 1, 1) := by decide +kernel
theorem dX5_rests_17 : decode cX5_rests 17 = .ok (.iconst 0, 1) := by decide +kernel
theorem dX5_rests_18 : decode cX5_rests 18 = .ok (.istore_n 2, 1) := by decide +kernel
theorem dX5_rests_19 : decode cX5_rests 19 = .ok (.iload_n 2, 1) := by decide +kernel
theorem dX5_rests_20 : decode cX5_rests 20 = .ok (.iload_n 1, 1) := by decide +kernel
theorem dX5_rests_21 : decode cX5_rests 21 = .ok (.if_icmp .gt 39, 3) := by decide +kernel
theorem dX5_rests_24 : decode cX5_rests 24 = .ok (.aload_n 0, 1) := by decide +kernel
theorem dX5_rests_25 : decode cX5_rests 25 = .ok (.iload_n 2, 1) := by decide +kernel
theorem dX5_rests_26 : decode cX5_rests 26 = .ok (.iconst 2, 1) := by decide +kernel
theorem dX5_rests_27 : decode cX5_rests 27 = .ok (.invokestatic 82, 3) := by decide +kernel
theorem dX5_rests_30 : decode cX5_rests 30 = .ok (.aload_n 0, 1) := by decide +kernel
theorem dX5_rests_31 : decode cX5_rests 31 = .ok (.iload_n 2, 1) := by decide +kernel
theorem dX5_rests_32 : decode cX5_rests 32 = .ok (.iconst 2, 1) := by decide +kernel
theorem dX5_rests_33 : decode cX5_rests 33 = .ok (.invokestatic 82, 3) := by decide +kernel
theorem dX5_rests_36 : decode cX5_rests 36 = .ok (.laload, 1) := by decide +kernel
theorem dX5_rests_37 : decode cX5_rests 37 = .ok (.lconst 1, 1) := by decide +kernel
theorem dX5_rests_38 : decode cX5_rests 38 = .ok (.lcmp, 1) := by decide +kernel
theorem dX5_rests_39 : decode cX5_rests 39 = .ok (.ifCond .ne 7, 3) := by decide +kernel
theorem dX5_rests_42 : decode cX5_rests 42 = .ok (.lconst 0, 1) := by decide +kernel
theorem dX5_rests_43 : decode cX5_rests 43 = .ok (.goto 10, 3) := by decide +kernel
theorem dX5_rests_46 : decode cX5_rests 46 = .ok (.aload_n 0, 1) := by decide +kernel
theorem dX5_rests_47 : decode cX5_rests 47 = .ok (.iload_n 2, 1) := by decide +kernel
theorem dX5_rests_48 : decode cX5_rests 48 = .ok (.iconst 2, 1) := by decide +kernel
theorem dX5_rests_49 : decode cX5_rests 49 = .ok (.invokestatic 82, 3) := by decide +kernel
theorem dX5_rests_52 : decode cX5_rests 52 = .ok (.laload, 1) := by decide +kernel
theorem dX5_rests_53 : decode cX5_rests 53 = .ok (.lastore, 1) := by decide +kernel
theorem dX5_rests_54 : decode cX5_rests 54 = .ok (.iinc 2 1, 3) := by decide +kernel
theorem dX5_rests_57 : decode cX5_rests 57 = .ok (.goto (-38), 3) := by decide +kernel
theorem dX5_rests_60 : decode cX5_rests 60 = .ok (.aload_n 0, 1) := by decide +kernel
theorem dX5_rests_61 : decode cX5_rests 61 = .ok (.bipush 96, 2) := by decide +kernel
theorem dX5_rests_63 : decode cX5_rests 63 = .ok (.laload, 1) := by decide +kernel
theorem dX5_rests_64 : decode cX5_rests 64 = .ok (.lstore_n 2, 1) := by decide +kernel
theorem dX5_rests_65 : decode cX5_rests 65 = .ok (.iconst 0, 1) := by decide +kernel
theorem dX5_rests_66 : decode cX5_rests 66 = .ok (.istore 4, 2) := by decide +kernel
theorem dX5_rests_68 : decode cX5_rests 68 = .ok (.iload 4, 2) := by decide +kernel
theorem dX5_rests_70 : decode cX5_rests 70 = .ok (.iload_n 1, 1) := by decide +kernel
theorem dX5_rests_71 : decode cX5_rests 71 = .ok (.if_icmp .ge 25, 3) := by decide +kernel
theorem dX5_rests_74 : decode cX5_rests 74 = .ok (.aload_n 0, 1) := by decide +kernel
theorem dX5_rests_75 : decode cX5_rests 75 = .ok (.bipush 96, 2) := by decide +kernel
theorem dX5_rests_77 : decode cX5_rests 77 = .ok (.iload 4, 2) := by decide +kernel
theorem dX5_rests_79 : decode cX5_rests 79 = .ok (.iadd, 1) := by decide +kernel
theorem dX5_rests_80 : decode cX5_rests 80 = .ok (.aload_n 0, 1) := by decide +kernel
theorem dX5_rests_81 : decode cX5_rests 81 = .ok (.bipush 96, 2) := by decide +kernel
theorem dX5_rests_83 : decode cX5_rests 83 = .ok (.iload 4, 2) := by decide +kernel
theorem dX5_rests_85 : decode cX5_rests 85 = .ok (.iadd, 1) := by decide +kernel
theorem dX5_rests_86 : decode cX5_rests 86 = .ok (.iconst 1, 1) := by decide +kernel
theorem dX5_rests_87 : decode cX5_rests 87 = .ok (.iadd, 1) := by decide +kernel
theorem dX5_rests_88 : decode cX5_rests 88 = .ok (.laload, 1) := by decide +kernel
theorem dX5_rests_89 : decode cX5_rests 89 = .ok (.lastore, 1) := by decide +kernel
theorem dX5_rests_90 : decode cX5_rests 90 = .ok (.iinc 4 1, 3) := by decide +kernel
theorem dX5_rests_93 : decode cX5_rests 93 = .ok (.goto (-25), 3) := by decide +kernel
theorem dX5_rests_96 : decode cX5_rests 96 = .ok (.aload_n 0, 1) := by decide +kernel
theorem dX5_rests_97 : decode cX5_rests 97 = .ok (.bipush 96, 2) := by decide +kernel
theorem dX5_rests_99 : decode cX5_rests 99 = .ok (.iload_n 1, 1) := by decide +kernel
theorem dX5_rests_100 : decode cX5_rests 100 = .ok (.iadd, 1) := by decide +kernel
theorem dX5_rests_101 : decode cX5_rests 101 = .ok (.lload_n 2, 1) := by decide +kernel
theorem dX5_rests_102 : decode cX5_rests 102 = .ok (.lastore, 1) := by decide +kernel
theorem dX5_rests_103 : decode cX5_rests 103 = .ok (.return_, 1) := by decide +kernel
set_option maxRecDepth 20000 in
theorem ggX5_firstOff_X5_p : GoodIn wsX5_firstOff wsX5_p := goodIn_r _ [4] (by decide +kernel) (by decide +kernel)
set_option maxRecDepth 20000 in
theorem gX5_firstOff_X5_p : GoodIn wsX5_firstOff (va_wsS RX5 82 yX5_p wsX5_p) := goodIn_app (goodIn_of _ (by decide +kernel)) ggX5_firstOff_X5_p
theorem dX5_firstOff_0 : decode cX5_firstOff 0 = .ok (.iconst 0, 1) := by decide +kernel
theorem dX5_firstOff_1 : decode cX5_firstOff 1 = .ok (.istore_n 2, 1) := by decide +kernel
theorem dX5_firstOff_2 : decode cX5_firstOff 2 = .ok (.iload_n 2, 1) := by decide +kernel
theorem dX5_firstOff_3 : decode cX5_firstOff 3 = .ok (.i2l, 1) := by decide +kernel
theorem dX5_firstOff_4 : decode cX5_firstOff 4 = .ok (.aload_n 0, 1) := by decide +kernel
theorem dX5_firstOff_5 : decode cX5_firstOff 5 = .ok (.bipush 7, 2) := by decide +kernel
theorem dX5_firstOff_7 : decode cX5_firstOff 7 = .ok (.laload, 1) := by decide +kernel
theorem dX5_firstOff_8 : decode cX5_firstOff 8 = .ok (.lcmp, 1) := by decide +kernel
theorem dX5_firstOff_9 : decode cX5_firstOff 9 = .ok (.ifCond .ge 53, 3) := by decide +kernel
theorem dX5_firstOff_12 : decode cX5_firstOff 12 = .ok (.aload_n 0, 1) := by decide +kernel
theorem dX5_firstOff_13 : decode cX5_firstOff 13 = .ok (.bipush 96, 2) := by decide +kernel
theorem dX5_firstOff_15 : decode cX5_firstOff 15 = .ok (.iload_n 2, 1) := by decide +kernel
theorem dX5_firstOff_16 : decode cX5_firstOff 16 = .ok (.iadd, 1) := by decide +kernel
theorem dX5_firstOff_17 : decode cX5_firstOff 17 = .ok (.laload, 1) := by decide +kernel
theorem dX5_firstOff_18 : decode cX5_firstOff 18 = .ok (.l2i, 1) := by decide +kernel
theorem dX5_firstOff_19 : decode cX5_firstOff 19 = .ok (.istore_n 3, 1) := by decide +kernel
theorem dX5_firstOff_20 : decode cX5_firstOff 20 = .ok (.aload_n 0, 1) := by decide +kernel
theorem dX5_firstOff_21 : decode cX5_firstOff 21 = .ok (.iload_n 3, 1) := by decide +kernel
theorem dX5_firstOff_22 : decode cX5_firstOff 22 = .ok (.iconst 2, 1) := by decide +kernel
theorem dX5_firstOff_23 : decode cX5_firstOff 23 = .ok (.invokestatic 82, 3) := by decide +kernel
theorem dX5_firstOff_26 : decode cX5_firstOff 26 = .ok (.laload, 1) := by decide +kernel
theorem dX5_firstOff_27 : decode cX5_firstOff 27 = .ok (.lconst 0, 1) := by decide +kernel
theorem dX5_firstOff_28 : decode cX5_firstOff 28 = .ok (.lcmp, 1) := by decide +kernel
theorem dX5_firstOff_29 : decode cX5_firstOff 29 = .ok (.ifCond .ne 27, 3) := by decide +kernel
theorem dX5_firstOff_32 : decode cX5_firstOff 32 = .ok (.iload_n 1, 1) := by decide +kernel
theorem dX5_firstOff_33 : decode cX5_firstOff 33 = .ok (.ifCond .ne 21, 3) := by decide +kernel
theorem dX5_firstOff_36 : decode cX5_firstOff 36 = .ok (.aload_n 0, 1) := by decide +kernel
theorem dX5_firstOff_37 : decode cX5_firstOff 37 = .ok (.iload_n 3, 1) := by decide +kernel
theorem dX5_firstOff_38 : decode cX5_firstOff 38 = .ok (.iconst 3, 1) := by decide +kernel
theorem dX5_firstOff_39 : decode cX5_firstOff 39 = .ok (.invokestatic 82, 3) := by decide +kernel
theorem dX5_firstOff_42 : decode cX5_firstOff 42 = .ok (.laload, 1) := by decide +kernel
theorem dX5_firstOff_43 : decode cX5_firstOff 43 = .ok (.aload_n 0, 1) := by decide +kernel
theorem dX5_firstOff_44 : decode cX5_firstOff 44 = .ok (.iload_n 3, 1) := by decide +kernel
theorem dX5_firstOff_45 : decode cX5_firstOff 45 = .ok (.iconst 1, 1) := by decide +kernel
theorem dX5_firstOff_46 : decode cX5_firstOff 46 = .ok (.invokestatic 82, 3) := by decide +kernel
theorem dX5_firstOff_49 : decode cX5_firstOff 49 = .ok (.laload, 1) := by decide +kernel
theorem dX5_firstOff_50 : decode cX5_firstOff 50 = .ok (.lcmp, 1) := by decide +kernel
theorem dX5_firstOff_51 : decode cX5_firstOff 51 = .ok (.ifCond .ge 5, 3) := by decide +kernel
theorem dX5_firstOff_54 : decode cX5_firstOff 54 = .ok (.iload_n 3, 1) := by decide +kernel
theorem dX5_firstOff_55 : decode cX5_firstOff 55 = .ok (.ireturn, 1) := by decide +kernel
theorem dX5_firstOff_56 : decode cX5_firstOff 56 = .ok (.iinc 2 1, 3) := by decide +kernel
theorem dX5_firstOff_59 : decode cX5_firstOff 59 = .ok (.goto (-57), 3) := by decide +kernel
theorem dX5_firstOff_62 : decode cX5_firstOff 62 = .ok (.iconst (-1), 1) := by decide +kernel
theorem dX5_firstOff_63 : decode cX5_firstOff 63 = .ok (.ireturn, 1) := by decide +kernel
set_option maxRecDepth 20000 in
theorem ggX5_starter_X5_many : GoodIn wsX5_starter wsX5_many := goodIn_r _ [4, 5, 6, 3, 7] (by decide +kernel) (by decide +kernel)
set_option maxRecDepth 20000 in
theorem gX5_starter_X5_many : GoodIn wsX5_starter (va_wsS RX5 91 yX5_many wsX5_many) := goodIn_app (goodIn_of _ (by decide +kernel)) ggX5_starter_X5_many
set_option maxRecDepth 20000 in
theorem ggX5_starter_X5_firstOff : GoodIn wsX5_starter wsX5_firstOff := goodIn_r _ [10, 5, 6, 3, 7] (by decide +kernel) (by decide +kernel)
set_option maxRecDepth 20000 in
theorem gX5_starter_X5_firstOff : GoodIn wsX5_starter (va_wsS RX5 95 yX5_firstOff wsX5_firstOff) := goodIn_app (goodIn_of _ (by decide +kernel)) ggX5_starter_X5_firstOff
theorem dX5_starter_0 : decode cX5_starter 0 = .ok (.iconst 0, 1) := by decide +kernel
theorem dX5_starter_1 : decode cX5_starter 1 = .ok (.istore_n 1, 1) := by decide +kernel
theorem dX5_starter_2 : decode cX5_starter 2 = .ok (.iload_n 1, 1) := by decide +kernel
theorem dX5_starter_3 : decode cX5_starter 3 = .ok (.i2l, 1) := by decide +kernel
theorem dX5_starter_4 : decode cX5_starter 4 = .ok (.aload_n 0, 1) := by decide +kernel
theorem dX5_starter_5 : decode cX5_starter 5 = .ok (.bipush 7, 2) := by decide +kernel
theorem dX5_starter_7 : decode cX5_starter 7 = .ok (.laload, 1) := by decide +kernel
theorem dX5_starter_8 : decode cX5_starter 8 = .ok (.lcmp, 1) := by decide +kernel
theorem dX5_starter_9 : decode cX5_starter 9 = .ok (.ifCond .ge 26, 3) := by decide +kernel
theorem dX5_starter_12 : decode cX5_starter 12 = .ok (.aload_n 0, 1) := by decide +kernel
theorem dX5_starter_13 : decode cX5_starter 13 = .ok (.iconst 1, 1) := by decide +kernel
theorem dX5_starter_14 : decode cX5_starter 14 = .ok (.laload, 1) := by decide +kernel
theorem dX5_starter_15 : decode cX5_starter 15 = .ok (.aload_n 0, 1) := by decide +kernel
theorem dX5_starter_16 : decode cX5_starter 16 = .ok (.iconst 2, 1) := by decide +kernel
theorem dX5_starter_17 : decode cX5_starter 17 = .ok (.laload, 1) := by decide +kernel
theorem dX5_starter_18 : decode cX5_starter 18 = .ok (.iload_n 1, 1) := by decide +kernel
theorem dX5_starter_19 : decode cX5_starter 19 = .ok (.i2l, 1) := by decide +kernel
theorem dX5_starter_20 : decode cX5_starter 20 = .ok (.aload_n 0, 1) := by decide +kernel
theorem dX5_starter_21 : decode cX5_starter 21 = .ok (.iconst 4, 1) := by decide +kernel
theorem dX5_starter_22 : decode cX5_starter 22 = .ok (.laload, 1) := by decide +kernel
theorem dX5_starter_23 : decode cX5_starter 23 = .ok (.lmul, 1) := by decide +kernel
theorem dX5_starter_24 : decode cX5_starter 24 = .ok (.lsub, 1) := by decide +kernel
theorem dX5_starter_25 : decode cX5_starter 25 = .ok (.lcmp, 1) := by decide +kernel
theorem dX5_starter_26 : decode cX5_starter 26 = .ok (.ifCond .ge 9, 3) := by decide +kernel
theorem dX5_starter_29 : decode cX5_starter 29 = .ok (.iinc 1 1, 3) := by decide +kernel
theorem dX5_starter_32 : decode cX5_starter 32 = .ok (.goto (-30), 3) := by decide +kernel
theorem dX5_starter_35 : decode cX5_starter 35 = .ok (.aload_n 0, 1) := by decide +kernel
theorem dX5_starter_36 : decode cX5_starter 36 = .ok (.iconst 1, 1) := by decide +kernel
theorem dX5_starter_37 : decode cX5_starter 37 = .ok (.invokestatic 91, 3) := by decide +kernel
theorem dX5_starter_40 : decode cX5_starter 40 = .ok (.iload_n 1, 1) := by decide +kernel
theorem dX5_starter_41 : decode cX5_starter 41 = .ok (.if_icmp .lt 5, 3) := by decide +kernel
theorem dX5_starter_44 : decode cX5_starter 44 = .ok (.iconst (-1), 1) := by decide +kernel
theorem dX5_starter_45 : decode cX5_starter 45 = .ok (.ireturn, 1) := by decide +kernel
theorem dX5_starter_46 : decode cX5_starter 46 = .ok (.aload_n 0, 1) := by decide +kernel
theorem dX5_starter_47 : decode cX5_starter 47 = .ok (.iconst 0, 1) := by decide +kernel
theorem dX5_starter_48 : decode cX5_starter 48 = .ok (.invokestatic 95, 3) := by decide +kernel
theorem dX5_starter_51 : decode cX5_starter 51 = .ok (.istore_n 2, 1) := by decide +kernel
theorem dX5_starter_52 : decode cX5_starter 52 = .ok (.iload_n 2, 1) := by decide +kernel
theorem dX5_starter_53 : decode cX5_starter 53 = .ok (.iconst (-1), 1) := by decide +kernel
theorem dX5_starter_54 : decode cX5_starter 54 = .ok (.if_icmp .ne 20, 3) := by decide +kernel
theorem dX5_starter_57 : decode cX5_starter 57 = .ok (.aload_n 0, 1) := by decide +kernel
theorem dX5_starter_58 : decode cX5_starter 58 = .ok (.bipush 6, 2) := by decide +kernel
theorem dX5_starter_60 : decode cX5_starter 60 = .ok (.laload, 1) := by decide +kernel
theorem dX5_starter_61 : decode cX5_starter 61 = .ok (.lconst 1, 1) := by decide +kernel
theorem dX5_starter_62 : decode cX5_starter 62 = .ok (.lcmp, 1) := by decide +kernel
theorem dX5_starter_63 : decode cX5_starter 63 = .ok (.ifCond .ne 11, 3) := by decide +kernel
theorem dX5_starter_66 : decode cX5_starter 66 = .ok (.aload_n 0, 1) := by decide +kernel
theorem dX5_starter_67 : decode cX5_starter 67 = .ok (.iconst 1, 1) := by decide +kernel
theorem dX5_starter_68 : decode cX5_starter 68 = .ok (.invokestatic 95, 3) := by decide +kernel
theorem dX5_starter_71 : decode cX5_starter 71 = .ok (.goto 4, 3) := by decide +kernel
theorem dX5_starter_74 : decode cX5_starter 74 = .ok (.iload_n 2, 1) := by decide +kernel
theorem dX5_starter_75 : decode cX5_starter 75 = .ok (.ireturn, 1) := by decide +kernel
set_option maxRecDepth 20000 in
theorem ggX5_logs_X5_p : GoodIn wsX5_logs wsX5_p := goodIn_r _ [5] (by decide +kernel) (by decide +kernel)
set_option maxRecDepth 20000 in
theorem gX5_logs_X5_p : GoodIn wsX5_logs (va_wsS RX5 82 yX5_p wsX5_p) := goodIn_app (goodIn_of _ (by decide +kernel)) ggX5_logs_X5_p
theorem dX5_logs_0 : decode cX5_logs 0 = .ok (.sipush 137, 3) := by decide +kernel
theorem dX5_logs_3 : decode cX5_logs 3 = .ok (.istore_n 2, 1) := by decide +kernel
theorem dX5_logs_4 : decode cX5_logs 4 = .ok (.iload_n 2, 1) := by decide +kernel
theorem dX5_logs_5 : decode cX5_logs 5 = .ok (.bipush 105, 2) := by decide +kernel
theorem dX5_logs_7 : decode cX5_logs 7 = .ok (.if_icmp .lt 17, 3) := by decide +kernel
theorem dX5_logs_10 : decode cX5_logs 10 = .ok (.aload_n 0, 1) := by decide +kernel
theorem dX5_logs_11 : decode cX5_logs 11 = .ok (.iload_n 2, 1) := by decide +kernel
theorem dX5_logs_12 : decode cX5_logs 12 = .ok (.aload_n 0, 1) := by decide +kernel
theorem dX5_logs_13 : decode cX5_logs 13 = .ok (.iload_n 2, 1) := by decide +kernel
theorem dX5_logs_14 : decode cX5_logs 14 = .ok (.iconst 3, 1) := by decide +kernel
theorem dX5_logs_15 : decode cX5_logs 15 = .ok (.isub, 1) := by decide +kernel
theorem dX5_logs_16 : decode cX5_logs 16 = .ok (.laload, 1) := by decide +kernel
theorem dX5_logs_17 : decode cX5_logs 17 = .ok (.lastore, 1) := by decide +kernel
theorem dX5_logs_18 : decode cX5_logs 18 = .ok (.iinc 2 (-1), 3) := by decide +kernel

theorem dX5_digest_47 : decode cX5_digest 47 = .ok (.if_icmp .ge 24, 3) := by decide +kernel
theorem dX5_digest_50 : decode cX5_digest 50 = .ok (.ldc2_w 220, 3) := by decide +kernel
theorem dX5_digest_53 : decode cX5_digest 53 = .ok (.lload_n 1, 1) := by decide +kernel
theorem dX5_digest_54 : decode cX5_digest 54 = .ok (.lmul, 1) := by decide +kernel
theorem dX5_digest_55 : decode cX5_digest 55 = .ok (.aload_n 0, 1) := by decide +kernel
theorem dX5_digest_56 : decode cX5_digest 56 = .ok (.getfield 7, 3) := by decide +kernel
theorem dX5_digest_59 : decode cX5_digest 59 = .ok (.iconst 4, 1) := by decide +kernel
theorem dX5_digest_60 : decode cX5_digest 60 = .ok (.iload_n 3, 1) := by decide +kernel
theorem dX5_digest_61 : decode cX5_digest 61 = .ok (.iadd, 1) := by decide +kernel
theorem dX5_digest_62 : decode cX5_digest 62 = .ok (.laload, 1) := by decide +kernel
theorem dX5_digest_63 : decode cX5_digest 63 = .ok (.ladd, 1) := by decide +kernel
theorem dX5_digest_64 : decode cX5_digest 64 = .ok (.lstore_n 1, 1) := by decide +kernel
theorem dX5_digest_65 : decode cX5_digest 65 = .ok (.iinc 3 1, 3) := by decide +kernel
theorem dX5_digest_68 : decode cX5_digest 68 = .ok (.goto (-23), 3) := by decide +kernel
theorem dX5_digest_71 : decode cX5_digest 71 = .ok (.iconst 0, 1) := by decide +kernel
theorem dX5_digest_72 : decode cX5_digest 72 = .ok (.istore_n 3, 1) := by decide +kernel
theorem dX5_digest_73 : decode cX5_digest 73 = .ok (.iload_n 3, 1) := by decide +kernel
theorem dX5_digest_74 : decode cX5_digest 74 = .ok (.bipush 24, 2) := by decide +kernel
theorem dX5_digest_76 : decode cX5_digest 76 = .ok (.if_icmp .ge 25, 3) := by decide +kernel
theorem dX5_digest_79 : decode cX5_digest 79 = .ok (.ldc2_w 220, 3) := by decide +kernel
theorem dX5_digest_82 : decode cX5_digest 82 = .ok (.lload_n 1, 1) := by decide +kernel
theorem dX5_digest_83 : decode cX5_digest 83 = .ok (.lmul, 1) := by decide +kernel
theorem dX5_digest_84 : decode cX5_digest 84 = .ok (.aload_n 0, 1) := by decide +kernel
theorem dX5_digest_85 : decode cX5_digest 85 = .ok (.getfield 7, 3) := by decide +kernel
theorem dX5_digest_88 : decode cX5_digest 88 = .ok (.bipush 24, 2) := by decide +kernel
theorem dX5_digest_90 : decode cX5_digest 90 = .ok (.iload_n 3, 1) := by decide +kernel
theorem dX5_digest_91 : decode cX5_digest 91 = .ok (.iadd, 1) := by decide +kernel
theorem dX5_digest_92 : decode cX5_digest 92 = .ok (.laload, 1) := by decide +kernel
theorem dX5_digest_93 : decode cX5_digest 93 = .ok (.ladd, 1) := by decide +kernel
theorem dX5_digest_94 : decode cX5_digest 94 = .ok (.lstore_n 1, 1) := by decide +kernel
theorem dX5_digest_95 : decode cX5_digest 95 = .ok (.iinc 3 1, 3) := by decide +kernel
theorem dX5_digest_98 : decode cX5_digest 98 = .ok (.goto (-25), 3) := by decide +kernel
theorem dX5_digest_101 : decode cX5_digest 101 = .ok (.iconst 0, 1) := by decide +kernel
theorem dX5_digest_102 : decode cX5_digest 102 = .ok (.istore_n 3, 1) := by decide +kernel
theorem dX5_digest_103 : decode cX5_digest 103 = .ok (.iload_n 3, 1) := by decide +kernel
theorem dX5_digest_104 : decode cX5_digest 104 = .ok (.iconst 5, 1) := by decide +kernel
theorem dX5_digest_105 : decode cX5_digest 105 = .ok (.if_icmp .ge 25, 3) := by decide +kernel
theorem dX5_digest_108 : decode cX5_digest 108 = .ok (.ldc2_w 220, 3) := by decide +kernel
theorem dX5_digest_111 : decode cX5_digest 111 = .ok (.lload_n 1, 1) := by decide +kernel
theorem dX5_digest_112 : decode cX5_digest 112 = .ok (.lmul, 1) := by decide +kernel
theorem dX5_digest_113 : decode cX5_digest 113 = .ok (.aload_n 0, 1) := by decide +kernel
theorem dX5_digest_114 : decode cX5_digest 114 = .ok (.getfield 7, 3) := by decide +kernel
theorem dX5_digest_117 : decode cX5_digest 117 = .ok (.bipush 14, 2) := by decide +kernel
theorem dX5_digest_119 : decode cX5_digest 119 = .ok (.iload_n 3, 1) := by decide +kernel
theorem dX5_digest_120 : decode cX5_digest 120 = .ok (.iadd, 1) := by decide +kernel
theorem dX5_digest_121 : decode cX5_digest 121 = .ok (.laload, 1) := by decide +kernel
theorem dX5_digest_122 : decode cX5_digest 122 = .ok (.ladd, 1) := by decide +kernel
theorem dX5_digest_123 : decode cX5_digest 123 = .ok (.lstore_n 1, 1) := by decide +kernel
theorem dX5_digest_124 : decode cX5_digest 124 = .ok (.iinc 3 1, 3) := by decide +kernel
theorem dX5_digest_127 : decode cX5_digest 127 = .ok (.goto (-24), 3) := by decide +kernel
theorem dX5_digest_130 : decode cX5_digest 130 = .ok (.ldc2_w 220, 3) := by decide +kernel
theorem dX5_digest_133 : decode cX5_digest 133 = .ok (.lload_n 1, 1) := by decide +kernel
theorem dX5_digest_134 : decode cX5_digest 134 = .ok (.lmul, 1) := by decide +kernel
theorem dX5_digest_135 : decode cX5_digest 135 = .ok (.aload_n 0, 1) := by decide +kernel
theorem dX5_digest_136 : decode cX5_digest 136 = .ok (.getfield 7, 3) := by decide +kernel
theorem dX5_digest_139 : decode cX5_digest 139 = .ok (.bipush 12, 2) := by decide +kernel
theorem dX5_digest_141 : decode cX5_digest 141 = .ok (.laload, 1) := by decide +kernel
theorem dX5_digest_142 : decode cX5_digest 142 = .ok (.ladd, 1) := by decide +kernel
theorem dX5_digest_143 : decode cX5_digest 143 = .ok (.lstore_n 1, 1) := by decide +kernel
theorem dX5_digest_144 : decode cX5_digest 144 = .ok (.iconst 0, 1) := by decide +kernel
theorem dX5_digest_145 : decode cX5_digest 145 = .ok (.istore_n 3, 1) := by decide +kernel
theorem dX5_digest_146 : decode cX5_digest 146 = .ok (.iload_n 3, 1) := by decide +kernel
theorem dX5_digest_147 : decode cX5_digest 147 = .ok (.i2l, 1) := by decide +kernel
theorem dX5_digest_148 : decode cX5_digest 148 = .ok (.ldc2_w 222, 3) := by decide +kernel
theorem dX5_digest_151 : decode cX5_digest 151 = .ok (.aload_n 0, 1) := by decide +kernel
theorem dX5_digest_152 : decode cX5_digest 152 = .ok (.getfield 7, 3) := by decide +kernel
theorem dX5_digest_155 : decode cX5_digest 155 = .ok (.bipush 7, 2) := by decide +kernel
theorem dX5_digest_157 : decode cX5_digest 157 = .ok (.laload, 1) := by decide +kernel
theorem dX5_digest_158 : decode cX5_digest 158 = .ok (.lmul, 1) := by decide +kernel
theorem dX5_digest_159 : decode cX5_digest 159 = .ok (.lcmp, 1) := by decide +kernel
theorem dX5_digest_160 : decode cX5_digest 160 = .ok (.ifCond .ge 29, 3) := by decide +kernel
theorem dX5_digest_163 : decode cX5_digest 163 = .ok (.ldc2_w 220, 3) := by decide +kernel
theorem dX5_digest_166 : decode cX5_digest 166 = .ok (.lload_n 1, 1) := by decide +kernel
theorem dX5_digest_167 : decode cX5_digest 167 = .ok (.lmul, 1) := by decide +kernel
theorem dX5_digest_168 : decode cX5_digest 168 = .ok (.aload_n 0, 1) := by decide +kernel
theorem dX5_digest_169 : decode cX5_digest 169 = .ok (.iload_n 3, 1) := by decide +kernel
theorem dX5_digest_170 : decode cX5_digest 170 = .ok (.bipush 8, 2) := by decide +kernel
theorem dX5_digest_172 : decode cX5_digest 172 = .ok (.idiv, 1) := by decide +kernel
theorem dX5_digest_173 : decode cX5_digest 173 = .ok (.iload_n 3, 1) := by decide +kernel
theorem dX5_digest_174 : decode cX5_digest 174 = .ok (.bipush 8, 2) := by decide +kernel
theorem dX5_digest_176 : decode cX5_digest 176 = .ok (.irem, 1) := by decide +kernel
theorem dX5_digest_177 : decode cX5_digest 177 = .ok (.invokevirtual 137, 3) := by decide +kernel
theorem dX5_digest_180 : decode cX5_digest 180 = .ok (.i2l, 1) := by decide +kernel
theorem dX5_digest_181 : decode cX5_digest 181 = .ok (.ladd, 1) := by decide +kernel
theorem dX5_digest_182 : decode cX5_digest 182 = .ok (.lstore_n 1, 1) := by decide +kernel
theorem dX5_digest_183 : decode cX5_digest 183 = .ok (.iinc 3 1, 3) := by decide +kernel
theorem dX5_digest_186 : decode cX5_digest 186 = .ok (.goto (-40), 3) := by decide +kernel
theorem dX5_digest_189 : decode cX5_digest 189 = .ok (.iconst 0, 1) := by decide +kernel
theorem dX5_digest_190 : decode cX5_digest 190 = .ok (.istore_n 3, 1) := by decide +kernel
theorem dX5_digest_191 : decode cX5_digest 191 = .ok (.iload_n 3, 1) := by decide +kernel
theorem dX5_digest_192 : decode cX5_digest 192 = .ok (.i2l, 1) := by decide +kernel
theorem dX5_digest_193 : decode cX5_digest 193 = .ok (.ldc2_w 224, 3) := by decide +kernel
theorem dX5_digest_196 : decode cX5_digest 196 = .ok (.aload_n 0, 1) := by decide +kernel
theorem dX5_digest_197 : decode cX5_digest 197 = .ok (.getfield 7, 3) := by decide +kernel
theorem dX5_digest_200 : decode cX5_digest 200 = .ok (.bipush 13, 2) := by decide +kernel
theorem dX5_digest_202 : decode cX5_digest 202 = .ok (.laload, 1) := by decide +kernel
theorem dX5_digest_203 : decode cX5_digest 203 = .ok (.lmul, 1) := by decide +kernel
theorem dX5_digest_204 : decode cX5_digest 204 = .ok (.lcmp, 1) := by decide +kernel
theorem dX5_digest_205 : decode cX5_digest 205 = .ok (.ifCond .ge 25, 3) := by decide +kernel
theorem dX5_digest_208 : decode cX5_digest 208 = .ok (.ldc2_w 220, 3) := by decide +kernel
theorem dX5_digest_211 : decode cX5_digest 211 = .ok (.lload_n 1, 1) := by decide +kernel
theorem dX5_digest_212 : decode cX5_digest 212 = .ok (.lmul, 1) := by decide +kernel
theorem dX5_digest_213 : decode cX5_digest 213 = .ok (.aload_n 0, 1) := by decide +kernel
theorem dX5_digest_214 : decode cX5_digest 214 = .ok (.getfield 7, 3) := by decide +kernel
theorem dX5_digest_217 : decode cX5_digest 217 = .ok (.bipush 102, 2) := by decide +kernel
theorem dX5_digest_219 : decode cX5_digest 219 = .ok (.iload_n 3, 1) := by decide +kernel
theorem dX5_digest_220 : decode cX5_digest 220 = .ok (.iadd, 1) := by decide +kernel
theorem dX5_digest_221 : decode cX5_digest 221 = .ok (.laload, 1) := by decide +kernel
theorem dX5_digest_222 : decode cX5_digest 222 = .ok (.ladd, 1) := by decide +kernel
theorem dX5_digest_223 : decode cX5_digest 223 = .ok (.lstore_n 1, 1) := by decide +kernel
theorem dX5_digest_224 : decode cX5_digest 224 = .ok (.iinc 3 1, 3) := by decide +kernel
theorem dX5_digest_227 : decode cX5_digest 227 = .ok (.goto (-36), 3) := by decide +kernel
theorem dX5_digest_230 : decode cX5_digest 230 = .ok (.ldc2_w 220, 3) := by decide +kernel
theorem dX5_digest_233 : decode cX5_digest 233 = .ok (.lload_n 1, 1) := by decide +kernel
theorem dX5_digest_234 : decode cX5_digest 234 = .ok (.lmul, 1) := by decide +kernel
theorem dX5_digest_235 : decode cX5_digest 235 = .ok (.aload_n 0, 1) := by decide +kernel
theorem dX5_digest_236 : decode cX5_digest 236 = .ok (.getfield 52, 3) := by decide +kernel
theorem dX5_digest_239 : decode cX5_digest 239 = .ok (.i2l, 1) := by decide +kernel
theorem dX5_digest_240 : decode cX5_digest 240 = .ok (.ladd, 1) := by decide +kernel
theorem dX5_digest_241 : decode cX5_digest 241 = .ok (.lreturn, 1) := by decide +kernel
theorem dJ9_max_7cf53_0 : decode cJ9_max_7cf53 0 = .ok (.iload_n 0, 1) := by decide +kernel
theorem dJ9_max_7cf53_1 : decode cJ9_max_7cf53 1 = .ok (.iload_n 1, 1) := by decide +kernel
theorem dJ9_max_7cf53_2 : decode cJ9_max_7cf53 2 = .ok (.if_icmp .lt 7, 3) := by decide +kernel
theorem dJ9_max_7cf53_5 : decode cJ9_max_7cf53 5 = .ok (.iload_n 0, 1) := by decide +kernel
theorem dJ9_max_7cf53_6 : decode cJ9_max_7cf53 6 = .ok (.goto 4, 3) := by decide +kernel
theorem dJ9_max_7cf53_9 : decode cJ9_max_7cf53 9 = .ok (.iload_n 1, 1) := by decide +kernel
theorem dJ9_max_7cf53_10 : decode cJ9_max_7cf53 10 = .ok (.ireturn, 1) := by decide +kernel
theorem dJ9_min_7cf53_0 : decode cJ9_min_7cf53 0 = .ok (.iload_n 0, 1) := by decide +kernel
theorem dJ9_min_7cf53_1 : decode cJ9_min_7cf53 1 = .ok (.iload_n 1, 1) := by decide +kernel
theorem dJ9_min_7cf53_2 : decode cJ9_min_7cf53 2 = .ok (.if_icmp .gt 7, 3) := by decide +kernel
theorem dJ9_min_7cf53_5 : decode cJ9_min_7cf53 5 = .ok (.iload_n 0, 1) := by decide +kernel
theorem dJ9_min_7cf53_6 : decode cJ9_min_7cf53 6 = .ok (.goto 4, 3) := by decide +kernel
theorem dJ9_min_7cf53_9 : decode cJ9_min_7cf53 9 = .ok (.iload_n 1, 1) := by decide +kernel
theorem dJ9_min_7cf53_10 : decode cJ9_min_7cf53 10 = .ok (.ireturn, 1) := by decide +kernel
set_option maxRecDepth 20000 in
theorem ggL_setSize_X4_setSize : GoodIn wsL_setSize wsX4_setSize := goodIn_ca (goodIn_ca (goodIn_r _ [7, 8, 9, 10, 11, 12, 13, 14, 15, 16, 17, 18, 6, 19, 20, 21, 22, 23, 24, 25, 26, 27, 28, 29, 30, 31, 32, 33, 34, 35, 36, 37, 38, 39, 40, 41, 42, 43, 44, 45, 46, 47, 48, 49, 50, 51, 52, 53, 54, 55, 56, 57, 58, 59, 60, 61, 62, 63, 64, 65, 66, 67, 68, 69, 70, 71, 72, 73, 74, 75, 76, 77, 78, 79, 80, 81, 82, 83, 84, 85, 86, 87, 88, 89, 90, 91, 92, 93, 94, 95, 96, 97, 98, 99, 100, 101, 102, 103, 104, 105, 106, 107, 108, 109] (by decide +kernel) (by decide +kernel)) (goodIn_sub (fun _ h => List.mem_cons_of_mem _ (List.mem_append_left _ (List.mem_append_right _ h))) (by decide +kernel))) (goodIn_sub (fun _ h => List.mem_cons_of_mem _ (List.mem_append_right _ h)) (by decide +kernel))
set_option maxRecDepth 20000 in
theorem gL_setSize_X4_setSize : GoodIn wsL_setSize (wsV RL 7 RX4 yX4_setSize wsX4_setSize) := goodIn_app (goodIn_of _ (by decide +kernel)) ggL_setSize_X4_setSize
theorem dL_setSize_0 : decode cL_setSize 0 = .ok (.aload_n 2, 1) := by decide +kernel
theorem dL_setSize_1 : decode cL_setSize 1 = .ok (.iconst 0, 1) := by decide +kernel
theorem dL_setSize_2 : decode cL_setSize 2 = .ok (.aload_n 0, 1) := by decide +kernel
theorem dL_setSize_3 : decode cL_setSize 3 = .ok (.iload_n 1, 1) := by decide +kernel
theorem dL_setSize_4 : decode cL_setSize 4 = .ok (.invokevirtual 7, 3) := by decide +kernel
theorem dL_setSize_7 : decode cL_setSize 7 = .ok (.i2l, 1) := by decide +kernel
theorem dL_setSize_8 : decode cL_setSize 8 = .ok (.lastore, 1) := by decide +kernel
theorem dL_setSize_9 : decode cL_setSize 9 = .ok (.goto 9, 3) := by decide +kernel
theorem dL_setSize_12 : decode cL_setSize 12 = .ok (.astore_n 3, 1) := by decide +kernel
theorem dL_setSize_13 : decode cL_setSize 13 = .ok (.iconst 1, 1) := by decide +kernel
theorem dL_setSize_14 : decode cL_setSize 14 = .ok (.ireturn, 1) := by decide +kernel
theorem dL_setSize_15 : decode cL_setSize 15 = .ok (.astore_n 3, 1) := by decide +kernel
theorem dL_setSize_16 : decode cL_setSize 16 = .ok (.iconst 2, 1) := by decide +kernel
theorem dL_setSize_17 : decode cL_setSize 17 = .ok (.ireturn, 1) := by decide +kernel
theorem dL_setSize_18 : decode cL_setSize 18 = .ok (.iconst 0, 1) := by decide +kernel
theorem dL_setSize_19 : decode cL_setSize 19 = .ok (.ireturn, 1) := by decide +kernel
set_option maxRecDepth 20000 in
theorem ggL_setBand_X4_setBand : GoodIn wsL_setBand wsX4_setBand := goodIn_ca (goodIn_ca (goodIn_r _ [7, 8, 9, 10, 11, 12, 13, 14, 15, 16, 17, 18, 6, 19, 20, 21, 22, 23, 24, 25, 26, 27, 28, 29, 30, 31, 32, 33, 34, 35, 36, 37, 38, 39, 40, 41, 42, 43, 44, 45, 46, 47, 48, 49, 50, 51, 52, 53, 54, 55, 56, 57, 58, 59, 60, 61, 62, 63, 64, 65, 66, 67, 68, 69, 70, 71, 72, 73, 74, 75, 76, 77, 78, 79, 80, 81, 82, 83, 84, 85, 86, 87, 88, 89, 90, 91, 92, 93, 94, 95, 96, 97, 98, 99, 100, 101, 102, 103, 104, 105] (by decide +kernel) (by decide +kernel)) (goodIn_sub (fun _ h => List.mem_cons_of_mem _ (List.mem_append_left _ (List.mem_append_right _ h))) (by decide +kernel))) (goodIn_sub (fun _ h => List.mem_cons_of_mem _ (List.mem_append_right _ h)) (by decide +kernel))
set_option maxRecDepth 20000 in
theorem gL_setBand_X4_setBand : GoodIn wsL_setBand (wsV RL 17 RX4 yX4_setBand wsX4_setBand) := goodIn_app (goodIn_of _ (by decide +kernel)) ggL_setBand_X4_setBand
theorem dL_setBand_0 : decode cL_setBand 0 = .ok (.aload_n 3, 1) := by decide +kernel
theorem dL_setBand_1 : decode cL_setBand 1 = .ok (.iconst 0, 1) := by decide +kernel
theorem dL_setBand_2 : decode cL_setBand 2 = .ok (.aload_n 0, 1) := by decide +kernel
theorem dL_setBand_3 : decode cL_setBand 3 = .ok (.iload_n 1, 1) := by decide +kernel
theorem dL_setBand_4 : decode cL_setBand 4 = .ok (.iload_n 2, 1) := by decide +kernel
theorem dL_setBand_5 : decode cL_setBand 5 = .ok (.invokevirtual 17, 3) := by decide +kernel
theorem dL_setBand_8 : decode cL_setBand 8 = .ok (.i2l, 1) := by decide +kernel
theorem dL_setBand_9 : decode cL_setBand 9 = .ok (.lastore, 1) := by decide +kernel
theorem dL_setBand_10 : decode cL_setBand 10 = .ok (.goto 11, 3) := by decide +kernel
theorem dL_setBand_13 : decode cL_setBand 13 = .ok (.astore 4, 2) := by decide +kernel
theorem dL_setBand_15 : decode cL_setBand 15 = .ok (.iconst 1, 1) := by decide +kernel
theorem dL_setBand_16 : decode cL_setBand 16 = .ok (.ireturn, 1) := by decide +kernel
theorem dL_setBand_17 : decode cL_setBand 17 = .ok (.astore 4, 2) := by decide +kernel
theorem dL_setBand_19 : decode cL_setBand 19 = .ok (.iconst 2, 1) := by decide +kernel
theorem dL_setBand_20 : decode cL_setBand 20 = .ok (.ireturn, 1) := by decide +kernel
theorem dL_setBand_21 : decode cL_setBand 21 = .ok (.iconst 0, 1) := by decide +kernel
theorem dL_setBand_22 : decode cL_setBand 22 = .ok (.ireturn, 1) := by decide +kernel
set_option maxRecDepth 20000 in
theorem ggL_setLevel_X4_setLevel : GoodIn wsL_setLevel wsX4_setLevel := goodIn_ca (goodIn_ca (goodIn_r _ [7, 8, 9, 10, 11, 12, 13, 14, 15, 16, 17, 6, 18, 19, 20, 21, 22, 23, 24, 25, 26, 27, 28, 29, 30, 31, 32, 33, 34, 35, 36, 37, 38, 39, 40, 41, 42, 43, 44, 45, 46, 47, 48, 49, 50, 51, 52, 53, 54, 55, 56, 57, 58, 59, 60, 61, 62, 63, 64, 65, 66, 67, 68, 69, 70, 71, 72, 73, 74, 75, 76, 77, 78, 79, 80, 81, 82, 83, 84, 85, 86, 87, 88, 89, 90, 91, 92, 93, 94, 95, 96, 97, 98, 99, 100, 101, 102, 103, 104] (by decide +kernel) (by decide +kernel)) (goodIn_sub (fun _ h => List.mem_cons_of_mem _ (List.mem_append_left _ (List.mem_append_right _ h))) (by decide +kernel))) (goodIn_sub (fun _ h => List.mem_cons_of_mem _ (List.mem_append_right _ h)) (by decide +kernel))
set_option maxRecDepth 20000 in
theorem gL_setLevel_X4_setLevel : GoodIn wsL_setLevel (wsV RL 21 RX4 yX4_setLevel wsX4_setLevel) := goodIn_app (goodIn_of _ (by decide +kernel)) ggL_setLevel_X4_setLevel
theorem dL_setLevel_0 : decode cL_setLevel 0 = .ok (.aload_n 2, 1) := by decide +kernel
theorem dL_setLevel_1 : decode cL_setLevel 1 = .ok (.iconst 0, 1) := by decide +kernel
theorem dL_setLevel_2 : decode cL_setLevel 2 = .ok (.aload_n 0, 1) := by decide +kernel
theorem dL_setLevel_3 : decode cL_setLevel 3 = .ok (.iload_n 1, 1) := by decide +kernel
theorem dL_setLevel_4 : decode cL_setLevel 4 = .ok (.invokevirtual 21, 3) := by decide +kernel
theorem dL_setLevel_7 : decode cL_setLevel 7 = .ok (.i2l, 1) := by decide +kernel
theorem dL_setLevel_8 : decode cL_setLevel 8 = .ok (.lastore, 1) := by decide +kernel
theorem dL_setLevel_9 : decode cL_setLevel 9 = .ok (.goto 9, 3) := by decide +kernel
theorem dL_setLevel_12 : decode cL_setLevel 12 = .ok (.astore_n 3, 1) := by decide +kernel
theorem dL_setLevel_13 : decode cL_setLevel 13 = .ok (.iconst 1, 1) := by decide +kernel
theorem dL_setLevel_14 : decode cL_setLevel 14 = .ok (.ireturn, 1) := by decide +kernel
theorem dL_setLevel_15 : decode cL_setLevel 15 = .ok (.astore_n 3, 1) := by decide +kernel
theorem dL_setLevel_16 : decode cL_setLevel 16 = .ok (.iconst 2, 1) := by decide +kernel
theorem dL_setLevel_17 : decode cL_setLevel 17 = .ok (.ireturn, 1) := by decide +kernel
theorem dL_setLevel_18 : decode cL_setLevel 18 = .ok (.iconst 0, 1) := by decide +kernel
theorem dL_setLevel_19 : decode cL_setLevel 19 = .ok (.ireturn, 1) := by decide +kernel
set_option maxRecDepth 20000 in
theorem ggL_set_X4_set : GoodIn wsL_set wsX4_set := goodIn_ca (goodIn_r _ [6, 7, 8, 9, 10, 11, 12, 13, 14, 15, 16, 17, 18, 5, 19, 20, 21, 22, 23, 24, 25, 26, 27, 28, 29, 30, 31, 32, 33, 34, 35, 36, 37, 38, 39, 40, 41, 42, 43, 44, 45, 46, 47, 48, 49, 50, 51, 52, 53, 54, 55, 56, 57, 58, 59, 60, 61, 62, 63, 64, 65, 66, 67, 68, 69, 70, 71, 72, 73, 74, 75, 76, 77, 78, 79, 80, 81, 82, 83, 84, 85, 86, 87, 88, 89, 90, 91, 92, 93, 94, 95, 96, 97, 98, 99, 100, 101, 102, 103, 104, 105, 106, 107, 108, 109, 110, 111, 112] (by decide +kernel) (by decide +kernel)) (goodIn_sub (fun _ h => List.mem_cons_of_mem _ (List.mem_append_right _ h)) (by decide +kernel))
set_option maxRecDepth 20000 in
theorem gL_set_X4_set : GoodIn wsL_set (wsV RL 24 RX4 yX4_set wsX4_set) := goodIn_app (goodIn_of _ (by decide +kernel)) ggL_set_X4_set
theorem dL_set_0 : decode cL_set 0 = .ok (.aload_n 3, 1) := by decide +kernel
theorem dL_set_1 : decode cL_set 1 = .ok (.iconst 0, 1) := by decide +kernel
theorem dL_set_2 : decode cL_set 2 = .ok (.aload_n 0, 1) := by decide +kernel
theorem dL_set_3 : decode cL_set 3 = .ok (.iload_n 1, 1) := by decide +kernel
theorem dL_set_4 : decode cL_set 4 = .ok (.iload_n 2, 1) := by decide +kernel
theorem dL_set_5 : decode cL_set 5 = .ok (.invokevirtual 24, 3) := by decide +kernel
theorem dL_set_8 : decode cL_set 8 = .ok (.i2l, 1) := by decide +kernel
theorem dL_set_9 : decode cL_set 9 = .ok (.lastore, 1) := by decide +kernel
theorem dL_set_10 : decode cL_set 10 = .ok (.goto 7, 3) := by decide +kernel
theorem dL_set_13 : decode cL_set 13 = .ok (.astore 4, 2) := by decide +kernel
theorem dL_set_15 : decode cL_set 15 = .ok (.iconst 1, 1) := by decide +kernel
theorem dL_set_16 : decode cL_set 16 = .ok (.ireturn, 1) := by decide +kernel
theorem dL_set_17 : decode cL_set 17 = .ok (.iconst 0, 1) := by decide +kernel
theorem dL_set_18 : decode cL_set 18 = .ok (.ireturn, 1) := by decide +kernel
set_option maxRecDepth 20000 in
theorem ggL_setDemand_X4_setDemand : GoodIn wsL_setDemand wsX4_setDemand := goodIn_ca (goodIn_ca (goodIn_r _ [7, 8, 9, 10, 11, 12, 13, 14, 6, 15, 16, 17, 18, 19, 20, 21, 22, 23, 24, 25, 26, 27, 28, 29, 30, 31, 32, 33, 34, 35, 36, 37, 38, 39, 40, 41, 42, 43, 44, 45, 46, 47, 48, 49, 50, 51, 52, 53, 54, 55, 56, 57, 58, 59, 60, 61, 62, 63, 64, 65, 66, 67, 68, 69, 70, 71, 72, 73, 74, 75, 76, 77, 78, 79, 80, 81, 82, 83, 84, 85, 86, 87, 88, 89, 90, 91, 92, 93, 94, 95, 96, 97, 98, 99, 100, 101, 102, 103, 104, 105, 106, 107, 108, 109, 110, 111, 112, 113, 114, 115, 116] (by decide +kernel) (by decide +kernel)) (goodIn_sub (fun _ h => List.mem_cons_of_mem _ (List.mem_append_left _ (List.mem_append_right _ h))) (by decide +kernel))) (goodIn_sub (fun _ h => List.mem_cons_of_mem _ (List.mem_append_right _ h)) (by decide +kernel))
set_option maxRecDepth 20000 in
theorem gL_setDemand_X4_setDemand : GoodIn wsL_setDemand (wsV RL 27 RX4 yX4_setDemand wsX4_setDemand) := goodIn_app (goodIn_of _ (by decide +kernel)) ggL_setDemand_X4_setDemand
theorem dL_setDemand_0 : decode cL_setDemand 0 = .ok (.aload_n 3, 1) := by decide +kernel
theorem dL_setDemand_1 : decode cL_setDemand 1 = .ok (.iconst 0, 1) := by decide +kernel
theorem dL_setDemand_2 : decode cL_setDemand 2 = .ok (.aload_n 0, 1) := by decide +kernel
theorem dL_setDemand_3 : decode cL_setDemand 3 = .ok (.iload_n 1, 1) := by decide +kernel
theorem dL_setDemand_4 : decode cL_setDemand 4 = .ok (.iload_n 2, 1) := by decide +kernel
theorem dL_setDemand_5 : decode cL_setDemand 5 = .ok (.invokevirtual 27, 3) := by decide +kernel
theorem dL_setDemand_8 : decode cL_setDemand 8 = .ok (.i2l, 1) := by decide +kernel
theorem dL_setDemand_9 : decode cL_setDemand 9 = .ok (.lastore, 1) := by decide +kernel
theorem dL_setDemand_10 : decode cL_setDemand 10 = .ok (.goto 11, 3) := by decide +kernel
theorem dL_setDemand_13 : decode cL_setDemand 13 = .ok (.astore 4, 2) := by decide +kernel
theorem dL_setDemand_15 : decode cL_setDemand 15 = .ok (.iconst 1, 1) := by decide +kernel
theorem dL_setDemand_16 : decode cL_setDemand 16 = .ok (.ireturn, 1) := by decide +kernel
theorem dL_setDemand_17 : decode cL_setDemand 17 = .ok (.astore 4, 2) := by decide +kernel
theorem dL_setDemand_19 : decode cL_setDemand 19 = .ok (.iconst 2, 1) := by decide +kernel
theorem dL_setDemand_20 : decode cL_setDemand 20 = .ok (.ireturn, 1) := by decide +kernel
theorem dL_setDemand_21 : decode cL_setDemand 21 = .ok (.iconst 0, 1) := by decide +kernel
theorem dL_setDemand_22 : decode cL_setDemand 22 = .ok (.ireturn, 1) := by decide +kernel
set_option maxRecDepth 20000 in
theorem ggL_addPump_X4_addPump : GoodIn wsL_addPump wsX4_addPump := goodIn_ca (goodIn_ca (goodIn_r _ [7, 8, 9, 10, 11, 12, 13, 14, 15, 16, 6, 17, 18, 19, 20, 21, 22, 23, 24, 25, 26, 27, 28, 29, 30, 31, 32, 33, 34, 35, 36, 37, 38, 39, 40, 41, 42, 43, 44, 45, 46, 47, 48, 49, 50, 51, 52, 53, 54, 55, 56, 57, 58, 59, 60, 61, 62, 63, 64, 65, 66, 67, 68, 69, 70, 71, 72, 73, 74, 75, 76, 77, 78, 79, 80, 81, 82, 83, 84, 85, 86, 87, 88, 89, 90, 91, 92, 93, 94, 95, 96, 97, 98, 99, 100, 101, 102, 103, 104, 105, 106, 107, 108, 109, 110, 111, 112, 113, 114] (by decide +kernel) (by decide +kernel)) (goodIn_sub (fun _ h => List.mem_cons_of_mem _ (List.mem_append_left _ (List.mem_append_right _ h))) (by decide +kernel))) (goodIn_sub (fun _ h => List.mem_cons_of_mem _ (List.mem_append_right _ h)) (by decide +kernel))
set_option maxRecDepth 20000 in
theorem gL_addPump_X4_addPump : GoodIn wsL_addPump (wsV RL 32 RX4 yX4_addPump wsX4_addPump) := goodIn_app (goodIn_of _ (by decide +kernel)) ggL_addPump_X4_addPump
theorem dL_addPump_0 : decode cL_addPump 0 = .ok (.aload_n 3, 1) := by decide +kernel
theorem dL_addPump_1 : decode cL_addPump 1 = .ok (.iconst 0, 1) := by decide +kernel
theorem dL_addPump_2 : decode cL_addPump 2 = .ok (.aload_n 0, 1) := by decide +kernel
theorem dL_addPump_3 : decode cL_addPump 3 = .ok (.iload_n 1, 1) := by decide +kernel
theorem dL_addPump_4 : decode cL_addPump 4 = .ok (.iload_n 2, 1) := by decide +kernel
theorem dL_addPump_5 : decode cL_addPump 5 = .ok (.invokevirtual 32, 3) := by decide +kernel
theorem dL_addPump_8 : decode cL_addPump 8 = .ok (.i2l, 1) := by decide +kernel
theorem dL_addPump_9 : decode cL_addPump 9 = .ok (.lastore, 1) := by decide +kernel
theorem dL_addPump_10 : decode cL_addPump 10 = .ok (.goto 11, 3) := by decide +kernel
theorem dL_addPump_13 : decode cL_addPump 13 = .ok (.astore 4, 2) := by decide +kernel
theorem dL_addPump_15 : decode cL_addPump 15 = .ok (.iconst 1, 1) := by decide +kernel
theorem dL_addPump_16 : decode cL_addPump 16 = .ok (.ireturn, 1) := by decide +kernel
theorem dL_addPump_17 : decode cL_addPump 17 = .ok (.astore 4, 2) := by decide +kernel
theorem dL_addPump_19 : decode cL_addPump 19 = .ok (.iconst 2, 1) := by decide +kernel
theorem dL_addPump_20 : decode cL_addPump 20 = .ok (.ireturn, 1) := by decide +kernel
theorem dL_addPump_21 : decode cL_addPump 21 = .ok (.iconst 0, 1) := by decide +kernel
theorem dL_addPump_22 : decode cL_addPump 22 = .ok (.ireturn, 1) := by decide +kernel
set_option maxRecDepth 20000 in
theorem ggL_swear_X4_swear : GoodIn wsL_swear wsX4_swear := goodIn_ca (goodIn_ca (goodIn_r _ [7, 8, 9, 10, 11, 12, 13, 14, 15, 16, 17, 6, 18, 19, 20, 21, 22, 23, 24, 25, 26, 27, 28, 29, 30, 31, 32, 33, 34, 35, 36, 37, 38, 39, 40, 41, 42, 43, 44, 45, 46, 47, 48, 49, 50, 51, 52, 53, 54, 55, 56, 57, 58, 59, 60, 61, 62, 63, 64, 65, 66, 67, 68, 69, 70, 71, 72, 73, 74, 75, 76, 77, 78, 79, 80, 81, 82, 83, 84, 85, 86, 87, 88, 89, 90, 91, 92, 93, 94, 95, 96, 97, 98, 99, 100, 101, 102, 103, 104, 105, 106, 107, 108, 109, 110, 111, 112, 113, 114, 115, 116, 117, 118] (by decide +kernel) (by decide +kernel)) (goodIn_sub (fun _ h => List.mem_cons_of_mem _ (List.mem_append_left _ (List.mem_append_right _ h))) (by decide +kernel))) (goodIn_sub (fun _ h => List.mem_cons_of_mem _ (List.mem_append_right _ h)) (by decide +kernel))
set_option maxRecDepth 20000 in
theorem gL_swear_X4_swear : GoodIn wsL_swear (wsV RL 35 RX4 yX4_swear wsX4_swear) := goodIn_app (goodIn_of _ (by decide +kernel)) ggL_swear_X4_swear
theorem dL_swear_0 : decode cL_swear 0 = .ok (.aload_n 3, 1) := by decide +kernel
theorem dL_swear_1 : decode cL_swear 1 = .ok (.iconst 0, 1) := by decide +kernel
theorem dL_swear_2 : decode cL_swear 2 = .ok (.aload_n 0, 1) := by decide +kernel
theorem dL_swear_3 : decode cL_swear 3 = .ok (.iload_n 1, 1) := by decide +kernel
theorem dL_swear_4 : decode cL_swear 4 = .ok (.iload_n 2, 1) := by decide +kernel
theorem dL_swear_5 : decode cL_swear 5 = .ok (.invokevirtual 35, 3) := by decide +kernel
theorem dL_swear_8 : decode cL_swear 8 = .ok (.i2l, 1) := by decide +kernel
theorem dL_swear_9 : decode cL_swear 9 = .ok (.lastore, 1) := by decide +kernel
theorem dL_swear_10 : decode cL_swear 10 = .ok (.goto 11, 3) := by decide +kernel
theorem dL_swear_13 : decode cL_swear 13 = .ok (.astore 4, 2) := by decide +kernel
theorem dL_swear_15 : decode cL_swear 15 = .ok (.iconst 1, 1) := by decide +kernel
theorem dL_swear_16 : decode cL_swear 16 = .ok (.ireturn, 1) := by decide +kernel
theorem dL_swear_17 : decode cL_swear 17 = .ok (.astore 4, 2) := by decide +kernel
theorem dL_swear_19 : decode cL_swear 19 = .ok (.iconst 2, 1) := by decide +kernel
theorem dL_swear_20 : decode cL_swear 20 = .ok (.ireturn, 1) := by decide +kernel
theorem dL_swear_21 : decode cL_swear 21 = .ok (.iconst 0, 1) := by decide +kernel
theorem dL_swear_22 : decode cL_swear 22 = .ok (.ireturn, 1) := by decide +kernel
set_option maxRecDepth 20000 in
theorem ggL_service_X4_service : GoodIn wsL_service wsX4_service := goodIn_ca (goodIn_ca (goodIn_r _ [7, 8, 9, 10, 11, 12, 13, 14, 15, 16, 17, 6, 18, 19, 20, 21, 22, 23, 24, 25, 26, 27, 28, 29, 30, 31, 32, 33, 34, 35, 36, 37, 38, 39, 40, 41, 42, 43, 44, 45, 46, 47, 48, 49, 50, 51, 52, 53, 54, 55, 56, 57, 58, 59, 60, 61, 62, 63, 64, 65, 66, 67, 68, 69, 70, 71, 72, 73, 74, 75, 76, 77, 78, 79, 80, 81, 82, 83, 84, 85, 86, 87, 88, 89, 90, 91, 92, 93, 94, 95, 96, 97, 98, 99, 100, 101, 102, 103, 104, 105, 106, 107, 108, 109, 110, 111, 112, 113, 114, 115, 116] (by decide +kernel) (by decide +kernel)) (goodIn_sub (fun _ h => List.mem_cons_of_mem _ (List.mem_append_left _ (List.mem_append_right _ h))) (by decide +kernel))) (goodIn_sub (fun _ h => List.mem_cons_of_mem _ (List.mem_append_right _ h)) (by decide +kernel))
set_option maxRecDepth 20000 in
theorem gL_service_X4_service : GoodIn wsL_service (wsV RL 38 RX4 yX4_service wsX4_service) := goodIn_app (goodIn_of _ (by decide +kernel)) ggL_service_X4_service
theorem dL_service_0 : decode cL_service 0 = .ok (.aload_n 3, 1) := by decide +kernel
theorem dL_service_1 : decode cL_service 1 = .ok (.iconst 0, 1) := by decide +kernel
theorem dL_service_2 : decode cL_service 2 = .ok (.aload_n 0, 1) := by decide +kernel
theorem dL_service_3 : decode cL_service 3 = .ok (.iload_n 1, 1) := by decide +kernel
theorem dL_service_4 : decode cL_service 4 = .ok (.iload_n 2, 1) := by decide +kernel
theorem dL_service_5 : decode cL_service 5 = .ok (.invokevirtual 38, 3) := by decide +kernel
theorem dL_service_8 : decode cL_service 8 = .ok (.ifCond .eq 7, 3) := by decide +kernel
theorem dL_service_11 : decode cL_service 11 = .ok (.lconst 1, 1) := by decide +kernel
theorem dL_service_12 : decode cL_service 12 = .ok (.goto 4, 3) := by decide +kernel
theorem dL_service_15 : decode cL_service 15 = .ok (.lconst 0, 1) := by decide +kernel
theorem dL_service_16 : decode cL_service 16 = .ok (.lastore, 1) := by decide +kernel
theorem dL_service_17 : decode cL_service 17 = .ok (.goto 11, 3) := by decide +kernel
theorem dL_service_20 : decode cL_service 20 = .ok (.astore 4, 2) := by decide +kernel
theorem dL_service_22 : decode cL_service 22 = .ok (.iconst 1, 1) := by decide +kernel
theorem dL_service_23 : decode cL_service 23 = .ok (.ireturn, 1) := by decide +kernel
theorem dL_service_24 : decode cL_service 24 = .ok (.astore 4, 2) := by decide +kernel
theorem dL_service_26 : decode cL_service 26 = .ok (.iconst 2, 1) := by decide +kernel
theorem dL_service_27 : decode cL_service 27 = .ok (.ireturn, 1) := by decide +kernel
theorem dL_service_28 : decode cL_service 28 = .ok (.iconst 0, 1) := by decide +kernel
theorem dL_service_29 : decode cL_service 29 = .ok (.ireturn, 1) := by decide +kernel
set_option maxRecDepth 20000 in
theorem ggL_pass_X4_pass : GoodIn wsL_pass wsX4_pass := goodIn_ca (goodIn_ca (goodIn_r _ [7, 8, 9, 10, 11, 12, 13, 14, 15, 6, 16, 17, 18, 19, 20, 21, 22, 23, 24, 25, 26, 27, 28, 29, 30, 31, 32, 33, 34, 35, 36, 37, 38, 39, 40, 41, 42, 43, 44, 45, 46, 47, 48, 49, 50, 51, 52, 53, 54, 55, 56, 57, 58, 59, 60, 61, 62, 63, 64, 65, 66, 67, 68, 69, 70, 71, 72, 73, 74, 75, 76, 77, 78, 79, 80, 81, 82, 83, 84, 85, 86, 87, 88, 89, 90, 91, 92, 93, 94, 95, 96, 97, 98, 99, 100, 101, 102, 103, 104, 105, 106, 107, 108, 109, 110, 111, 112, 113, 114, 115, 116, 117, 118, 119, 120, 121, 122, 123, 124, 125, 126, 127, 128, 129, 130, 131, 132, 133, 134, 135, 136, 137, 138, 139, 140, 141, 142, 143, 144, 145, 146, 147, 148, 149, 150, 151, 152, 153, 154, 155, 156, 157, 158, 159, 160, 161, 162, 163, 164, 165, 166, 167, 168, 169, 170, 171, 172, 173, 174, 175, 176, 177, 178, 179, 180, 181, 182, 183, 184, 185, 186, 187, 188, 189, 190, 191, 192, 193, 194] (by decide +kernel) (by decide +kernel)) (goodIn_sub (fun _ h => List.mem_cons_of_mem _ (List.mem_append_left _ (List.mem_append_right _ h))) (by decide +kernel))) (goodIn_sub (fun _ h => List.mem_cons_of_mem _ (List.mem_append_right _ h)) (by decide +kernel))
set_option maxRecDepth 20000 in
theorem gL_pass_X4_pass : GoodIn wsL_pass (wsV RL 42 RX4 yX4_pass wsX4_pass) := goodIn_app (goodIn_of _ (by decide +kernel)) ggL_pass_X4_pass
theorem dL_pass_0 : decode cL_pass 0 = .ok (.aload_n 2, 1) := by decide +kernel
theorem dL_pass_1 : decode cL_pass 1 = .ok (.iconst 0, 1) := by decide +kernel
theorem dL_pass_2 : decode cL_pass 2 = .ok (.aload_n 0, 1) := by decide +kernel
theorem dL_pass_3 : decode cL_pass 3 = .ok (.iload_n 1, 1) := by decide +kernel
theorem dL_pass_4 : decode cL_pass 4 = .ok (.invokevirtual 42, 3) := by decide +kernel
theorem dL_pass_7 : decode cL_pass 7 = .ok (.i2l, 1) := by decide +kernel
theorem dL_pass_8 : decode cL_pass 8 = .ok (.lastore, 1) := by decide +kernel
theorem dL_pass_9 : decode cL_pass 9 = .ok (.goto 9, 3) := by decide +kernel
theorem dL_pass_12 : decode cL_pass 12 = .ok (.astore_n 3, 1) := by decide +kernel
theorem dL_pass_13 : decode cL_pass 13 = .ok (.iconst 1, 1) := by decide +kernel
theorem dL_pass_14 : decode cL_pass 14 = .ok (.ireturn, 1) := by decide +kernel
theorem dL_pass_15 : decode cL_pass 15 = .ok (.astore_n 3, 1) := by decide +kernel
theorem dL_pass_16 : decode cL_pass 16 = .ok (.iconst 2, 1) := by decide +kernel
theorem dL_pass_17 : decode cL_pass 17 = .ok (.ireturn, 1) := by decide +kernel
theorem dL_pass_18 : decode cL_pass 18 = .ok (.iconst 0, 1) := by decide +kernel
theorem dL_pass_19 : decode cL_pass 19 = .ok (.ireturn, 1) := by decide +kernel
set_option maxRecDepth 20000 in
theorem ggL_pump_X4_pump : GoodIn wsL_pump wsX4_pump := goodIn_ca (goodIn_ca (goodIn_r _ [7, 8, 9, 10, 11, 12, 13, 14, 15, 16, 6, 17, 18, 19, 20, 21, 22, 23, 24, 25, 26, 27, 28, 29, 30, 31, 32, 33, 34, 35, 36, 37, 38, 39, 40, 41, 42, 43, 44, 45, 46, 47, 48, 49, 50, 51, 52, 53, 54, 55, 56, 57, 58, 59, 60, 61, 62, 63, 64, 65, 66, 67, 68, 69, 70, 71] (by decide +kernel) (by decide +kernel)) (goodIn_sub (fun _ h => List.mem_cons_of_mem _ (List.mem_append_left _ (List.mem_append_right _ h))) (by decide +kernel))) (goodIn_sub (fun _ h => List.mem_cons_of_mem _ (List.mem_append_right _ h)) (by decide +kernel))
set_option maxRecDepth 20000 in
theorem gL_pump_X4_pump : GoodIn wsL_pump (wsV RL 45 RX4 yX4_pump wsX4_pump) := goodIn_app (goodIn_of _ (by decide +kernel)) ggL_pump_X4_pump
theorem dL_pump_0 : decode cL_pump 0 = .ok (.aload_n 3, 1) := by decide +kernel
theorem dL_pump_1 : decode cL_pump 1 = .ok (.iconst 0, 1) := by decide +kernel
theorem dL_pump_2 : decode cL_pump 2 = .ok (.aload_n 0, 1) := by decide +kernel
theorem dL_pump_3 : decode cL_pump 3 = .ok (.iload_n 1, 1) := by decide +kernel
theorem dL_pump_4 : decode cL_pump 4 = .ok (.iload_n 2, 1) := by decide +kernel
theorem dL_pump_5 : decode cL_pump 5 = .ok (.invokevirtual 45, 3) := by decide +kernel
theorem dL_pump_8 : decode cL_pump 8 = .ok (.i2l, 1) := by decide +kernel
theorem dL_pump_9 : decode cL_pump 9 = .ok (.lastore, 1) := by decide +kernel
theorem dL_pump_10 : decode cL_pump 10 = .ok (.goto 11, 3) := by decide +kernel
theorem dL_pump_13 : decode cL_pump 13 = .ok (.astore 4, 2) := by decide +kernel
theorem dL_pump_15 : decode cL_pump 15 = .ok (.iconst 1, 1) := by decide +kernel
theorem dL_pump_16 : decode cL_pump 16 = .ok (.ireturn, 1) := by decide +kernel
theorem dL_pump_17 : decode cL_pump 17 = .ok (.astore 4, 2) := by decide +kernel
theorem dL_pump_19 : decode cL_pump 19 = .ok (.iconst 2, 1) := by decide +kernel
theorem dL_pump_20 : decode cL_pump 20 = .ok (.ireturn, 1) := by decide +kernel
theorem dL_pump_21 : decode cL_pump 21 = .ok (.iconst 0, 1) := by decide +kernel
theorem dL_pump_22 : decode cL_pump 22 = .ok (.ireturn, 1) := by decide +kernel
set_option maxRecDepth 20000 in
theorem ggL_demand_X4_demand : GoodIn wsL_demand wsX4_demand := goodIn_ca (goodIn_r _ [6, 7, 8, 9, 10, 11, 5, 12, 13, 14, 15, 16, 17, 18, 19, 20, 21, 22, 23, 24, 25, 26, 27, 28, 29, 30, 31, 32, 33, 34, 35, 36, 37, 38, 39, 40, 41, 42, 43, 44] (by decide +kernel) (by decide +kernel)) (goodIn_sub (fun _ h => List.mem_cons_of_mem _ (List.mem_append_right _ h)) (by decide +kernel))
set_option maxRecDepth 20000 in
theorem gL_demand_X4_demand : GoodIn wsL_demand (wsV RL 48 RX4 yX4_demand wsX4_demand) := goodIn_app (goodIn_of _ (by decide +kernel)) ggL_demand_X4_demand
theorem dL_demand_0 : decode cL_demand 0 = .ok (.aload_n 2, 1) := by decide +kernel
theorem dL_demand_1 : decode cL_demand 1 = .ok (.iconst 0, 1) := by decide +kernel
theorem dL_demand_2 : decode cL_demand 2 = .ok (.aload_n 0, 1) := by decide +kernel
theorem dL_demand_3 : decode cL_demand 3 = .ok (.iload_n 1, 1) := by decide +kernel
theorem dL_demand_4 : decode cL_demand 4 = .ok (.invokevirtual 48, 3) := by decide +kernel
theorem dL_demand_7 : decode cL_demand 7 = .ok (.i2l, 1) := by decide +kernel
theorem dL_demand_8 : decode cL_demand 8 = .ok (.lastore, 1) := by decide +kernel
theorem dL_demand_9 : decode cL_demand 9 = .ok (.goto 6, 3) := by decide +kernel
theorem dL_demand_12 : decode cL_demand 12 = .ok (.astore_n 3, 1) := by decide +kernel
theorem dL_demand_13 : decode cL_demand 13 = .ok (.iconst 1, 1) := by decide +kernel
theorem dL_demand_14 : decode cL_demand 14 = .ok (.ireturn, 1) := by decide +kernel
theorem dL_demand_15 : decode cL_demand 15 = .ok (.iconst 0, 1) := by decide +kernel
theorem dL_demand_16 : decode cL_demand 16 = .ok (.ireturn, 1) := by decide +kernel
set_option maxRecDepth 20000 in
theorem ggL_value_X4_value : GoodIn wsL_value wsX4_value := goodIn_ca (goodIn_r _ [6, 7, 8, 9, 10, 11, 5, 12, 13, 14, 15, 16, 17, 18, 19, 20, 21, 22, 23, 24, 25, 26, 27, 28, 29, 30, 31, 32, 33, 34, 35, 36, 37, 38, 39, 40, 41, 42, 43, 44, 45, 46, 47, 48, 49, 50, 51, 52, 53, 54, 55, 56, 57, 58, 59, 60, 61, 62, 63, 64, 65, 66, 67, 68, 69, 70, 71, 72, 73, 74, 75, 76, 77, 78, 79] (by decide +kernel) (by decide +kernel)) (goodIn_sub (fun _ h => List.mem_cons_of_mem _ (List.mem_append_right _ h)) (by decide +kernel))
set_option maxRecDepth 20000 in
theorem gL_value_X4_value : GoodIn wsL_value (wsV RL 51 RX4 yX4_value wsX4_value) := goodIn_app (goodIn_of _ (by decide +kernel)) ggL_value_X4_value
theorem dL_value_0 : decode cL_value 0 = .ok (.aload_n 2, 1) := by decide +kernel
theorem dL_value_1 : decode cL_value 1 = .ok (.iconst 0, 1) := by decide +kernel
theorem dL_value_2 : decode cL_value 2 = .ok (.aload_n 0, 1) := by decide +kernel
theorem dL_value_3 : decode cL_value 3 = .ok (.iload_n 1, 1) := by decide +kernel
theorem dL_value_4 : decode cL_value 4 = .ok (.invokevirtual 51, 3) := by decide +kernel
theorem dL_value_7 : decode cL_value 7 = .ok (.i2l, 1) := by decide +kernel
theorem dL_value_8 : decode cL_value 8 = .ok (.lastore, 1) := by decide +kernel
theorem dL_value_9 : decode cL_value 9 = .ok (.goto 6, 3) := by decide +kernel
theorem dL_value_12 : decode cL_value 12 = .ok (.astore_n 3, 1) := by decide +kernel
theorem dL_value_13 : decode cL_value 13 = .ok (.iconst 1, 1) := by decide +kernel
theorem dL_value_14 : decode cL_value 14 = .ok (.ireturn, 1) := by decide +kernel
theorem dL_value_15 : decode cL_value 15 = .ok (.iconst 0, 1) := by decide +kernel
theorem dL_value_16 : decode cL_value 16 = .ok (.ireturn, 1) := by decide +kernel
set_option maxRecDepth 20000 in
theorem ggL_setting_X4_setting : GoodIn wsL_setting wsX4_setting := goodIn_ca (goodIn_r _ [6, 7, 8, 9, 10, 11, 5, 12, 13, 14, 15, 16, 17, 18, 19, 20, 21, 22, 23, 24, 25, 26, 27, 28, 29, 30, 31, 32, 33, 34, 35, 36, 37, 38, 39, 40, 41] (by decide +kernel) (by decide +kernel)) (goodIn_sub (fun _ h => List.mem_cons_of_mem _ (List.mem_append_right _ h)) (by decide +kernel))
set_option maxRecDepth 20000 in
theorem gL_setting_X4_setting : GoodIn wsL_setting (wsV RL 54 RX4 yX4_setting wsX4_setting) := goodIn_app (goodIn_of _ (by decide +kernel)) ggL_setting_X4_setting
theorem dL_setting_0 : decode cL_setting 0 = .ok (.aload_n 2, 1) := by decide +kernel
theorem dL_setting_1 : decode cL_setting 1 = .ok (.iconst 0, 1) := by decide +kernel
theorem dL_setting_2 : decode cL_setting 2 = .ok (.aload_n 0, 1) := by decide +kernel
theorem dL_setting_3 : decode cL_setting 3 = .ok (.iload_n 1, 1) := by decide +kernel
theorem dL_setting_4 : decode cL_setting 4 = .ok (.invokevirtual 54, 3) := by decide +kernel
theorem dL_setting_7 : decode cL_setting 7 = .ok (.i2l, 1) := by decide +kernel
theorem dL_setting_8 : decode cL_setting 8 = .ok (.lastore, 1) := by decide +kernel
theorem dL_setting_9 : decode cL_setting 9 = .ok (.goto 6, 3) := by decide +kernel
theorem dL_setting_12 : decode cL_setting 12 = .ok (.astore_n 3, 1) := by decide +kernel
theorem dL_setting_13 : decode cL_setting 13 = .ok (.iconst 1, 1) := by decide +kernel
theorem dL_setting_14 : decode cL_setting 14 = .ok (.ireturn, 1) := by decide +kernel
theorem dL_setting_15 : decode cL_setting 15 = .ok (.iconst 0, 1) := by decide +kernel
theorem dL_setting_16 : decode cL_setting 16 = .ok (.ireturn, 1) := by decide +kernel
set_option maxRecDepth 20000 in
theorem ggL_water_X4_water : GoodIn wsL_water wsX4_water := goodIn_ca (goodIn_r _ [6, 7, 8, 9, 10, 11, 5, 12, 13, 14, 15, 16, 17, 18, 19, 20, 21, 22, 23, 24, 25, 26, 27, 28, 29, 30, 31, 32, 33, 34, 35, 36, 37, 38, 39, 40, 41] (by decide +kernel) (by decide +kernel)) (goodIn_sub (fun _ h => List.mem_cons_of_mem _ (List.mem_append_right _ h)) (by decide +kernel))
set_option maxRecDepth 20000 in
theorem gL_water_X4_water : GoodIn wsL_water (wsV RL 57 RX4 yX4_water wsX4_water) := goodIn_app (goodIn_of _ (by decide +kernel)) ggL_water_X4_water
theorem dL_water_0 : decode cL_water 0 = .ok (.aload_n 2, 1) := by decide +kernel
theorem dL_water_1 : decode cL_water 1 = .ok (.iconst 0, 1) := by decide +kernel
theorem dL_water_2 : decode cL_water 2 = .ok (.aload_n 0, 1) := by decide +kernel
theorem dL_water_3 : decode cL_water 3 = .ok (.iload_n 1, 1) := by decide +kernel
theorem dL_water_4 : decode cL_water 4 = .ok (.invokevirtual 57, 3) := by decide +kernel
theorem dL_water_7 : decode cL_water 7 = .ok (.lastore, 1) := by decide +kernel
theorem dL_water_8 : decode cL_water 8 = .ok (.goto 6, 3) := by decide +kernel
theorem dL_water_11 : decode cL_water 11 = .ok (.astore_n 3, 1) := by decide +kernel
theorem dL_water_12 : decode cL_water 12 = .ok (.iconst 1, 1) := by decide +kernel
theorem dL_water_13 : decode cL_water 13 = .ok (.ireturn, 1) := by decide +kernel
theorem dL_water_14 : decode cL_water 14 = .ok (.iconst 0, 1) := by decide +kernel
theorem dL_water_15 : decode cL_water 15 = .ok (.ireturn, 1) := by decide +kernel
set_option maxRecDepth 20000 in
theorem ggL_nightLeak_X4_nightLeak : GoodIn wsL_nightLeak wsX4_nightLeak := goodIn_ca (goodIn_r _ [6, 7, 8, 9, 10, 11, 12, 13, 14, 15, 16, 17, 18, 19, 20, 21, 22, 23, 24, 25, 26, 27, 28, 29, 30, 31, 32, 33, 34] (by decide +kernel) (by decide +kernel)) (goodIn_sub (fun _ h => List.mem_cons_of_mem _ (List.mem_append_right _ h)) (by decide +kernel))
set_option maxRecDepth 20000 in
theorem gL_nightLeak_X4_nightLeak : GoodIn wsL_nightLeak (wsV RL 61 RX4 yX4_nightLeak wsX4_nightLeak) := goodIn_app (goodIn_of _ (by decide +kernel)) ggL_nightLeak_X4_nightLeak
theorem dL_nightLeak_0 : decode cL_nightLeak 0 = .ok (.aload_n 1, 1) := by decide +kernel
theorem dL_nightLeak_1 : decode cL_nightLeak 1 = .ok (.iconst 0, 1) := by decide +kernel
theorem dL_nightLeak_2 : decode cL_nightLeak 2 = .ok (.aload_n 0, 1) := by decide +kernel
theorem dL_nightLeak_3 : decode cL_nightLeak 3 = .ok (.invokevirtual 61, 3) := by decide +kernel
theorem dL_nightLeak_6 : decode cL_nightLeak 6 = .ok (.lastore, 1) := by decide +kernel
theorem dL_nightLeak_7 : decode cL_nightLeak 7 = .ok (.goto 6, 3) := by decide +kernel
theorem dL_nightLeak_10 : decode cL_nightLeak 10 = .ok (.astore_n 2, 1) := by decide +kernel
theorem dL_nightLeak_11 : decode cL_nightLeak 11 = .ok (.iconst 1, 1) := by decide +kernel
theorem dL_nightLeak_12 : decode cL_nightLeak 12 = .ok (.ireturn, 1) := by decide +kernel
theorem dL_nightLeak_13 : decode cL_nightLeak 13 = .ok (.iconst 0, 1) := by decide +kernel
theorem dL_nightLeak_14 : decode cL_nightLeak 14 = .ok (.ireturn, 1) := by decide +kernel
set_option maxRecDepth 20000 in
theorem ggL_entry_X4_entry : GoodIn wsL_entry wsX4_entry := goodIn_ca (goodIn_ca (goodIn_r _ [7, 8, 9, 10, 11, 12, 13, 14, 15, 16, 6, 17, 18, 19, 20, 21, 22, 23, 24, 25, 26, 27, 28, 29, 30, 31, 32, 33, 34, 35, 36, 37, 38, 39, 40, 41, 42, 43, 44, 45, 46, 47, 48] (by decide +kernel) (by decide +kernel)) (goodIn_sub (fun _ h => List.mem_cons_of_mem _ (List.mem_append_left _ (List.mem_append_right _ h))) (by decide +kernel))) (goodIn_sub (fun _ h => List.mem_cons_of_mem _ (List.mem_append_right _ h)) (by decide +kernel))
set_option maxRecDepth 20000 in
theorem gL_entry_X4_entry : GoodIn wsL_entry (wsV RL 65 RX4 yX4_entry wsX4_entry) := goodIn_app (goodIn_of _ (by decide +kernel)) ggL_entry_X4_entry
theorem dL_entry_0 : decode cL_entry 0 = .ok (.aload_n 3, 1) := by decide +kernel
theorem dL_entry_1 : decode cL_entry 1 = .ok (.iconst 0, 1) := by decide +kernel
theorem dL_entry_2 : decode cL_entry 2 = .ok (.aload_n 0, 1) := by decide +kernel
theorem dL_entry_3 : decode cL_entry 3 = .ok (.iload_n 1, 1) := by decide +kernel
theorem dL_entry_4 : decode cL_entry 4 = .ok (.iload_n 2, 1) := by decide +kernel
theorem dL_entry_5 : decode cL_entry 5 = .ok (.invokevirtual 65, 3) := by decide +kernel
theorem dL_entry_8 : decode cL_entry 8 = .ok (.i2l, 1) := by decide +kernel
theorem dL_entry_9 : decode cL_entry 9 = .ok (.lastore, 1) := by decide +kernel
theorem dL_entry_10 : decode cL_entry 10 = .ok (.goto 11, 3) := by decide +kernel
theorem dL_entry_13 : decode cL_entry 13 = .ok (.astore 4, 2) := by decide +kernel
theorem dL_entry_15 : decode cL_entry 15 = .ok (.iconst 1, 1) := by decide +kernel
theorem dL_entry_16 : decode cL_entry 16 = .ok (.ireturn, 1) := by decide +kernel
theorem dL_entry_17 : decode cL_entry 17 = .ok (.astore 4, 2) := by decide +kernel
theorem dL_entry_19 : decode cL_entry 19 = .ok (.iconst 2, 1) := by decide +kernel
theorem dL_entry_20 : decode cL_entry 20 = .ok (.ireturn, 1) := by decide +kernel
theorem dL_entry_21 : decode cL_entry 21 = .ok (.iconst 0, 1) := by decide +kernel
theorem dL_entry_22 : decode cL_entry 22 = .ok (.ireturn, 1) := by decide +kernel
set_option maxRecDepth 20000 in
theorem ggL_levelIn_X4_levelIn : GoodIn wsL_levelIn wsX4_levelIn := goodIn_ca (goodIn_r _ [6, 7, 8, 9, 10, 11, 12, 13, 5, 14, 15, 16, 17, 18, 19, 20, 21, 22, 23, 24, 25, 26, 27, 28, 29, 30, 31, 32, 33, 34, 35, 36, 37, 38, 39, 40, 41, 42, 43, 44, 45, 46, 47, 48, 49, 50, 51, 52, 53, 54, 55, 56, 57, 58, 59, 60, 61, 62, 63, 64, 65, 66, 67, 68, 69, 70, 71, 72, 73, 74, 75, 76, 77, 78, 79, 80, 81, 82, 83, 84, 85, 86, 87, 88, 89, 90, 91, 92, 93, 94, 95, 96, 97, 98, 99, 100, 101, 102, 103, 104, 105, 106, 107, 108, 109, 110, 111, 112, 113, 114, 115, 116, 117, 118, 119, 120, 121, 122, 123, 124, 125, 126, 127, 128, 129, 130, 131, 132, 133, 134, 135, 136, 137, 138, 139, 140, 141, 142, 143, 144, 145, 146, 147, 148, 149, 150, 151, 152, 153, 154, 155, 156, 157, 158, 159, 160, 161, 162, 163, 164, 165, 166, 167, 168, 169, 170, 171, 172, 173, 174, 175, 176, 177] (by decide +kernel) (by decide +kernel)) (goodIn_sub (fun _ h => List.mem_cons_of_mem _ (List.mem_append_right _ h)) (by decide +kernel))
set_option maxRecDepth 20000 in
theorem gL_levelIn_X4_levelIn : GoodIn wsL_levelIn (wsV RL 68 RX4 yX4_levelIn wsX4_levelIn) := goodIn_app (goodIn_of _ (by decide +kernel)) ggL_levelIn_X4_levelIn
theorem dL_levelIn_0 : decode cL_levelIn 0 = .ok (.aload_n 2, 1) := by decide +kernel
theorem dL_levelIn_1 : decode cL_levelIn 1 = .ok (.iconst 0, 1) := by decide +kernel
theorem dL_levelIn_2 : decode cL_levelIn 2 = .ok (.aload_n 0, 1) := by decide +kernel
theorem dL_levelIn_3 : decode cL_levelIn 3 = .ok (.iload_n 1, 1) := by decide +kernel
theorem dL_levelIn_4 : decode cL_levelIn 4 = .ok (.invokevirtual 68, 3) := by decide +kernel
theorem dL_levelIn_7 : decode cL_levelIn 7 = .ok (.i2l, 1) := by decide +kernel
theorem dL_levelIn_8 : decode cL_levelIn 8 = .ok (.lastore, 1) := by decide +kernel
theorem dL_levelIn_9 : decode cL_levelIn 9 = .ok (.goto 6, 3) := by decide +kernel
theorem dL_levelIn_12 : decode cL_levelIn 12 = .ok (.astore_n 3, 1) := by decide +kernel
theorem dL_levelIn_13 : decode cL_levelIn 13 = .ok (.iconst 1, 1) := by decide +kernel
theorem dL_levelIn_14 : decode cL_levelIn 14 = .ok (.ireturn, 1) := by decide +kernel
theorem dL_levelIn_15 : decode cL_levelIn 15 = .ok (.iconst 0, 1) := by decide +kernel
theorem dL_levelIn_16 : decode cL_levelIn 16 = .ok (.ireturn, 1) := by decide +kernel
set_option maxRecDepth 20000 in
theorem ggL_startsIn_X4_startsIn : GoodIn wsL_startsIn wsX4_startsIn := goodIn_ca (goodIn_ca (goodIn_r _ [7, 8, 9, 10, 11, 12, 13, 14, 15, 16, 17, 18, 6, 19, 20, 21, 22, 23, 24, 25, 26, 27, 28, 29, 30, 31, 32, 33, 34, 35, 36, 37, 38, 39, 40, 41, 42, 43, 44, 45, 46, 47, 48, 49, 50, 51, 52, 53, 54, 55, 56, 57, 58, 59, 60, 61, 62, 63, 64, 65, 66, 67, 68, 69, 70, 71, 72, 73, 74, 75, 76, 77, 78, 79, 80, 81, 82, 83, 84, 85, 86, 87, 88, 89, 90, 91, 92, 93, 94, 95, 96, 97, 98, 99, 100, 101, 102, 103, 104, 105, 106, 107, 108, 109, 110, 111, 112, 113, 114, 115, 116, 117, 118, 119, 120, 121, 122, 123, 124, 125, 126, 127, 128, 129, 130, 131, 132, 133, 134, 135, 136, 137, 138, 139, 140, 141, 142, 143, 144, 145, 146, 147, 148, 149, 150, 151, 152, 153, 154, 155, 156, 157, 158, 159, 160, 161, 162, 163, 164, 165, 166, 167, 168, 169, 170, 171, 172, 173, 174, 175, 176, 177, 178, 179, 180, 181, 182, 183, 184, 185, 186] (by decide +kernel) (by decide +kernel)) (goodIn_sub (fun _ h => List.mem_cons_of_mem _ (List.mem_append_left _ (List.mem_append_right _ h))) (by decide +kernel))) (goodIn_sub (fun _ h => List.mem_cons_of_mem _ (List.mem_append_right _ h)) (by decide +kernel))
set_option maxRecDepth 20000 in
theorem gL_startsIn_X4_startsIn : GoodIn wsL_startsIn (wsV RL 71 RX4 yX4_startsIn wsX4_startsIn) := goodIn_app (goodIn_of _ (by decide +kernel)) ggL_startsIn_X4_startsIn
theorem dL_startsIn_0 : decode cL_startsIn 0 = .ok (.aload_n 3, 1) := by decide +kernel
theorem dL_startsIn_1 : decode cL_startsIn 1 = .ok (.iconst 0, 1) := by decide +kernel
theorem dL_startsIn_2 : decode cL_startsIn 2 = .ok (.aload_n 0, 1) := by decide +kernel
theorem dL_startsIn_3 : decode cL_startsIn 3 = .ok (.iload_n 1, 1) := by decide +kernel
theorem dL_startsIn_4 : decode cL_startsIn 4 = .ok (.iload_n 2, 1) := by decide +kernel
theorem dL_startsIn_5 : decode cL_startsIn 5 = .ok (.invokevirtual 71, 3) := by decide +kernel
theorem dL_startsIn_8 : decode cL_startsIn 8 = .ok (.i2l, 1) := by decide +kernel
theorem dL_startsIn_9 : decode cL_startsIn 9 = .ok (.lastore, 1) := by decide +kernel
theorem dL_startsIn_10 : decode cL_startsIn 10 = .ok (.goto 11, 3) := by decide +kernel
theorem dL_startsIn_13 : decode cL_startsIn 13 = .ok (.astore 4, 2) := by decide +kernel
theorem dL_startsIn_15 : decode cL_startsIn 15 = .ok (.iconst 1, 1) := by decide +kernel
theorem dL_startsIn_16 : decode cL_startsIn 16 = .ok (.ireturn, 1) := by decide +kernel
theorem dL_startsIn_17 : decode cL_startsIn 17 = .ok (.astore 4, 2) := by decide +kernel
theorem dL_startsIn_19 : decode cL_startsIn 19 = .ok (.iconst 2, 1) := by decide +kernel
theorem dL_startsIn_20 : decode cL_startsIn 20 = .ok (.ireturn, 1) := by decide +kernel
theorem dL_startsIn_21 : decode cL_startsIn 21 = .ok (.iconst 0, 1) := by decide +kernel
theorem dL_startsIn_22 : decode cL_startsIn 22 = .ok (.ireturn, 1) := by decide +kernel
set_option maxRecDepth 20000 in
theorem ggL_oathFor_X4_oathFor : GoodIn wsL_oathFor wsX4_oathFor := goodIn_ca (goodIn_r _ [6, 7, 8, 9, 10, 5, 11, 12, 13, 14, 15, 16, 17, 18, 19, 20, 21, 22, 23, 24, 25, 26, 27, 28, 29, 30, 31, 32, 33, 34, 35, 36, 37, 38, 39, 40, 41, 42, 43, 44, 45, 46, 47, 48, 49, 50, 51, 52, 53, 54, 55, 56, 57, 58, 59, 60, 61, 62, 63, 64, 65, 66, 67, 68, 69, 70, 71, 72, 73, 74, 75, 76, 77, 78, 79, 80, 81, 82, 83, 84, 85, 86, 87, 88, 89, 90, 91, 92, 93, 94, 95, 96, 97, 98, 99, 100, 101, 102, 103, 104, 105, 106, 107, 108, 109, 110, 111, 112, 113, 114, 115, 116, 117, 118, 119, 120, 121, 122, 123, 124, 125, 126, 127, 128, 129, 130, 131, 132, 133, 134, 135, 136, 137, 138, 139, 140, 141, 142, 143, 144, 145, 146, 147, 148, 149, 150, 151, 152, 153, 154, 155, 156, 157, 158, 159, 160, 161, 162, 163, 164, 165, 166, 167, 168, 169, 170, 171, 172, 173, 174, 175, 176, 177, 178, 179, 180, 181, 182] (by decide +kernel) (by decide +kernel)) (goodIn_sub (fun _ h => List.mem_cons_of_mem _ (List.mem_append_right _ h)) (by decide +kernel))
set_option maxRecDepth 20000 in
theorem gL_oathFor_X4_oathFor : GoodIn wsL_oathFor (wsV RL 74 RX4 yX4_oathFor wsX4_oathFor) := goodIn_app (goodIn_of _ (by decide +kernel)) ggL_oathFor_X4_oathFor
theorem dL_oathFor_0 : decode cL_oathFor 0 = .ok (.aload_n 2, 1) := by decide +kernel
theorem dL_oathFor_1 : decode cL_oathFor 1 = .ok (.iconst 0, 1) := by decide +kernel
theorem dL_oathFor_2 : decode cL_oathFor 2 = .ok (.aload_n 0, 1) := by decide +kernel
theorem dL_oathFor_3 : decode cL_oathFor 3 = .ok (.iload_n 1, 1) := by decide +kernel
theorem dL_oathFor_4 : decode cL_oathFor 4 = .ok (.invokevirtual 74, 3) := by decide +kernel
theorem dL_oathFor_7 : decode cL_oathFor 7 = .ok (.i2l, 1) := by decide +kernel
theorem dL_oathFor_8 : decode cL_oathFor 8 = .ok (.lastore, 1) := by decide +kernel
theorem dL_oathFor_9 : decode cL_oathFor 9 = .ok (.goto 6, 3) := by decide +kernel
theorem dL_oathFor_12 : decode cL_oathFor 12 = .ok (.astore_n 3, 1) := by decide +kernel
theorem dL_oathFor_13 : decode cL_oathFor 13 = .ok (.iconst 1, 1) := by decide +kernel
theorem dL_oathFor_14 : decode cL_oathFor 14 = .ok (.ireturn, 1) := by decide +kernel
theorem dL_oathFor_15 : decode cL_oathFor 15 = .ok (.iconst 0, 1) := by decide +kernel
theorem dL_oathFor_16 : decode cL_oathFor 16 = .ok (.ireturn, 1) := by decide +kernel
set_option maxRecDepth 20000 in
theorem ggL_append_X4_append : GoodIn wsL_append wsX4_append := goodIn_ca (goodIn_ca (goodIn_r _ [7, 8, 9, 10, 11, 12, 13, 14, 15, 6, 16, 17, 18, 19, 20, 21, 22, 23, 24, 25, 26, 27, 28, 29, 30, 31, 32, 33, 34, 35, 36, 37] (by decide +kernel) (by decide +kernel)) (goodIn_sub (fun _ h => List.mem_cons_of_mem _ (List.mem_append_left _ (List.mem_append_right _ h))) (by decide +kernel))) (goodIn_sub (fun _ h => List.mem_cons_of_mem _ (List.mem_append_right _ h)) (by decide +kernel))
set_option maxRecDepth 20000 in
theorem gL_append_X4_append : GoodIn wsL_append (wsV RL 77 RX4 yX4_append wsX4_append) := goodIn_app (goodIn_of _ (by decide +kernel)) ggL_append_X4_append
theorem dL_append_0 : decode cL_append 0 = .ok (.aload_n 2, 1) := by decide +kernel
theorem dL_append_1 : decode cL_append 1 = .ok (.iconst 0, 1) := by decide +kernel
theorem dL_append_2 : decode cL_append 2 = .ok (.aload_n 0, 1) := by decide +kernel
theorem dL_append_3 : decode cL_append 3 = .ok (.iload_n 1, 1) := by decide +kernel
theorem dL_append_4 : decode cL_append 4 = .ok (.invokevirtual 77, 3) := by decide +kernel
theorem dL_append_7 : decode cL_append 7 = .ok (.i2l, 1) := by decide +kernel
theorem dL_append_8 : decode cL_append 8 = .ok (.lastore, 1) := by decide +kernel
theorem dL_append_9 : decode cL_append 9 = .ok (.goto 9, 3) := by decide +kernel
theorem dL_append_12 : decode cL_append 12 = .ok (.astore_n 3, 1) := by decide +kernel
theorem dL_append_13 : decode cL_append 13 = .ok (.iconst 1, 1) := by decide +kernel
theorem dL_append_14 : decode cL_append 14 = .ok (.ireturn, 1) := by decide +kernel
theorem dL_append_15 : decode cL_append 15 = .ok (.astore_n 3, 1) := by decide +kernel
theorem dL_append_16 : decode cL_append 16 = .ok (.iconst 2, 1) := by decide +kernel
theorem dL_append_17 : decode cL_append 17 = .ok (.ireturn, 1) := by decide +kernel
theorem dL_append_18 : decode cL_append 18 = .ok (.iconst 0, 1) := by decide +kernel
theorem dL_append_19 : decode cL_append 19 = .ok (.ireturn, 1) := by decide +kernel
set_option maxRecDepth 20000 in
theorem ggL_undo_X4_undo : GoodIn wsL_undo wsX4_undo := goodIn_ca (goodIn_r _ [6, 7, 8, 9, 10, 11, 12, 13, 14, 15, 16, 17, 18, 19, 20, 21, 22, 23, 24, 25, 26, 27, 28, 29, 30, 31, 32, 33, 34, 35, 36, 37, 38, 39, 40, 41, 42, 43, 44, 45, 46, 47, 48, 49, 50, 51, 52, 53, 54, 55, 56, 57, 58, 59, 60, 61, 62, 63, 64, 65, 66, 67, 68, 69, 70, 71, 72, 73, 74, 75, 76, 77, 78, 79, 80, 81, 82, 83, 84, 85, 86, 87, 88, 89, 90, 91, 92, 93, 94, 95] (by decide +kernel) (by decide +kernel)) (goodIn_sub (fun _ h => List.mem_cons_of_mem _ (List.mem_append_right _ h)) (by decide +kernel))
set_option maxRecDepth 20000 in
theorem gL_undo_X4_undo : GoodIn wsL_undo (wsV RL 80 RX4 yX4_undo wsX4_undo) := goodIn_app (goodIn_of _ (by decide +kernel)) ggL_undo_X4_undo
theorem dL_undo_0 : decode cL_undo 0 = .ok (.aload_n 1, 1) := by decide +kernel
theorem dL_undo_1 : decode cL_undo 1 = .ok (.iconst 0, 1) := by decide +kernel
theorem dL_undo_2 : decode cL_undo 2 = .ok (.aload_n 0, 1) := by decide +kernel
theorem dL_undo_3 : decode cL_undo 3 = .ok (.invokevirtual 80, 3) := by decide +kernel
theorem dL_undo_6 : decode cL_undo 6 = .ok (.i2l, 1) := by decide +kernel
theorem dL_undo_7 : decode cL_undo 7 = .ok (.lastore, 1) := by decide +kernel
theorem dL_undo_8 : decode cL_undo 8 = .ok (.goto 6, 3) := by decide +kernel
theorem dL_undo_11 : decode cL_undo 11 = .ok (.astore_n 2, 1) := by decide +kernel
theorem dL_undo_12 : decode cL_undo 12 = .ok (.iconst 1, 1) := by decide +kernel
theorem dL_undo_13 : decode cL_undo 13 = .ok (.ireturn, 1) := by decide +kernel
theorem dL_undo_14 : decode cL_undo 14 = .ok (.iconst 0, 1) := by decide +kernel
theorem dL_undo_15 : decode cL_undo 15 = .ok (.ireturn, 1) := by decide +kernel
set_option maxRecDepth 20000 in
theorem ggL_law_X4_init : GoodIn wsL_law wsX4_init := goodIn_r _ [9, 10, 11, 12, 13, 14, 15, 16, 17, 18, 19, 20, 21, 22, 23, 24, 25, 26, 27, 28, 29, 30, 31, 32, 33, 34, 35, 36, 37, 6, 38, 39, 40, 41, 42, 43, 44, 45, 46, 47, 48, 49, 50, 51, 52, 53, 54, 55, 56, 57, 58, 59, 60, 61, 62, 63, 64, 65, 66, 839, 840, 841, 842, 843, 844, 845, 846, 847, 848, 849, 850, 851, 852, 853, 817, 818, 819, 820, 821, 822, 823, 824, 854, 855, 856, 857, 858, 859, 860, 861, 862, 863, 864, 865, 866, 867, 868, 869, 870] (by decide +kernel) (by decide +kernel)
set_option maxRecDepth 20000 in
theorem gL_law_X4_init : GoodIn wsL_law (wsX4_init) := ggL_law_X4_init
set_option maxRecDepth 20000 in
theorem ggL_law_X5_init : GoodIn wsL_law wsX5_init := goodIn_r _ [69, 70, 11, 12, 6, 71, 72, 73, 35, 74, 75, 76, 77, 78, 79, 80, 81, 82, 83, 825, 826, 827, 828, 829, 830, 831, 832, 833, 834, 835, 836, 837, 838] (by decide +kernel) (by decide +kernel)
set_option maxRecDepth 20000 in
theorem gL_law_X5_init : GoodIn wsL_law (wsX5_init) := ggL_law_X5_init
set_option maxRecDepth 20000 in
theorem ggL_law_L_setSize : GoodIn wsL_law wsL_setSize := goodIn_ca (goodIn_ca (goodIn_r _ [87, 88, 89, 90, 91, 92, 2, 93, 94, 95, 96, 97, 98, 16, 99, 100, 101, 102, 103, 104, 105, 106, 107, 108, 21, 20, 19, 18, 26, 109, 110, 111, 15, 112, 31, 32, 33, 34, 113, 114, 115, 116, 117, 118, 36, 119, 120, 121, 122, 37, 38, 42, 46, 123, 124, 125, 41, 126, 127, 50, 128, 51, 52, 53, 54, 55, 56, 57, 129, 130, 131, 45, 132, 133, 61, 134, 817, 818, 819, 820, 821, 822, 823, 824, 839, 840, 841, 842, 843, 844, 845, 846, 847, 848, 849, 850, 851, 852, 853, 860, 861, 862, 863, 864, 865, 866, 867, 868, 869, 870] (by decide +kernel) (by decide +kernel)) (goodIn_sub (fun _ h => List.mem_append_left _ (List.mem_append_left _ (List.mem_append_right _ h))) (by decide +kernel))) (goodIn_sub (fun _ h => List.mem_append_left _ (List.mem_append_right _ h)) (by decide +kernel))
set_option maxRecDepth 20000 in
theorem gL_law_L_setSize : GoodIn wsL_law (va_wsS RL 88 yL_setSize wsL_setSize) := goodIn_app (goodIn_of _ (by decide +kernel)) ggL_law_L_setSize
set_option maxRecDepth 20000 in
theorem ggL_law_X5_setSize : GoodIn wsL_law wsX5_setSize := goodIn_r _ [138, 139, 140, 71, 141, 142, 5, 143, 144, 145, 146, 147, 148, 149, 150, 151, 152, 153, 154, 155, 156, 157, 73, 825, 826, 827, 828, 829, 830, 831, 832, 833, 834, 835, 836, 837, 838] (by decide +kernel) (by decide +kernel)
set_option maxRecDepth 20000 in
theorem gL_law_X5_setSize : GoodIn wsL_law (wsV RL 93 RX5 yX5_setSize wsX5_setSize) := goodIn_app (goodIn_of _ (by decide +kernel)) ggL_law_X5_setSize
set_option maxRecDepth 20000 in
theorem ggL_law_X5_thrown : GoodIn wsL_law wsX5_thrown := goodIn_r _ [161, 148, 825, 826, 827, 828, 829, 830, 831, 832, 833, 834, 835, 836, 837, 838] (by decide +kernel) (by decide +kernel)
set_option maxRecDepth 20000 in
theorem gL_law_X5_thrown : GoodIn wsL_law (wsV RL 94 RX5 yX5_thrown wsX5_thrown) := goodIn_app (goodIn_of _ (by decide +kernel)) ggL_law_X5_thrown
set_option maxRecDepth 20000 in
theorem ggL_law_L_setBand : GoodIn wsL_law wsL_setBand := goodIn_ca (goodIn_ca (goodIn_r _ [164, 88, 89, 165, 166, 167, 2, 168, 94, 95, 96, 97, 16, 101, 100, 169, 105, 106, 107, 108, 21, 20, 19, 18, 26, 109, 110, 111, 15, 112, 31, 32, 33, 34, 113, 114, 115, 116, 117, 118, 36, 119, 120, 121, 122, 37, 38, 42, 46, 123, 124, 125, 41, 126, 127, 50, 128, 51, 52, 53, 54, 55, 56, 57, 129, 130, 131, 45, 132, 133, 61, 134, 817, 818, 819, 820, 821, 822, 823, 824, 839, 840, 841, 842, 843, 844, 845, 846, 847, 848, 849, 850, 851, 852, 853, 860, 861, 862, 863, 864, 865, 866, 867, 868, 869, 870] (by decide +kernel) (by decide +kernel)) (goodIn_sub (fun _ h => List.mem_append_left _ (List.mem_append_left _ (List.mem_append_right _ h))) (by decide +kernel))) (goodIn_sub (fun _ h => List.mem_append_left _ (List.mem_append_right _ h)) (by decide +kernel))
set_option maxRecDepth 20000 in
theorem gL_law_L_setBand : GoodIn wsL_law (va_wsS RL 97 yL_setBand wsL_setBand) := goodIn_app (goodIn_of _ (by decide +kernel)) ggL_law_L_setBand
set_option maxRecDepth 20000 in
theorem ggL_law_X5_setBand : GoodIn wsL_law wsX5_setBand := goodIn_r _ [173, 71, 144, 145, 146, 5, 147, 148, 149, 150, 151, 152, 153, 154, 155, 156, 157, 73, 825, 826, 827, 828, 829, 830, 831, 832, 833, 834, 835, 836, 837, 838] (by decide +kernel) (by decide +kernel)
set_option maxRecDepth 20000 in
theorem gL_law_X5_setBand : GoodIn wsL_law (wsV RL 100 RX5 yX5_setBand wsX5_setBand) := goodIn_app (goodIn_of _ (by decide +kernel)) ggL_law_X5_setBand
set_option maxRecDepth 20000 in
theorem ggL_law_L_setLevel : GoodIn wsL_law wsL_setLevel := goodIn_ca (goodIn_ca (goodIn_r _ [176, 88, 89, 177, 178, 179, 2, 180, 94, 95, 96, 97, 16, 101, 99, 105, 106, 107, 108, 21, 20, 19, 18, 26, 109, 110, 111, 15, 112, 31, 32, 33, 34, 113, 114, 115, 116, 117, 118, 36, 119, 120, 121, 122, 37, 38, 42, 46, 123, 124, 125, 41, 126, 127, 50, 128, 51, 52, 53, 54, 55, 56, 57, 129, 130, 131, 45, 132, 133, 61, 134, 817, 818, 819, 820, 821, 822, 823, 824, 839, 840, 841, 842, 843, 844, 845, 846, 847, 848, 849, 850, 851, 852, 853, 860, 861, 862, 863, 864, 865, 866, 867, 868, 869, 870] (by decide +kernel) (by decide +kernel)) (goodIn_sub (fun _ h => List.mem_append_left _ (List.mem_append_left _ (List.mem_append_right _ h))) (by decide +kernel))) (goodIn_sub (fun _ h => List.mem_append_left _ (List.mem_append_right _ h)) (by decide +kernel))
set_option maxRecDepth 20000 in
theorem gL_law_L_setLevel : GoodIn wsL_law (va_wsS RL 101 yL_setLevel wsL_setLevel) := goodIn_app (goodIn_of _ (by decide +kernel)) ggL_law_L_setLevel
set_option maxRecDepth 20000 in
theorem ggL_law_X5_setLevel : GoodIn wsL_law wsX5_setLevel := goodIn_r _ [184, 71, 144, 145, 146, 5, 147, 148, 149, 150, 151, 152, 153, 154, 155, 156, 157, 73, 825, 826, 827, 828, 829, 830, 831, 832, 833, 834, 835, 836, 837, 838] (by decide +kernel) (by decide +kernel)
set_option maxRecDepth 20000 in
theorem gL_law_X5_setLevel : GoodIn wsL_law (wsV RL 103 RX5 yX5_setLevel wsX5_setLevel) := goodIn_app (goodIn_of _ (by decide +kernel)) ggL_law_X5_setLevel
set_option maxRecDepth 20000 in
theorem ggL_law_L_set : GoodIn wsL_law wsL_set := goodIn_ca (goodIn_r _ [187, 88, 188, 189, 190, 2, 191, 94, 95, 16, 192, 193, 15, 194, 195, 196, 105, 106, 107, 108, 21, 20, 19, 18, 26, 109, 110, 111, 112, 31, 32, 33, 34, 113, 114, 115, 116, 117, 118, 36, 119, 120, 121, 122, 37, 38, 42, 46, 123, 124, 125, 41, 126, 127, 50, 128, 51, 52, 53, 54, 55, 56, 57, 129, 130, 131, 45, 132, 133, 61, 134, 197, 198, 199, 200, 201, 202, 203, 204, 817, 818, 819, 820, 821, 822, 823, 824, 839, 840, 841, 842, 843, 844, 845, 846, 847, 848, 849, 850, 851, 852, 853, 860, 861, 862, 863, 864, 865, 866, 867, 868, 869, 870] (by decide +kernel) (by decide +kernel)) (goodIn_sub (fun _ h => List.mem_append_left _ (List.mem_append_left _ (List.mem_append_right _ h))) (by decide +kernel))
set_option maxRecDepth 20000 in
theorem gL_law_L_set : GoodIn wsL_law (va_wsS RL 104 yL_set wsL_set) := goodIn_app (goodIn_of _ (by decide +kernel)) ggL_law_L_set
set_option maxRecDepth 20000 in
theorem ggL_law_X5_set : GoodIn wsL_law wsX5_set := goodIn_r _ [208, 209, 210, 5, 211, 79, 139, 141, 142, 143, 144, 145, 146, 147, 148, 149, 150, 151, 152, 71, 153, 154, 155, 156, 157, 73, 825, 826, 827, 828, 829, 830, 831, 832, 833, 834, 835, 836, 837, 838] (by decide +kernel) (by decide +kernel)
set_option maxRecDepth 20000 in
theorem gL_law_X5_set : GoodIn wsL_law (wsV RL 106 RX5 yX5_set wsX5_set) := goodIn_app (goodIn_of _ (by decide +kernel)) ggL_law_X5_set
set_option maxRecDepth 20000 in
theorem ggL_law_L_setDemand : GoodIn wsL_law wsL_setDemand := goodIn_ca (goodIn_ca (goodIn_r _ [214, 215, 88, 216, 217, 218, 2, 219, 220, 221, 94, 95, 16, 222, 223, 224, 102, 103, 104, 105, 106, 107, 108, 21, 20, 19, 18, 26, 109, 110, 111, 15, 112, 31, 32, 33, 34, 113, 114, 115, 116, 117, 118, 36, 119, 120, 121, 122, 37, 38, 42, 46, 123, 124, 125, 41, 126, 127, 50, 128, 51, 52, 53, 54, 55, 56, 57, 129, 130, 131, 45, 132, 133, 61, 134, 225, 226, 227, 228, 229, 230, 231, 232, 817, 818, 819, 820, 821, 822, 823, 824, 839, 840, 841, 842, 843, 844, 845, 846, 847, 848, 849, 850, 851, 852, 853, 860, 861, 862, 863, 864, 865, 866, 867, 868, 869, 870] (by decide +kernel) (by decide +kernel)) (goodIn_sub (fun _ h => List.mem_append_right _ h) (by decide +kernel))) (goodIn_sub (fun _ h => List.mem_append_left _ (List.mem_append_left _ (List.mem_append_right _ h))) (by decide +kernel))
set_option maxRecDepth 20000 in
theorem gL_law_L_setDemand : GoodIn wsL_law (va_wsS RL 107 yL_setDemand wsL_setDemand) := goodIn_app (goodIn_of _ (by decide +kernel)) ggL_law_L_setDemand
set_option maxRecDepth 20000 in
theorem ggL_law_X5_setDemand : GoodIn wsL_law wsX5_setDemand := goodIn_r _ [236, 237, 238, 141, 142, 5, 143, 144, 145, 146, 147, 148, 149, 150, 151, 152, 71, 153, 154, 155, 156, 157, 73, 825, 826, 827, 828, 829, 830, 831, 832, 833, 834, 835, 836, 837, 838] (by decide +kernel) (by decide +kernel)
set_option maxRecDepth 20000 in
theorem gL_law_X5_setDemand : GoodIn wsL_law (wsV RL 109 RX5 yX5_setDemand wsX5_setDemand) := goodIn_app (goodIn_of _ (by decide +kernel)) ggL_law_X5_setDemand
set_option maxRecDepth 20000 in
theorem ggL_law_L_addPump : GoodIn wsL_law wsL_addPump := goodIn_ca (goodIn_ca (goodIn_r _ [241, 88, 89, 242, 243, 244, 2, 245, 94, 95, 96, 97, 16, 246, 247, 102, 103, 104, 248, 249, 250, 105, 106, 107, 108, 21, 20, 19, 18, 26, 109, 110, 111, 15, 112, 31, 32, 33, 34, 113, 114, 115, 116, 117, 118, 36, 119, 120, 121, 122, 37, 38, 42, 46, 123, 124, 125, 41, 126, 127, 50, 128, 51, 52, 53, 54, 55, 56, 57, 129, 130, 131, 45, 132, 133, 61, 134, 251, 252, 253, 254, 817, 818, 819, 820, 821, 822, 823, 824, 839, 840, 841, 842, 843, 844, 845, 846, 847, 848, 849, 850, 851, 852, 853, 860, 861, 862, 863, 864, 865, 866, 867, 868, 869, 870] (by decide +kernel) (by decide +kernel)) (goodIn_sub (fun _ h => List.mem_append_left _ (List.mem_append_left _ (List.mem_append_right _ h))) (by decide +kernel))) (goodIn_sub (fun _ h => List.mem_append_left _ (List.mem_append_right _ h)) (by decide +kernel))
set_option maxRecDepth 20000 in
theorem gL_law_L_addPump : GoodIn wsL_law (va_wsS RL 110 yL_addPump wsL_addPump) := goodIn_app (goodIn_of _ (by decide +kernel)) ggL_law_L_addPump
set_option maxRecDepth 20000 in
theorem ggL_law_X5_addPump : GoodIn wsL_law wsX5_addPump := goodIn_r _ [258, 82, 259, 71, 260, 141, 142, 5, 143, 144, 145, 146, 147, 148, 149, 150, 151, 152, 153, 154, 155, 156, 157, 73, 261, 262, 263, 825, 826, 827, 828, 829, 830, 831, 832, 833, 834, 835, 836, 837, 838] (by decide +kernel) (by decide +kernel)
set_option maxRecDepth 20000 in
theorem gL_law_X5_addPump : GoodIn wsL_law (wsV RL 112 RX5 yX5_addPump wsX5_addPump) := goodIn_app (goodIn_of _ (by decide +kernel)) ggL_law_X5_addPump
set_option maxRecDepth 20000 in
theorem ggL_law_L_swear : GoodIn wsL_law wsL_swear := goodIn_ca (goodIn_ca (goodIn_r _ [266, 215, 88, 267, 268, 269, 2, 270, 220, 221, 94, 95, 16, 246, 271, 272, 273, 274, 275, 276, 277, 278, 41, 279, 127, 248, 249, 250, 102, 103, 104, 105, 106, 107, 108, 21, 20, 19, 18, 26, 109, 110, 111, 15, 112, 31, 32, 33, 34, 113, 114, 115, 116, 117, 118, 36, 119, 120, 121, 122, 37, 38, 42, 46, 123, 124, 125, 126, 50, 128, 51, 52, 53, 54, 55, 56, 57, 129, 130, 131, 45, 132, 133, 61, 134, 817, 818, 819, 820, 821, 822, 823, 824, 839, 840, 841, 842, 843, 844, 845, 846, 847, 848, 849, 850, 851, 852, 853, 860, 861, 862, 863, 864, 865, 866, 867, 868, 869, 870] (by decide +kernel) (by decide +kernel)) (goodIn_sub (fun _ h => List.mem_append_right _ h) (by decide +kernel))) (goodIn_sub (fun _ h => List.mem_append_left _ (List.mem_append_left _ (List.mem_append_right _ h))) (by decide +kernel))
set_option maxRecDepth 20000 in
theorem gL_law_L_swear : GoodIn wsL_law (va_wsS RL 113 yL_swear wsL_swear) := goodIn_app (goodIn_of _ (by decide +kernel)) ggL_law_L_swear
set_option maxRecDepth 20000 in
theorem ggL_law_X5_swear : GoodIn wsL_law wsX5_swear := goodIn_r _ [283, 259, 284, 285, 286, 5, 287, 71, 141, 142, 143, 144, 145, 146, 147, 148, 261, 262, 263, 149, 150, 151, 152, 153, 154, 155, 156, 157, 73, 825, 826, 827, 828, 829, 830, 831, 832, 833, 834, 835, 836, 837, 838] (by decide +kernel) (by decide +kernel)
set_option maxRecDepth 20000 in
theorem gL_law_X5_swear : GoodIn wsL_law (wsV RL 115 RX5 yX5_swear wsX5_swear) := goodIn_app (goodIn_of _ (by decide +kernel)) ggL_law_X5_swear
set_option maxRecDepth 20000 in
theorem ggL_law_L_service : GoodIn wsL_law wsL_service := goodIn_ca (goodIn_ca (goodIn_r _ [290, 215, 89, 291, 292, 293, 2, 294, 220, 221, 96, 97, 16, 246, 295, 272, 273, 274, 275, 276, 277, 278, 41, 279, 127, 296, 297, 298, 299, 105, 106, 107, 108, 21, 20, 19, 18, 26, 109, 110, 111, 15, 112, 31, 32, 33, 34, 113, 114, 115, 116, 117, 118, 36, 119, 120, 121, 122, 37, 38, 42, 46, 123, 124, 125, 126, 50, 128, 51, 52, 53, 54, 55, 56, 57, 129, 130, 131, 45, 132, 133, 61, 134, 817, 818, 819, 820, 821, 822, 823, 824, 839, 840, 841, 842, 843, 844, 845, 846, 847, 848, 849, 850, 851, 852, 853, 860, 861, 862, 863, 864, 865, 866, 867, 868, 869, 870] (by decide +kernel) (by decide +kernel)) (goodIn_sub (fun _ h => List.mem_append_right _ h) (by decide +kernel))) (goodIn_sub (fun _ h => List.mem_append_left _ (List.mem_append_right _ h)) (by decide +kernel))
set_option maxRecDepth 20000 in
theorem gL_law_L_service : GoodIn wsL_law (va_wsS RL 116 yL_service wsL_service) := goodIn_app (goodIn_of _ (by decide +kernel)) ggL_law_L_service
set_option maxRecDepth 20000 in
theorem ggL_law_X5_service : GoodIn wsL_law wsX5_service := goodIn_r _ [303, 71, 304, 284, 285, 286, 5, 287, 141, 142, 143, 261, 262, 263, 144, 145, 146, 147, 148, 149, 150, 151, 152, 153, 154, 155, 156, 157, 73, 825, 826, 827, 828, 829, 830, 831, 832, 833, 834, 835, 836, 837, 838] (by decide +kernel) (by decide +kernel)
set_option maxRecDepth 20000 in
theorem gL_law_X5_service : GoodIn wsL_law (wsV RL 119 RX5 yX5_service wsX5_service) := goodIn_app (goodIn_of _ (by decide +kernel)) ggL_law_X5_service
set_option maxRecDepth 20000 in
theorem ggL_law_L_pass : GoodIn wsL_law wsL_pass := goodIn_ca (goodIn_ca (goodIn_r _ [307, 88, 89, 308, 309, 310, 2, 311, 94, 95, 96, 97, 16, 312, 102, 103, 104, 313, 314, 315, 316, 317, 318, 105, 106, 107, 108, 21, 20, 19, 18, 26, 109, 110, 111, 15, 112, 31, 32, 33, 34, 113, 114, 115, 116, 117, 118, 36, 119, 120, 121, 122, 37, 38, 42, 46, 123, 124, 125, 41, 126, 127, 50, 128, 51, 52, 53, 54, 55, 56, 57, 129, 130, 131, 45, 132, 133, 61, 134, 319, 320, 321, 322, 323, 324, 325, 326, 327, 328, 329, 330, 331, 332, 333, 334, 335, 336, 337, 338, 339, 340, 341, 342, 343, 344, 345, 346, 347, 348, 349, 350, 351, 352, 353, 354, 355, 356, 357, 358, 359, 360, 361, 362, 363, 364, 365, 277, 278, 279, 366, 367, 368, 369, 370, 371, 372, 373, 374, 375, 376, 377, 378, 379, 380, 381, 382, 383, 384, 385, 386, 387, 388, 389, 390, 391, 392, 393, 229, 230, 231, 232, 817, 818, 819, 820, 821, 822, 823, 824, 839, 840, 841, 842, 843, 844, 845, 846, 847, 848, 849, 850, 851, 852, 853, 860, 861, 862, 863, 864, 865, 866, 867, 868, 869, 870] (by decide +kernel) (by decide +kernel)) (goodIn_sub (fun _ h => List.mem_append_left _ (List.mem_append_left _ (List.mem_append_right _ h))) (by decide +kernel))) (goodIn_sub (fun _ h => List.mem_append_left _ (List.mem_append_right _ h)) (by decide +kernel))
set_option maxRecDepth 20000 in
theorem gL_law_L_pass : GoodIn wsL_law (va_wsS RL 120 yL_pass wsL_pass) := goodIn_app (goodIn_of _ (by decide +kernel)) ggL_law_L_pass
set_option maxRecDepth 20000 in
theorem ggL_law_X5_pass : GoodIn wsL_law wsX5_pass := goodIn_r _ [397, 398, 71, 399, 141, 142, 5, 143, 144, 145, 146, 147, 148, 153, 154, 155, 156, 157, 73, 400, 401, 402, 403, 404, 405, 261, 262, 263, 406, 407, 408, 409, 410, 411, 412, 413, 414, 415, 416, 417, 418, 419, 420, 421, 422, 423, 259, 424, 425, 426, 427, 428, 429, 825, 826, 827, 828, 829, 830, 831, 832, 833, 834, 835, 836, 837, 838] (by decide +kernel) (by decide +kernel)
set_option maxRecDepth 20000 in
theorem gL_law_X5_pass : GoodIn wsL_law (wsV RL 122 RX5 yX5_pass wsX5_pass) := goodIn_app (goodIn_of _ (by decide +kernel)) ggL_law_X5_pass
set_option maxRecDepth 20000 in
theorem ggL_law_L_pump : GoodIn wsL_law wsL_pump := goodIn_ca (goodIn_ca (goodIn_r _ [432, 215, 88, 433, 434, 435, 2, 436, 220, 221, 94, 95, 16, 246, 272, 273, 274, 275, 276, 277, 278, 41, 279, 127, 102, 103, 104, 437, 438, 439, 440, 50, 51, 52, 53, 54, 55, 56, 57, 370, 817, 818, 819, 820, 821, 822, 823, 824, 839, 840, 841, 842, 843, 844, 845, 846, 847, 848, 849, 850, 851, 852, 853, 860, 861, 862, 863, 864, 865, 866, 867, 868] (by decide +kernel) (by decide +kernel)) (goodIn_sub (fun _ h => List.mem_append_right _ h) (by decide +kernel))) (goodIn_sub (fun _ h => List.mem_append_left _ (List.mem_append_left _ (List.mem_append_right _ h))) (by decide +kernel))
set_option maxRecDepth 20000 in
theorem gL_law_L_pump : GoodIn wsL_law (va_wsS RL 123 yL_pump wsL_pump) := goodIn_app (goodIn_of _ (by decide +kernel)) ggL_law_L_pump
set_option maxRecDepth 20000 in
theorem ggL_law_X5_pump : GoodIn wsL_law wsX5_pump := goodIn_r _ [444, 445, 284, 285, 286, 5, 287, 71, 141, 142, 143, 144, 145, 146, 147, 148, 446, 447, 448, 449, 450, 451, 452, 261, 262, 263, 825, 826, 827, 828, 829, 830, 831, 832, 833, 834, 835, 836, 837, 838] (by decide +kernel) (by decide +kernel)
set_option maxRecDepth 20000 in
theorem gL_law_X5_pump : GoodIn wsL_law (wsV RL 125 RX5 yX5_pump wsX5_pump) := goodIn_app (goodIn_of _ (by decide +kernel)) ggL_law_X5_pump
set_option maxRecDepth 20000 in
theorem ggL_law_L_demand : GoodIn wsL_law wsL_demand := goodIn_ca (goodIn_r _ [455, 215, 456, 457, 458, 2, 459, 220, 221, 16, 222, 223, 224, 102, 103, 104, 460, 230, 231, 15, 232, 37, 817, 818, 819, 820, 821, 822, 823, 824, 839, 840, 841, 842, 843, 844, 845, 846, 847, 848, 849, 850, 851, 852, 853] (by decide +kernel) (by decide +kernel)) (goodIn_sub (fun _ h => List.mem_append_right _ h) (by decide +kernel))
set_option maxRecDepth 20000 in
theorem gL_law_L_demand : GoodIn wsL_law (va_wsS RL 126 yL_demand wsL_demand) := goodIn_app (goodIn_of _ (by decide +kernel)) ggL_law_L_demand
set_option maxRecDepth 20000 in
theorem ggL_law_X5_demand : GoodIn wsL_law wsX5_demand := goodIn_r _ [464, 237, 71, 141, 142, 5, 143, 144, 145, 146, 147, 148, 825, 826, 827, 828, 829, 830, 831, 832, 833, 834, 835, 836, 837, 838] (by decide +kernel) (by decide +kernel)
set_option maxRecDepth 20000 in
theorem gL_law_X5_demand : GoodIn wsL_law (wsV RL 128 RX5 yX5_demand wsX5_demand) := goodIn_app (goodIn_of _ (by decide +kernel)) ggL_law_X5_demand
set_option maxRecDepth 20000 in
theorem ggL_law_L_value : GoodIn wsL_law wsL_value := goodIn_ca (goodIn_r _ [467, 88, 468, 469, 470, 2, 471, 94, 95, 16, 102, 103, 104, 472, 473, 474, 15, 475, 31, 32, 33, 34, 42, 356, 113, 114, 115, 116, 46, 476, 348, 349, 350, 41, 351, 127, 52, 390, 391, 392, 393, 477, 478, 479, 480, 53, 817, 818, 819, 820, 821, 822, 823, 824, 839, 840, 841, 842, 843, 844, 845, 846, 847, 848, 849, 850, 851, 852, 853, 860, 861, 862, 863, 864, 865, 866, 867, 868, 869, 870] (by decide +kernel) (by decide +kernel)) (goodIn_sub (fun _ h => List.mem_append_left _ (List.mem_append_left _ (List.mem_append_right _ h))) (by decide +kernel))
set_option maxRecDepth 20000 in
theorem gL_law_L_value : GoodIn wsL_law (va_wsS RL 129 yL_value wsL_value) := goodIn_app (goodIn_of _ (by decide +kernel)) ggL_law_L_value
set_option maxRecDepth 20000 in
theorem ggL_law_X5_value : GoodIn wsL_law wsX5_value := goodIn_r _ [484, 485, 141, 142, 5, 143, 144, 145, 146, 147, 148, 486, 487, 488, 489, 71, 490, 491, 492, 409, 410, 411, 261, 262, 263, 825, 826, 827, 828, 829, 830, 831, 832, 833, 834, 835, 836, 837, 838] (by decide +kernel) (by decide +kernel)
set_option maxRecDepth 20000 in
theorem gL_law_X5_value : GoodIn wsL_law (wsV RL 131 RX5 yX5_value wsX5_value) := goodIn_app (goodIn_of _ (by decide +kernel)) ggL_law_X5_value
set_option maxRecDepth 20000 in
theorem ggL_law_L_setting : GoodIn wsL_law wsL_setting := goodIn_ca (goodIn_r _ [495, 88, 496, 497, 498, 2, 499, 94, 95, 16, 102, 103, 104, 500, 202, 203, 15, 204, 36, 817, 818, 819, 820, 821, 822, 823, 824, 839, 840, 841, 842, 843, 844, 845, 846, 847, 848, 849, 850, 851, 852, 853] (by decide +kernel) (by decide +kernel)) (goodIn_sub (fun _ h => List.mem_append_left _ (List.mem_append_left _ (List.mem_append_right _ h))) (by decide +kernel))
set_option maxRecDepth 20000 in
theorem gL_law_L_setting : GoodIn wsL_law (va_wsS RL 132 yL_setting wsL_setting) := goodIn_app (goodIn_of _ (by decide +kernel)) ggL_law_L_setting
set_option maxRecDepth 20000 in
theorem ggL_law_X5_setting : GoodIn wsL_law wsX5_setting := goodIn_r _ [504, 304, 71, 141, 142, 5, 143, 144, 145, 146, 147, 148, 825, 826, 827, 828, 829, 830, 831, 832, 833, 834, 835, 836, 837, 838] (by decide +kernel) (by decide +kernel)
set_option maxRecDepth 20000 in
theorem gL_law_X5_setting : GoodIn wsL_law (wsV RL 134 RX5 yX5_setting wsX5_setting) := goodIn_app (goodIn_of _ (by decide +kernel)) ggL_law_X5_setting
set_option maxRecDepth 20000 in
theorem ggL_law_L_water : GoodIn wsL_law wsL_water := goodIn_ca (goodIn_r _ [507, 88, 508, 509, 510, 2, 511, 94, 95, 16, 102, 103, 104, 512, 513, 514, 15, 515, 38, 817, 818, 819, 820, 821, 822, 823, 824, 839, 840, 841, 842, 843, 844, 845, 846, 847, 848, 849, 850, 851, 852, 853] (by decide +kernel) (by decide +kernel)) (goodIn_sub (fun _ h => List.mem_append_left _ (List.mem_append_left _ (List.mem_append_right _ h))) (by decide +kernel))
set_option maxRecDepth 20000 in
theorem gL_law_L_water : GoodIn wsL_law (va_wsS RL 135 yL_water wsL_water) := goodIn_app (goodIn_of _ (by decide +kernel)) ggL_law_L_water
set_option maxRecDepth 20000 in
theorem ggL_law_X5_water : GoodIn wsL_law wsX5_water := goodIn_r _ [519, 520, 71, 141, 142, 5, 143, 144, 145, 146, 147, 148, 825, 826, 827, 828, 829, 830, 831, 832, 833, 834, 835, 836, 837, 838] (by decide +kernel) (by decide +kernel)
set_option maxRecDepth 20000 in
theorem gL_law_X5_water : GoodIn wsL_law (wsV RL 137 RX5 yX5_water wsX5_water) := goodIn_app (goodIn_of _ (by decide +kernel)) ggL_law_X5_water
set_option maxRecDepth 20000 in
theorem ggL_law_L_nightLeak : GoodIn wsL_law wsL_nightLeak := goodIn_ca (goodIn_r _ [523, 89, 524, 525, 526, 2, 527, 96, 97, 16, 528, 529, 817, 818, 819, 820, 821, 822, 823, 824, 839, 840, 841, 842, 843, 844, 845, 846, 847, 848, 849, 850, 851, 852, 853] (by decide +kernel) (by decide +kernel)) (goodIn_sub (fun _ h => List.mem_append_left _ (List.mem_append_right _ h)) (by decide +kernel))
set_option maxRecDepth 20000 in
theorem gL_law_L_nightLeak : GoodIn wsL_law (va_wsS RL 138 yL_nightLeak wsL_nightLeak) := goodIn_app (goodIn_of _ (by decide +kernel)) ggL_law_L_nightLeak
set_option maxRecDepth 20000 in
theorem ggL_law_X5_nightLeak : GoodIn wsL_law wsX5_nightLeak := goodIn_r _ [533, 71, 144, 145, 146, 5, 147, 148, 825, 826, 827, 828, 829, 830, 831, 832, 833, 834, 835, 836, 837, 838] (by decide +kernel) (by decide +kernel)
set_option maxRecDepth 20000 in
theorem gL_law_X5_nightLeak : GoodIn wsL_law (wsV RL 141 RX5 yX5_nightLeak wsX5_nightLeak) := goodIn_app (goodIn_of _ (by decide +kernel)) ggL_law_X5_nightLeak
set_option maxRecDepth 20000 in
theorem ggL_law_L_entry : GoodIn wsL_law wsL_entry := goodIn_ca (goodIn_ca (goodIn_r _ [536, 215, 88, 537, 538, 539, 2, 540, 220, 221, 94, 95, 16, 541, 542, 102, 103, 104, 543, 544, 545, 45, 546, 61, 817, 818, 819, 820, 821, 822, 823, 824, 839, 840, 841, 842, 843, 844, 845, 846, 847, 848, 849, 850, 851, 852, 853, 869, 870] (by decide +kernel) (by decide +kernel)) (goodIn_sub (fun _ h => List.mem_append_right _ h) (by decide +kernel))) (goodIn_sub (fun _ h => List.mem_append_left _ (List.mem_append_left _ (List.mem_append_right _ h))) (by decide +kernel))
set_option maxRecDepth 20000 in
theorem gL_law_L_entry : GoodIn wsL_law (va_wsS RL 142 yL_entry wsL_entry) := goodIn_app (goodIn_of _ (by decide +kernel)) ggL_law_L_entry
set_option maxRecDepth 20000 in
theorem ggL_law_X5_entry : GoodIn wsL_law wsX5_entry := goodIn_r _ [550, 71, 304, 141, 142, 5, 143, 144, 145, 146, 147, 148, 825, 826, 827, 828, 829, 830, 831, 832, 833, 834, 835, 836, 837, 838] (by decide +kernel) (by decide +kernel)
set_option maxRecDepth 20000 in
theorem gL_law_X5_entry : GoodIn wsL_law (wsV RL 144 RX5 yX5_entry wsX5_entry) := goodIn_app (goodIn_of _ (by decide +kernel)) ggL_law_X5_entry
set_option maxRecDepth 20000 in
theorem ggL_law_L_levelIn : GoodIn wsL_law wsL_levelIn := goodIn_ca (goodIn_r _ [553, 88, 554, 555, 556, 2, 557, 94, 95, 17, 16, 99, 102, 103, 104, 109, 110, 111, 15, 112, 31, 32, 33, 34, 113, 114, 115, 116, 117, 118, 36, 119, 120, 121, 122, 37, 38, 42, 46, 123, 124, 125, 41, 126, 127, 50, 128, 51, 52, 53, 54, 55, 56, 57, 129, 130, 131, 45, 132, 133, 61, 134, 319, 320, 321, 322, 323, 324, 325, 326, 327, 328, 329, 330, 331, 332, 333, 334, 335, 336, 337, 338, 339, 340, 341, 342, 343, 344, 345, 346, 347, 348, 349, 350, 351, 352, 353, 354, 355, 356, 357, 358, 359, 360, 361, 362, 363, 364, 365, 277, 278, 279, 366, 367, 368, 369, 370, 371, 372, 373, 374, 375, 376, 377, 378, 379, 380, 381, 382, 383, 384, 385, 386, 387, 388, 389, 390, 391, 392, 393, 229, 230, 231, 232, 817, 818, 819, 820, 821, 822, 823, 824, 839, 840, 841, 842, 843, 844, 845, 846, 847, 848, 849, 850, 851, 852, 853, 860, 861, 862, 863, 864, 865, 866, 867, 868, 869, 870] (by decide +kernel) (by decide +kernel)) (goodIn_sub (fun _ h => List.mem_append_left _ (List.mem_append_left _ (List.mem_append_right _ h))) (by decide +kernel))
set_option maxRecDepth 20000 in
theorem gL_law_L_levelIn : GoodIn wsL_law (va_wsS RL 145 yL_levelIn wsL_levelIn) := goodIn_app (goodIn_of _ (by decide +kernel)) ggL_law_L_levelIn
set_option maxRecDepth 20000 in
theorem ggL_law_X5_levelIn : GoodIn wsL_law wsX5_levelIn := goodIn_r _ [561, 398, 72, 141, 142, 5, 143, 144, 145, 146, 147, 148, 562, 563, 564, 565, 71, 566, 567, 568, 569, 400, 401, 402, 403, 404, 405, 261, 262, 263, 406, 407, 408, 409, 410, 411, 412, 413, 414, 415, 416, 417, 418, 419, 420, 421, 422, 423, 259, 424, 425, 426, 427, 428, 429, 825, 826, 827, 828, 829, 830, 831, 832, 833, 834, 835, 836, 837, 838] (by decide +kernel) (by decide +kernel)
set_option maxRecDepth 20000 in
theorem gL_law_X5_levelIn : GoodIn wsL_law (wsV RL 147 RX5 yX5_levelIn wsX5_levelIn) := goodIn_app (goodIn_of _ (by decide +kernel)) ggL_law_X5_levelIn
set_option maxRecDepth 20000 in
theorem ggL_law_L_startsIn : GoodIn wsL_law wsL_startsIn := goodIn_ca (goodIn_ca (goodIn_r _ [572, 215, 88, 573, 574, 575, 2, 576, 220, 221, 94, 95, 17, 16, 246, 577, 272, 273, 274, 275, 276, 277, 278, 41, 279, 127, 102, 103, 104, 109, 110, 111, 15, 112, 31, 32, 33, 34, 113, 114, 115, 116, 117, 118, 36, 119, 120, 121, 122, 37, 38, 42, 46, 123, 124, 125, 126, 50, 128, 51, 52, 53, 54, 55, 56, 57, 129, 130, 131, 45, 132, 133, 61, 134, 319, 320, 321, 322, 323, 324, 325, 326, 327, 328, 329, 330, 331, 332, 333, 334, 335, 336, 337, 338, 339, 340, 341, 342, 343, 344, 345, 346, 347, 348, 349, 350, 351, 352, 353, 354, 355, 356, 357, 358, 359, 360, 361, 362, 363, 364, 365, 366, 367, 368, 369, 370, 371, 372, 373, 374, 375, 376, 377, 378, 379, 380, 381, 382, 383, 384, 385, 386, 387, 388, 389, 390, 391, 392, 393, 229, 230, 231, 232, 817, 818, 819, 820, 821, 822, 823, 824, 839, 840, 841, 842, 843, 844, 845, 846, 847, 848, 849, 850, 851, 852, 853, 860, 861, 862, 863, 864, 865, 866, 867, 868, 869, 870] (by decide +kernel) (by decide +kernel)) (goodIn_sub (fun _ h => List.mem_append_right _ h) (by decide +kernel))) (goodIn_sub (fun _ h => List.mem_append_left _ (List.mem_append_left _ (List.mem_append_right _ h))) (by decide +kernel))
set_option maxRecDepth 20000 in
theorem gL_law_L_startsIn : GoodIn wsL_law (va_wsS RL 148 yL_startsIn wsL_startsIn) := goodIn_app (goodIn_of _ (by decide +kernel)) ggL_law_L_startsIn
set_option maxRecDepth 20000 in
theorem ggL_law_X5_startsIn : GoodIn wsL_law wsX5_startsIn := goodIn_r _ [581, 398, 72, 71, 284, 285, 286, 5, 287, 141, 142, 143, 144, 145, 146, 147, 148, 562, 563, 564, 565, 566, 567, 568, 569, 400, 401, 402, 403, 404, 405, 261, 262, 263, 406, 407, 408, 409, 410, 411, 412, 413, 414, 415, 416, 417, 418, 419, 420, 421, 422, 423, 259, 424, 425, 426, 427, 428, 429, 825, 826, 827, 828, 829, 830, 831, 832, 833, 834, 835, 836, 837, 838] (by decide +kernel) (by decide +kernel)
set_option maxRecDepth 20000 in
theorem gL_law_X5_startsIn : GoodIn wsL_law (wsV RL 150 RX5 yX5_startsIn wsX5_startsIn) := goodIn_app (goodIn_of _ (by decide +kernel)) ggL_law_X5_startsIn
set_option maxRecDepth 20000 in
theorem ggL_law_L_oathFor : GoodIn wsL_law wsL_oathFor := goodIn_ca (goodIn_r _ [584, 88, 585, 586, 587, 2, 588, 94, 95, 102, 103, 104, 589, 590, 591, 592, 17, 16, 246, 312, 109, 110, 111, 15, 112, 31, 32, 33, 34, 113, 114, 115, 116, 117, 118, 36, 119, 120, 121, 122, 37, 38, 42, 46, 123, 124, 125, 41, 126, 127, 50, 128, 51, 52, 53, 54, 55, 56, 57, 129, 130, 131, 45, 132, 133, 61, 134, 593, 594, 595, 596, 597, 324, 325, 326, 327, 328, 329, 330, 331, 332, 333, 334, 335, 336, 337, 338, 339, 340, 341, 342, 343, 344, 345, 346, 347, 348, 349, 350, 351, 352, 353, 354, 355, 356, 357, 358, 359, 360, 361, 362, 363, 364, 365, 277, 278, 279, 366, 367, 368, 369, 370, 371, 372, 373, 374, 375, 376, 377, 378, 379, 380, 381, 382, 383, 384, 385, 386, 387, 388, 389, 390, 391, 392, 393, 229, 230, 231, 232, 817, 818, 819, 820, 821, 822, 823, 824, 839, 840, 841, 842, 843, 844, 845, 846, 847, 848, 849, 850, 851, 852, 853, 860, 861, 862, 863, 864, 865, 866, 867, 868, 869, 870] (by decide +kernel) (by decide +kernel)) (goodIn_sub (fun _ h => List.mem_append_left _ (List.mem_append_left _ (List.mem_append_right _ h))) (by decide +kernel))
set_option maxRecDepth 20000 in
theorem gL_law_L_oathFor : GoodIn wsL_law (va_wsS RL 151 yL_oathFor wsL_oathFor) := goodIn_app (goodIn_of _ (by decide +kernel)) ggL_law_L_oathFor
set_option maxRecDepth 20000 in
theorem ggL_law_X5_oathFor : GoodIn wsL_law wsX5_oathFor := goodIn_r _ [601, 398, 71, 72, 141, 142, 5, 143, 144, 145, 146, 147, 148, 562, 563, 564, 565, 261, 262, 263, 566, 567, 568, 569, 400, 401, 402, 403, 404, 405, 406, 407, 408, 409, 410, 411, 412, 413, 414, 415, 416, 417, 418, 419, 420, 421, 422, 423, 259, 424, 425, 426, 427, 428, 429, 825, 826, 827, 828, 829, 830, 831, 832, 833, 834, 835, 836, 837, 838] (by decide +kernel) (by decide +kernel)
set_option maxRecDepth 20000 in
theorem gL_law_X5_oathFor : GoodIn wsL_law (wsV RL 153 RX5 yX5_oathFor wsX5_oathFor) := goodIn_app (goodIn_of _ (by decide +kernel)) ggL_law_X5_oathFor
set_option maxRecDepth 20000 in
theorem ggL_law_X4_emptyIn : GoodIn wsL_law wsX4_emptyIn := goodIn_r _ [605, 17, 16, 246, 99, 109, 110, 111, 15, 112, 31, 32, 33, 34, 113, 114, 115, 116, 117, 118, 36, 119, 120, 121, 122, 37, 38, 42, 46, 123, 124, 125, 41, 126, 127, 50, 128, 51, 52, 53, 54, 55, 56, 57, 129, 130, 131, 45, 132, 133, 61, 134, 606, 607, 608, 609, 597, 324, 325, 326, 327, 328, 329, 330, 331, 332, 333, 334, 335, 336, 337, 338, 339, 340, 341, 342, 343, 344, 345, 346, 347, 348, 349, 350, 351, 352, 353, 354, 355, 356, 357, 358, 359, 360, 361, 362, 363, 364, 365, 277, 278, 279, 366, 367, 368, 369, 370, 371, 372, 373, 374, 375, 376, 377, 378, 379, 380, 381, 382, 383, 384, 385, 386, 387, 388, 389, 390, 391, 392, 393, 229, 230, 231, 232, 817, 818, 819, 820, 821, 822, 823, 824, 839, 840, 841, 842, 843, 844, 845, 846, 847, 848, 849, 850, 851, 852, 853, 860, 861, 862, 863, 864, 865, 866, 867, 868, 869, 870] (by decide +kernel) (by decide +kernel)
set_option maxRecDepth 20000 in
theorem gL_law_X4_emptyIn : GoodIn wsL_law (wsV RL 154 RX4 yX4_emptyIn wsX4_emptyIn) := goodIn_app (goodIn_of _ (by decide +kernel)) ggL_law_X4_emptyIn
set_option maxRecDepth 20000 in
theorem ggL_law_X5_emptyIn : GoodIn wsL_law wsX5_emptyIn := goodIn_r _ [613, 71, 72, 304, 144, 145, 146, 5, 147, 148, 562, 563, 564, 565, 261, 262, 263, 400, 401, 402, 398, 403, 404, 405, 406, 407, 408, 409, 410, 411, 412, 413, 414, 415, 416, 417, 418, 419, 420, 421, 422, 423, 259, 424, 425, 426, 427, 428, 429, 825, 826, 827, 828, 829, 830, 831, 832, 833, 834, 835, 836, 837, 838] (by decide +kernel) (by decide +kernel)
set_option maxRecDepth 20000 in
theorem gL_law_X5_emptyIn : GoodIn wsL_law (wsV RL 157 RX5 yX5_emptyIn wsX5_emptyIn) := goodIn_app (goodIn_of _ (by decide +kernel)) ggL_law_X5_emptyIn
set_option maxRecDepth 20000 in
theorem ggL_law_X4_nextStart : GoodIn wsL_law wsX4_nextStart := goodIn_r _ [617, 17, 16, 109, 110, 111, 15, 112, 31, 32, 33, 34, 113, 114, 115, 116, 117, 118, 36, 119, 120, 121, 122, 37, 38, 42, 46, 123, 124, 125, 41, 126, 127, 50, 128, 51, 52, 53, 54, 55, 56, 57, 129, 130, 131, 45, 132, 133, 61, 134, 597, 324, 325, 326, 327, 328, 329, 330, 331, 332, 333, 334, 335, 336, 337, 338, 339, 340, 341, 342, 343, 344, 345, 346, 347, 348, 349, 350, 351, 352, 353, 354, 355, 356, 357, 358, 359, 360, 361, 362, 363, 364, 365, 277, 278, 279, 366, 367, 368, 369, 370, 371, 372, 373, 374, 375, 376, 377, 378, 379, 380, 381, 382, 383, 384, 385, 386, 387, 388, 389, 390, 391, 392, 393, 229, 230, 231, 232, 817, 818, 819, 820, 821, 822, 823, 824, 839, 840, 841, 842, 843, 844, 845, 846, 847, 848, 849, 850, 851, 852, 853, 860, 861, 862, 863, 864, 865, 866, 867, 868, 869, 870] (by decide +kernel) (by decide +kernel)
set_option maxRecDepth 20000 in
theorem gL_law_X4_nextStart : GoodIn wsL_law (wsV RL 158 RX4 yX4_nextStart wsX4_nextStart) := goodIn_app (goodIn_of _ (by decide +kernel)) ggL_law_X4_nextStart
set_option maxRecDepth 20000 in
theorem ggL_law_X5_nextStart : GoodIn wsL_law wsX5_nextStart := goodIn_r _ [621, 72, 144, 145, 146, 5, 147, 148, 562, 563, 564, 565, 71, 622, 623, 624, 625, 261, 262, 263, 400, 401, 402, 398, 403, 404, 405, 406, 407, 408, 409, 410, 411, 412, 413, 414, 415, 416, 417, 418, 419, 420, 421, 422, 423, 259, 424, 425, 426, 427, 428, 429, 825, 826, 827, 828, 829, 830, 831, 832, 833, 834, 835, 836, 837, 838] (by decide +kernel) (by decide +kernel)
set_option maxRecDepth 20000 in
theorem gL_law_X5_nextStart : GoodIn wsL_law (wsV RL 161 RX5 yX5_nextStart wsX5_nextStart) := goodIn_app (goodIn_of _ (by decide +kernel)) ggL_law_X5_nextStart
set_option maxRecDepth 20000 in
theorem ggL_law_X4_honesty : GoodIn wsL_law wsX4_honesty := goodIn_r _ [629, 16, 246, 312, 630, 631, 632, 41, 633, 127, 55, 817, 818, 819, 820, 821, 822, 823, 824, 839, 840, 841, 842, 843, 844, 845, 846, 847, 848, 849, 850, 851, 852, 853, 860, 861, 862, 863, 864, 865, 866, 867, 868] (by decide +kernel) (by decide +kernel)
set_option maxRecDepth 20000 in
theorem gL_law_X4_honesty : GoodIn wsL_law (wsV RL 162 RX4 yX4_honesty wsX4_honesty) := goodIn_app (goodIn_of _ (by decide +kernel)) ggL_law_X4_honesty
set_option maxRecDepth 20000 in
theorem ggL_law_X5_honesty : GoodIn wsL_law wsX5_honesty := goodIn_r _ [637, 71, 144, 145, 146, 5, 147, 148, 261, 262, 263, 825, 826, 827, 828, 829, 830, 831, 832, 833, 834, 835, 836, 837, 838] (by decide +kernel) (by decide +kernel)
set_option maxRecDepth 20000 in
theorem gL_law_X5_honesty : GoodIn wsL_law (wsV RL 166 RX5 yX5_honesty wsX5_honesty) := goodIn_app (goodIn_of _ (by decide +kernel)) ggL_law_X5_honesty
set_option maxRecDepth 20000 in
theorem ggL_law_L_append : GoodIn wsL_law wsL_append := goodIn_ca (goodIn_ca (goodIn_r _ [640, 88, 89, 641, 642, 643, 2, 644, 94, 95, 96, 97, 25, 645, 102, 103, 104, 646, 647, 648, 24, 649, 650, 65, 817, 818, 819, 820, 821, 822, 823, 824, 854, 855, 856, 857, 858, 859] (by decide +kernel) (by decide +kernel)) (goodIn_sub (fun _ h => List.mem_append_left _ (List.mem_append_left _ (List.mem_append_right _ h))) (by decide +kernel))) (goodIn_sub (fun _ h => List.mem_append_left _ (List.mem_append_right _ h)) (by decide +kernel))
set_option maxRecDepth 20000 in
theorem gL_law_L_append : GoodIn wsL_law (va_wsS RL 167 yL_append wsL_append) := goodIn_app (goodIn_of _ (by decide +kernel)) ggL_law_L_append
set_option maxRecDepth 20000 in
theorem ggL_law_X5_append : GoodIn wsL_law wsX5_append := goodIn_r _ [654, 655, 656, 74, 141, 142, 5, 143, 144, 145, 146, 147, 148, 825, 826, 827, 828, 829, 830, 831, 832, 833, 834, 835, 836, 837, 838] (by decide +kernel) (by decide +kernel)
set_option maxRecDepth 20000 in
theorem gL_law_X5_append : GoodIn wsL_law (wsV RL 169 RX5 yX5_append wsX5_append) := goodIn_app (goodIn_of _ (by decide +kernel)) ggL_law_X5_append
set_option maxRecDepth 20000 in
theorem ggL_law_X4_clearText : GoodIn wsL_law wsX4_clearText := goodIn_r _ [660, 25, 645, 817, 818, 819, 820, 821, 822, 823, 824, 854, 855, 856, 857, 858, 859] (by decide +kernel) (by decide +kernel)
set_option maxRecDepth 20000 in
theorem gL_law_X4_clearText : GoodIn wsL_law (wsV RL 170 RX4 yX4_clearText wsX4_clearText) := goodIn_app (goodIn_of _ (by decide +kernel)) ggL_law_X4_clearText
set_option maxRecDepth 20000 in
theorem ggL_law_X5_clearText : GoodIn wsL_law wsX5_clearText := goodIn_r _ [664, 656, 144, 145, 146, 5, 147, 148, 825, 826, 827, 828, 829, 830, 831, 832, 833, 834, 835, 836, 837, 838] (by decide +kernel) (by decide +kernel)
set_option maxRecDepth 20000 in
theorem gL_law_X5_clearText : GoodIn wsL_law (wsV RL 173 RX5 yX5_clearText wsX5_clearText) := goodIn_app (goodIn_of _ (by decide +kernel)) ggL_law_X5_clearText
set_option maxRecDepth 20000 in
theorem ggL_law_X4_carryOut : GoodIn wsL_law wsX4_carryOut := goodIn_r _ [668, 25, 669, 670, 671, 672, 24, 673, 674, 675, 676, 650, 677, 678, 679, 680, 681, 682, 683, 684, 65, 685, 686, 687, 688, 689, 690, 691, 692, 693, 694, 695, 696, 697, 698, 699, 700, 701, 702, 703, 704, 705, 706, 707, 708, 709, 710, 711, 712, 713, 714, 715, 716, 66, 105, 106, 107, 2, 108, 21, 20, 19, 18, 16, 26, 109, 110, 111, 15, 112, 31, 32, 33, 34, 113, 114, 115, 116, 117, 118, 36, 119, 120, 121, 122, 37, 38, 42, 46, 123, 124, 125, 41, 126, 127, 50, 128, 51, 52, 53, 54, 55, 56, 57, 129, 130, 131, 45, 132, 133, 61, 134, 717, 718, 719, 720, 246, 271, 295, 721, 722, 723, 724, 313, 314, 315, 316, 317, 318, 319, 320, 321, 322, 323, 324, 325, 326, 327, 328, 329, 330, 331, 332, 333, 334, 335, 336, 337, 338, 339, 340, 341, 342, 343, 344, 345, 346, 347, 348, 349, 350, 351, 352, 353, 354, 355, 356, 357, 358, 359, 360, 361, 362, 363, 364, 365, 277, 278, 279, 366, 367, 368, 369, 370, 371, 372, 373, 374, 375, 376, 377, 378, 379, 380, 381, 382, 383, 384, 385, 386, 387, 388, 389, 390, 391, 392, 393, 229, 230, 231, 232, 272, 273, 274, 275, 276, 296, 297, 298, 299, 225, 226, 227, 228, 817, 818, 819, 820, 821, 822, 823, 824, 854, 855, 856, 857, 858, 859, 839, 840, 841, 842, 843, 844, 845, 846, 847, 848, 849, 850, 851, 852, 853, 860, 861, 862, 863, 864, 865, 866, 867, 868, 869, 870] (by decide +kernel) (by decide +kernel)
set_option maxRecDepth 20000 in
theorem gL_law_X4_carryOut : GoodIn wsL_law (wsV RL 174 RX4 yX4_carryOut wsX4_carryOut) := goodIn_app (goodIn_of _ (by decide +kernel)) ggL_law_X4_carryOut
set_option maxRecDepth 20000 in
theorem ggL_law_X5_carryOut : GoodIn wsL_law wsX5_carryOut := goodIn_r _ [728, 729, 730, 731, 656, 144, 145, 146, 5, 147, 148, 732, 733, 734, 735, 76, 736, 75, 77, 737, 738, 739, 740, 74, 741, 742, 743, 744, 745, 746, 747, 748, 749, 750, 141, 142, 143, 751, 752, 753, 754, 755, 756, 757, 758, 759, 760, 761, 762, 763, 764, 765, 766, 153, 154, 155, 156, 157, 73, 71, 767, 768, 769, 770, 399, 304, 284, 285, 286, 287, 261, 262, 263, 771, 772, 773, 774, 400, 401, 402, 398, 403, 404, 405, 406, 407, 408, 409, 410, 411, 412, 413, 414, 415, 416, 417, 418, 419, 420, 421, 422, 423, 259, 424, 425, 426, 427, 428, 429, 825, 826, 827, 828, 829, 830, 831, 832, 833, 834, 835, 836, 837, 838] (by decide +kernel) (by decide +kernel)
set_option maxRecDepth 20000 in
theorem gL_law_X5_carryOut : GoodIn wsL_law (wsV RL 177 RX5 yX5_carryOut wsX5_carryOut) := goodIn_app (goodIn_of _ (by decide +kernel)) ggL_law_X5_carryOut
set_option maxRecDepth 20000 in
theorem ggL_law_L_undo : GoodIn wsL_law wsL_undo := goodIn_ca (goodIn_r _ [777, 89, 778, 779, 780, 2, 781, 96, 97, 26, 16, 18, 19, 20, 21, 109, 110, 111, 15, 112, 31, 32, 33, 34, 113, 114, 115, 116, 117, 118, 36, 119, 120, 121, 122, 37, 38, 42, 46, 123, 124, 125, 41, 126, 127, 50, 128, 51, 52, 53, 54, 55, 56, 57, 129, 130, 131, 45, 132, 133, 61, 134, 817, 818, 819, 820, 821, 822, 823, 824, 839, 840, 841, 842, 843, 844, 845, 846, 847, 848, 849, 850, 851, 852, 853, 860, 861, 862, 863, 864, 865, 866, 867, 868, 869, 870] (by decide +kernel) (by decide +kernel)) (goodIn_sub (fun _ h => List.mem_append_left _ (List.mem_append_right _ h)) (by decide +kernel))
set_option maxRecDepth 20000 in
theorem gL_law_L_undo : GoodIn wsL_law (va_wsS RL 178 yL_undo wsL_undo) := goodIn_app (goodIn_of _ (by decide +kernel)) ggL_law_L_undo
set_option maxRecDepth 20000 in
theorem ggL_law_X5_undo : GoodIn wsL_law wsX5_undo := goodIn_r _ [785, 157, 71, 73, 144, 145, 146, 5, 147, 148, 825, 826, 827, 828, 829, 830, 831, 832, 833, 834, 835, 836, 837, 838] (by decide +kernel) (by decide +kernel)
set_option maxRecDepth 20000 in
theorem gL_law_X5_undo : GoodIn wsL_law (wsV RL 180 RX5 yX5_undo wsX5_undo) := goodIn_app (goodIn_of _ (by decide +kernel)) ggL_law_X5_undo
set_option maxRecDepth 20000 in
theorem ggL_law_X4_digest : GoodIn wsL_law wsX4_digest := goodIn_r _ [789, 790, 25, 645, 16, 791, 26, 792, 793, 794, 15, 795, 796, 36, 37, 38, 118, 42, 46, 797, 473, 474, 475, 31, 32, 33, 34, 356, 113, 114, 115, 116, 476, 348, 349, 350, 41, 351, 127, 52, 390, 391, 392, 393, 477, 478, 479, 480, 53, 798, 799, 800, 801, 802, 803, 438, 439, 440, 50, 51, 54, 55, 56, 57, 370, 277, 278, 279, 804, 805, 806, 45, 807, 133, 61, 808, 817, 818, 819, 820, 821, 822, 823, 824, 854, 855, 856, 857, 858, 859, 839, 840, 841, 842, 843, 844, 845, 846, 847, 848, 849, 850, 851, 852, 853, 860, 861, 862, 863, 864, 865, 866, 867, 868, 869, 870] (by decide +kernel) (by decide +kernel)
set_option maxRecDepth 20000 in
theorem gL_law_X4_digest : GoodIn wsL_law (wsV RL 181 RX4 yX4_digest wsX4_digest) := goodIn_app (goodIn_of _ (by decide +kernel)) ggL_law_X4_digest
set_option maxRecDepth 20000 in
theorem ggL_law_X5_digest : GoodIn wsL_law wsX5_digest := goodIn_r _ [812, 813, 656, 814, 71, 815, 816, 157, 144, 145, 146, 5, 147, 148, 486, 487, 488, 489, 490, 491, 492, 409, 410, 411, 261, 262, 263, 446, 447, 448, 449, 450, 451, 452, 825, 826, 827, 828, 829, 830, 831, 832, 833, 834, 835, 836, 837, 838] (by decide +kernel) (by decide +kernel)
set_option maxRecDepth 20000 in
theorem gL_law_X5_digest : GoodIn wsL_law (wsV RL 184 RX5 yX5_digest wsX5_digest) := goodIn_app (goodIn_of _ (by decide +kernel)) ggL_law_X5_digest
theorem dL_law_0 : decode cL_law 0 = .ok (.new 8, 3) := by decide +kernel
theorem dL_law_3 : decode cL_law 3 = .ok (.dup, 1) := by decide +kernel
theorem dL_law_4 : decode cL_law 4 = .ok (.invokespecial 84, 3) := by decide +kernel
theorem dL_law_7 : decode cL_law 7 = .ok (.astore_n 1, 1) := by decide +kernel
theorem dL_law_8 : decode cL_law 8 = .ok (.new 85, 3) := by decide +kernel
theorem dL_law_11 : decode cL_law 11 = .ok (.dup, 1) := by decide +kernel
theorem dL_law_12 : decode cL_law 12 = .ok (.invokespecial 87, 3) := by decide +kernel
theorem dL_law_15 : decode cL_law 15 = .ok (.astore_n 2, 1) := by decide +kernel
theorem dL_law_16 : decode cL_law 16 = .ok (.iconst 1, 1) := by decide +kernel
theorem dL_law_17 : decode cL_law 17 = .ok (.newarray .long, 2) := by decide +kernel
theorem dL_law_19 : decode cL_law 19 = .ok (.astore_n 3, 1) := by decide +kernel
theorem dL_law_20 : decode cL_law 20 = .ok (.iconst 0, 1) := by decide +kernel
theorem dL_law_21 : decode cL_law 21 = .ok (.istore 4, 2) := by decide +kernel
theorem dL_law_23 : decode cL_law 23 = .ok (.iload 4, 2) := by decide +kernel
theorem dL_law_25 : decode cL_law 25 = .ok (.aload_n 0, 1) := by decide +kernel
theorem dL_law_26 : decode cL_law 26 = .ok (.arraylength, 1) := by decide +kernel
theorem dL_law_27 : decode cL_law 27 = .ok (.iconst 3, 1) := by decide +kernel
theorem dL_law_28 : decode cL_law 28 = .ok (.isub, 1) := by decide +kernel
theorem dL_law_29 : decode cL_law 29 = .ok (.if_icmp .gt 1525, 3) := by decide +kernel
theorem dL_law_32 : decode cL_law 32 = .ok (.aload_n 0, 1) := by decide +kernel
theorem dL_law_33 : decode cL_law 33 = .ok (.iload 4, 2) := by decide +kernel
theorem dL_law_35 : decode cL_law 35 = .ok (.iaload, 1) := by decide +kernel
theorem dL_law_36 : decode cL_law 36 = .ok (.bipush 31, 2) := by decide +kernel
theorem dL_law_38 : decode cL_law 38 = .ok (.iand, 1) := by decide +kernel
theorem dL_law_39 : decode cL_law 39 = .ok (.tableswitch 1509 0 26 #[121, 177, 245, 301, 369, 437, 505, 573, 664, 720, 788, 844, 900, 956, 1011, 1054, 1122, 1178, 1246, 1302, 1315, 1328, 1369, 1425, 1438, 1451, 1495], 121) := by decide +kernel
theorem dL_law_160 : decode cL_law 160 = .ok (.aload_n 1, 1) := by decide +kernel
theorem dL_law_161 : decode cL_law 161 = .ok (.aload_n 0, 1) := by decide +kernel
theorem dL_law_162 : decode cL_law 162 = .ok (.iload 4, 2) := by decide +kernel
theorem dL_law_164 : decode cL_law 164 = .ok (.iconst 1, 1) := by decide +kernel
theorem dL_law_165 : decode cL_law 165 = .ok (.iadd, 1) := by decide +kernel
theorem dL_law_166 : decode cL_law 166 = .ok (.iaload, 1) := by decide +kernel
theorem dL_law_167 : decode cL_law 167 = .ok (.aload_n 3, 1) := by decide +kernel
theorem dL_law_168 : decode cL_law 168 = .ok (.invokestatic 88, 3) := by decide +kernel
theorem dL_law_171 : decode cL_law 171 = .ok (.istore 5, 2) := by decide +kernel
theorem dL_law_173 : decode cL_law 173 = .ok (.aload_n 2, 1) := by decide +kernel
theorem dL_law_174 : decode cL_law 174 = .ok (.aload_n 0, 1) := by decide +kernel
theorem dL_law_175 : decode cL_law 175 = .ok (.iload 4, 2) := by decide +kernel
theorem dL_law_177 : decode cL_law 177 = .ok (.iconst 1, 1) := by decide +kernel
theorem dL_law_178 : decode cL_law 178 = .ok (.iadd, 1) := by decide +kernel
theorem dL_law_179 : decode cL_law 179 = .ok (.iaload, 1) := by decide +kernel
theorem dL_law_180 : decode cL_law 180 = .ok (.invokevirtual 93, 3) := by decide +kernel
theorem dL_law_183 : decode cL_law 183 = .ok (.istore 6, 2) := by decide +kernel
theorem dL_law_185 : decode cL_law 185 = .ok (.aload_n 2, 1) := by decide +kernel
theorem dL_law_186 : decode cL_law 186 = .ok (.invokevirtual 94, 3) := by decide +kernel
theorem dL_law_189 : decode cL_law 189 = .ok (.iload 5, 2) := by decide +kernel
theorem dL_law_191 : decode cL_law 191 = .ok (.if_icmp .eq 5, 3) := by decide +kernel
theorem dL_law_194 : decode cL_law 194 = .ok (.iconst 0, 1) := by decide +kernel
theorem dL_law_195 : decode cL_law 195 = .ok (.ireturn, 1) := by decide +kernel
theorem dL_law_196 : decode cL_law 196 = .ok (.iload 5, 2) := by decide +kernel
theorem dL_law_198 : decode cL_law 198 = .ok (.ifCond .ne 15, 3) := by decide +kernel
theorem dL_law_201 : decode cL_law 201 = .ok (.aload_n 3, 1) := by decide +kernel
theorem dL_law_202 : decode cL_law 202 = .ok (.iconst 0, 1) := by decide +kernel
theorem dL_law_203 : decode cL_law 203 = .ok (.laload, 1) := by decide +kernel
theorem dL_law_204 : decode cL_law 204 = .ok (.iload 6, 2) := by decide +kernel
theorem dL_law_206 : decode cL_law 206 = .ok (.i2l, 1) := by decide +kernel
theorem dL_law_207 : decode cL_law 207 = .ok (.lcmp, 1) := by decide +kernel
theorem dL_law_208 : decode cL_law 208 = .ok (.ifCond .eq 5, 3) := by decide +kernel
theorem dL_law_211 : decode cL_law 211 = .ok (.iconst 0, 1) := by decide +kernel
theorem dL_law_212 : decode cL_law 212 = .ok (.ireturn, 1) := by decide +kernel
theorem dL_law_213 : decode cL_law 213 = .ok (.goto 1335, 3) := by decide +kernel
theorem dL_law_216 : decode cL_law 216 = .ok (.aload_n 1, 1) := by decide +kernel
theorem dL_law_217 : decode cL_law 217 = .ok (.aload_n 0, 1) := by decide +kernel
theorem dL_law_218 : decode cL_law 218 = .ok (.iload 4, 2) := by decide +kernel
theorem dL_law_220 : decode cL_law 220 = .ok (.iconst 1, 1) := by decide +kernel
theorem dL_law_221 : decode cL_law 221 = .ok (.iadd, 1) := by decide +kernel
theorem dL_law_222 : decode cL_law 222 = .ok (.iaload, 1) := by decide +kernel
theorem dL_law_223 : decode cL_law 223 = .ok (.aload_n 0, 1) := by decide +kernel
theorem dL_law_224 : decode cL_law 224 = .ok (.iload 4, 2) := by decide +kernel
theorem dL_law_226 : decode cL_law 226 = .ok (.iconst 2, 1) := by decide +kernel
theorem dL_law_227 : decode cL_law 227 = .ok (.iadd, 1) := by decide +kernel
theorem dL_law_228 : decode cL_law 228 = .ok (.iaload, 1) := by decide +kernel
theorem dL_law_229 : decode cL_law 229 = .ok (.aload_n 3, 1) := by decide +kernel
theorem dL_law_230 : decode cL_law 230 = .ok (.invokestatic 97, 3) := by decide +kernel
theorem dL_law_233 : decode cL_law 233 = .ok (.istore 5, 2) := by decide +kernel
theorem dL_law_235 : decode cL_law 235 = .ok (.aload_n 2, 1) := by decide +kernel
theorem dL_law_236 : decode cL_law 236 = .ok (.aload_n 0, 1) := by decide +kernel
theorem dL_law_237 : decode cL_law 237 = .ok (.iload 4, 2) := by decide +kernel
theorem dL_law_239 : decode cL_law 239 = .ok (.iconst 1, 1) := by decide +kernel
theorem dL_law_240 : decode cL_law 240 = .ok (.iadd, 1) := by decide +kernel
theorem dL_law_241 : decode cL_law 241 = .ok (.iaload, 1) := by decide +kernel
theorem dL_law_242 : decode cL_law 242 = .ok (.aload_n 0, 1) := by decide +kernel
theorem dL_law_243 : decode cL_law 243 = .ok (.iload 4, 2) := by decide +kernel
theorem dL_law_245 : decode cL_law 245 = .ok (.iconst 2, 1) := by decide +kernel
theorem dL_law_246 : decode cL_law 246 = .ok (.iadd, 1) := by decide +kernel
theorem dL_law_247 : decode cL_law 247 = .ok (.iaload, 1) := by decide +kernel
theorem dL_law_248 : decode cL_law 248 = .ok (.invokevirtual 100, 3) := by decide +kernel
theorem dL_law_251 : decode cL_law 251 = .ok (.istore 6, 2) := by decide +kernel
theorem dL_law_253 : decode cL_law 253 = .ok (.aload_n 2, 1) := by decide +kernel
theorem dL_law_254 : decode cL_law 254 = .ok (.invokevirtual 94, 3) := by decide +kernel
theorem dL_law_257 : decode cL_law 257 = .ok (.iload 5, 2) := by decide +kernel
theorem dL_law_259 : decode cL_law 259 = .ok (.if_icmp .eq 5, 3) := by decide +kernel
theorem dL_law_262 : decode cL_law 262 = .ok (.iconst 0, 1) := by decide +kernel
theorem dL_law_263 : decode cL_law 263 = .ok (.ireturn, 1) := by decide +kernel
theorem dL_law_264 : decode cL_law 264 = .ok (.iload 5, 2) := by decide +kernel
theorem dL_law_266 : decode cL_law 266 = .ok (.ifCond .ne 15, 3) := by decide +kernel
theorem dL_law_269 : decode cL_law 269 = .ok (.aload_n 3, 1) := by decide +kernel
theorem dL_law_270 : decode cL_law 270 = .ok (.iconst 0, 1) := by decide +kernel
theorem dL_law_271 : decode cL_law 271 = .ok (.laload, 1) := by decide +kernel
theorem dL_law_272 : decode cL_law 272 = .ok (.iload 6, 2) := by decide +kernel
theorem dL_law_274 : decode cL_law 274 = .ok (.i2l, 1) := by decide +kernel
theorem dL_law_275 : decode cL_law 275 = .ok (.lcmp, 1) := by decide +kernel
theorem dL_law_276 : decode cL_law 276 = .ok (.ifCond .eq 5, 3) := by decide +kernel
theorem dL_law_279 : decode cL_law 279 = .ok (.iconst 0, 1) := by decide +kernel
theorem dL_law_280 : decode cL_law 280 = .ok (.ireturn, 1) := by decide +kernel
theorem dL_law_281 : decode cL_law 281 = .ok (.goto 1267, 3) := by decide +kernel
theorem dL_law_284 : decode cL_law 284 = .ok (.aload_n 1, 1) := by decide +kernel
theorem dL_law_285 : decode cL_law 285 = .ok (.aload_n 0, 1) := by decide +kernel
theorem dL_law_286 : decode cL_law 286 = .ok (.iload 4, 2) := by decide +kernel
theorem dL_law_288 : decode cL_law 288 = .ok (.iconst 1, 1) := by decide +kernel
theorem dL_law_289 : decode cL_law 289 = .ok (.iadd, 1) := by decide +kernel
theorem dL_law_290 : decode cL_law 290 = .ok (.iaload, 1) := by decide +kernel
theorem dL_law_291 : decode cL_law 291 = .ok (.aload_n 3, 1) := by decide +kernel
theorem dL_law_292 : decode cL_law 292 = .ok (.invokestatic 101, 3) := by decide +kernel
theorem dL_law_295 : decode cL_law 295 = .ok (.istore 5, 2) := by decide +kernel
theorem dL_law_297 : decode cL_law 297 = .ok (.aload_n 2, 1) := by decide +kernel
theorem dL_law_298 : decode cL_law 298 = .ok (.aload_n 0, 1) := by decide +kernel
theorem dL_law_299 : decode cL_law 299 = .ok (.iload 4, 2) := by decide +kernel
theorem dL_law_301 : decode cL_law 301 = .ok (.iconst 1, 1) := by decide +kernel
theorem dL_law_302 : decode cL_law 302 = .ok (.iadd, 1) := by decide +kernel
theorem dL_law_303 : decode cL_law 303 = .ok (.iaload, 1) := by decide +kernel
theorem dL_law_304 : decode cL_law 304 = .ok (.invokevirtual 103, 3) := by decide +kernel
theorem dL_law_307 : decode cL_law 307 = .ok (.istore 6, 2) := by decide +kernel
theorem dL_law_309 : decode cL_law 309 = .ok (.aload_n 2, 1) := by decide +kernel
theorem dL_law_310 : decode cL_law 310 = .ok (.invokevirtual 94, 3) := by decide +kernel
theorem dL_law_313 : decode cL_law 313 = .ok (.iload 5, 2) := by decide +kernel
theorem dL_law_315 : decode cL_law 315 = .ok (.if_icmp .eq 5, 3) := by decide +kernel
theorem dL_law_318 : decode cL_law 318 = .ok (.iconst 0, 1) := by decide +kernel
theorem dL_law_319 : decode cL_law 319 = .ok (.ireturn, 1) := by decide +kernel
theorem dL_law_320 : decode cL_law 320 = .ok (.iload 5, 2) := by decide +kernel
theorem dL_law_322 : decode cL_law 322 = .ok (.ifCond .ne 15, 3) := by decide +kernel
theorem dL_law_325 : decode cL_law 325 = .ok (.aload_n 3, 1) := by decide +kernel
theorem dL_law_326 : decode cL_law 326 = .ok (.iconst 0, 1) := by decide +kernel
theorem dL_law_327 : decode cL_law 327 = .ok (.laload, 1) := by decide +kernel
theorem dL_law_328 : decode cL_law 328 = .ok (.iload 6, 2) := by decide +kernel
theorem dL_law_330 : decode cL_law 330 = .ok (.i2l, 1) := by decide +kernel
theorem dL_law_331 : decode cL_law 331 = .ok (.lcmp, 1) := by decide +kernel
theorem dL_law_332 : decode cL_law 332 = .ok (.ifCond .eq 5, 3) := by decide +kernel
theorem dL_law_335 : decode cL_law 335 = .ok (.iconst 0, 1) := by decide +kernel
theorem dL_law_336 : decode cL_law 336 = .ok (.ireturn, 1) := by decide +kernel
theorem dL_law_337 : decode cL_law 337 = .ok (.goto 1211, 3) := by decide +kernel
theorem dL_law_340 : decode cL_law 340 = .ok (.aload_n 1, 1) := by decide +kernel
theorem dL_law_341 : decode cL_law 341 = .ok (.aload_n 0, 1) := by decide +kernel
theorem dL_law_342 : decode cL_law 342 = .ok (.iload 4, 2) := by decide +kernel
theorem dL_law_344 : decode cL_law 344 = .ok (.iconst 1, 1) := by decide +kernel
theorem dL_law_345 : decode cL_law 345 = .ok (.iadd, 1) := by decide +kernel
theorem dL_law_346 : decode cL_law 346 = .ok (.iaload, 1) := by decide +kernel
theorem dL_law_347 : decode cL_law 347 = .ok (.aload_n 0, 1) := by decide +kernel
theorem dL_law_348 : decode cL_law 348 = .ok (.iload 4, 2) := by decide +kernel
theorem dL_law_350 : decode cL_law 350 = .ok (.iconst 2, 1) := by decide +kernel
theorem dL_law_351 : decode cL_law 351 = .ok (.iadd, 1) := by decide +kernel
theorem dL_law_352 : decode cL_law 352 = .ok (.iaload, 1) := by decide +kernel
theorem dL_law_353 : decode cL_law 353 = .ok (.aload_n 3, 1) := by decide +kernel
theorem dL_law_354 : decode cL_law 354 = .ok (.invokestatic 104, 3) := by decide +kernel
theorem dL_law_357 : decode cL_law 357 = .ok (.istore 5, 2) := by decide +kernel
theorem dL_law_359 : decode cL_law 359 = .ok (.aload_n 2, 1) := by decide +kernel
theorem dL_law_360 : decode cL_law 360 = .ok (.aload_n 0, 1) := by decide +kernel
theorem dL_law_361 : decode cL_law 361 = .ok (.iload 4, 2) := by decide +kernel
theorem dL_law_363 : decode cL_law 363 = .ok (.iconst 1, 1) := by decide +kernel
theorem dL_law_364 : decode cL_law 364 = .ok (.iadd, 1) := by decide +kernel
theorem dL_law_365 : decode cL_law 365 = .ok (.iaload, 1) := by decide +kernel
theorem dL_law_366 : decode cL_law 366 = .ok (.aload_n 0, 1) := by decide +kernel
theorem dL_law_367 : decode cL_law 367 = .ok (.iload 4, 2) := by decide +kernel
theorem dL_law_369 : decode cL_law 369 = .ok (.iconst 2, 1) := by decide +kernel
theorem dL_law_370 : decode cL_law 370 = .ok (.iadd, 1) := by decide +kernel
theorem dL_law_371 : decode cL_law 371 = .ok (.iaload, 1) := by decide +kernel
theorem dL_law_372 : decode cL_law 372 = .ok (.invokevirtual 106, 3) := by decide +kernel
theorem dL_law_375 : decode cL_law 375 = .ok (.istore 6, 2) := by decide +kernel
theorem dL_law_377 : decode cL_law 377 = .ok (.aload_n 2, 1) := by decide +kernel
theorem dL_law_378 : decode cL_law 378 = .ok (.invokevirtual 94, 3) := by decide +kernel
theorem dL_law_381 : decode cL_law 381 = .ok (.iload 5, 2) := by decide +kernel
theorem dL_law_383 : decode cL_law 383 = .ok (.if_icmp .eq 5, 3) := by decide +kernel
theorem dL_law_386 : decode cL_law 386 = .ok (.iconst 0, 1) := by decide +kernel
theorem dL_law_387 : decode cL_law 387 = .ok (.ireturn, 1) := by decide +kernel
theorem dL_law_388 : decode cL_law 388 = .ok (.iload 5, 2) := by decide +kernel
theorem dL_law_390 : decode cL_law 390 = .ok (.ifCond .ne 15, 3) := by decide +kernel
theorem dL_law_393 : decode cL_law 393 = .ok (.aload_n 3, 1) := by decide +kernel
theorem dL_law_394 : decode cL_law 394 = .ok (.iconst 0, 1) := by decide +kernel
theorem dL_law_395 : decode cL_law 395 = .ok (.laload, 1) := by decide +kernel
theorem dL_law_396 : decode cL_law 396 = .ok (.iload 6, 2) := by decide +kernel
theorem dL_law_398 : decode cL_law 398 = .ok (.i2l, 1) := by decide +kernel
theorem dL_law_399 : decode cL_law 399 = .ok (.lcmp, 1) := by decide +kernel
theorem dL_law_400 : decode cL_law 400 = .ok (.ifCond .eq 5, 3) := by decide +kernel
theorem dL_law_403 : decode cL_law 403 = .ok (.iconst 0, 1) := by decide +kernel
theorem dL_law_404 : decode cL_law 404 = .ok (.ireturn, 1) := by decide +kernel
theorem dL_law_405 : decode cL_law 405 = .ok (.goto 1143, 3) := by decide +kernel
theorem dL_law_408 : decode cL_law 408 = .ok (.aload_n 1, 1) := by decide +kernel
theorem dL_law_409 : decode cL_law 409 = .ok (.aload_n 0, 1) := by decide +kernel
theorem dL_law_410 : decode cL_law 410 = .ok (.iload 4, 2) := by decide +kernel
theorem dL_law_412 : decode cL_law 412 = .ok (.iconst 1, 1) := by decide +kernel
theorem dL_law_413 : decode cL_law 413 = .ok (.iadd, 1) := by decide +kernel
theorem dL_law_414 : decode cL_law 414 = .ok (.iaload, 1) := by decide +kernel
theorem dL_law_415 : decode cL_law 415 = .ok (.aload_n 0, 1) := by decide +kernel
theorem dL_law_416 : decode cL_law 416 = .ok (.iload 4, 2) := by decide +kernel
theorem dL_law_418 : decode cL_law 418 = .ok (.iconst 2, 1) := by decide +kernel
theorem dL_law_419 : decode cL_law 419 = .ok (.iadd, 1) := by decide +kernel
theorem dL_law_420 : decode cL_law 420 = .ok (.iaload, 1) := by decide +kernel
theorem dL_law_421 : decode cL_law 421 = .ok (.aload_n 3, 1) := by decide +kernel
theorem dL_law_422 : decode cL_law 422 = .ok (.invokestatic 107, 3) := by decide +kernel
theorem dL_law_425 : decode cL_law 425 = .ok (.istore 5, 2) := by decide +kernel
theorem dL_law_427 : decode cL_law 427 = .ok (.aload_n 2, 1) := by decide +kernel
theorem dL_law_428 : decode cL_law 428 = .ok (.aload_n 0, 1) := by decide +kernel
theorem dL_law_429 : decode cL_law 429 = .ok (.iload 4, 2) := by decide +kernel
theorem dL_law_431 : decode cL_law 431 = .ok (.iconst 1, 1) := by decide +kernel
theorem dL_law_432 : decode cL_law 432 = .ok (.iadd, 1) := by decide +kernel
theorem dL_law_433 : decode cL_law 433 = .ok (.iaload, 1) := by decide +kernel
theorem dL_law_434 : decode cL_law 434 = .ok (.aload_n 0, 1) := by decide +kernel
theorem dL_law_435 : decode cL_law 435 = .ok (.iload 4, 2) := by decide +kernel
theorem dL_law_437 : decode cL_law 437 = .ok (.iconst 2, 1) := by decide +kernel
theorem dL_law_438 : decode cL_law 438 = .ok (.iadd, 1) := by decide +kernel
theorem dL_law_439 : decode cL_law 439 = .ok (.iaload, 1) := by decide +kernel
theorem dL_law_440 : decode cL_law 440 = .ok (.invokevirtual 109, 3) := by decide +kernel
theorem dL_law_443 : decode cL_law 443 = .ok (.istore 6, 2) := by decide +kernel
theorem dL_law_445 : decode cL_law 445 = .ok (.aload_n 2, 1) := by decide +kernel
theorem dL_law_446 : decode cL_law 446 = .ok (.invokevirtual 94, 3) := by decide +kernel
theorem dL_law_449 : decode cL_law 449 = .ok (.iload 5, 2) := by decide +kernel
theorem dL_law_451 : decode cL_law 451 = .ok (.if_icmp .eq 5, 3) := by decide +kernel
theorem dL_law_454 : decode cL_law 454 = .ok (.iconst 0, 1) := by decide +kernel
theorem dL_law_455 : decode cL_law 455 = .ok (.ireturn, 1) := by decide +kernel
theorem dL_law_456 : decode cL_law 456 = .ok (.iload 5, 2) := by decide +kernel
theorem dL_law_458 : decode cL_law 458 = .ok (.ifCond .ne 15, 3) := by decide +kernel
theorem dL_law_461 : decode cL_law 461 = .ok (.aload_n 3, 1) := by decide +kernel
theorem dL_law_462 : decode cL_law 462 = .ok (.iconst 0, 1) := by decide +kernel
theorem dL_law_463 : decode cL_law 463 = .ok (.laload, 1) := by decide +kernel
theorem dL_law_464 : decode cL_law 464 = .ok (.iload 6, 2) := by decide +kernel
theorem dL_law_466 : decode cL_law 466 = .ok (.i2l, 1) := by decide +kernel
theorem dL_law_467 : decode cL_law 467 = .ok (.lcmp, 1) := by decide +kernel
theorem dL_law_468 : decode cL_law 468 = .ok (.ifCond .eq 5, 3) := by decide +kernel
theorem dL_law_471 : decode cL_law 471 = .ok (.iconst 0, 1) := by decide +kernel
theorem dL_law_472 : decode cL_law 472 = .ok (.ireturn, 1) := by decide +kernel
theorem dL_law_473 : decode cL_law 473 = .ok (.goto 1075, 3) := by decide +kernel
theorem dL_law_476 : decode cL_law 476 = .ok (.aload_n 1, 1) := by decide +kernel
theorem dL_law_477 : decode cL_law 477 = .ok (.aload_n 0, 1) := by decide +kernel
theorem dL_law_478 : decode cL_law 478 = .ok (.iload 4, 2) := by decide +kernel
theorem dL_law_480 : decode cL_law 480 = .ok (.iconst 1, 1) := by decide +kernel
theorem dL_law_481 : decode cL_law 481 = .ok (.iadd, 1) := by decide +kernel
theorem dL_law_482 : decode cL_law 482 = .ok (.iaload, 1) := by decide +kernel
theorem dL_law_483 : decode cL_law 483 = .ok (.aload_n 0, 1) := by decide +kernel

theorem dL_pumpsHold_0 : decode cL_pumpsHold 0 = .ok (.aload_n 0, 1) := by decide +kernel
theorem dL_pumpsHold_1 : decode cL_pumpsHold 1 = .ok (.iconst 4, 1) := by decide +kernel
theorem dL_pumpsHold_2 : decode cL_pumpsHold 2 = .ok (.invokestatic 73, 3) := by decide +kernel
theorem dL_pumpsHold_5 : decode cL_pumpsHold 5 = .ok (.istore_n 1, 1) := by decide +kernel
theorem dL_pumpsHold_6 : decode cL_pumpsHold 6 = .ok (.iconst 0, 1) := by decide +kernel
theorem dL_pumpsHold_7 : decode cL_pumpsHold 7 = .ok (.istore_n 2, 1) := by decide +kernel
theorem dL_pumpsHold_8 : decode cL_pumpsHold 8 = .ok (.iconst 0, 1) := by decide +kernel
theorem dL_pumpsHold_9 : decode cL_pumpsHold 9 = .ok (.istore_n 3, 1) := by decide +kernel
theorem dL_pumpsHold_10 : decode cL_pumpsHold 10 = .ok (.iconst 0, 1) := by decide +kernel
theorem dL_pumpsHold_11 : decode cL_pumpsHold 11 = .ok (.istore 4, 2) := by decide +kernel
theorem dL_pumpsHold_13 : decode cL_pumpsHold 13 = .ok (.iconst 0, 1) := by decide +kernel
theorem dL_pumpsHold_14 : decode cL_pumpsHold 14 = .ok (.istore 5, 2) := by decide +kernel
theorem dL_pumpsHold_16 : decode cL_pumpsHold 16 = .ok (.lconst 0, 1) := by decide +kernel
theorem dL_pumpsHold_17 : decode cL_pumpsHold 17 = .ok (.lstore 6, 2) := by decide +kernel
theorem dL_pumpsHold_19 : decode cL_pumpsHold 19 = .ok (.iconst 1, 1) := by decide +kernel
theorem dL_pumpsHold_20 : decode cL_pumpsHold 20 = .ok (.istore 8, 2) := by decide +kernel
theorem dL_pumpsHold_22 : decode cL_pumpsHold 22 = .ok (.iconst 0, 1) := by decide +kernel
theorem dL_pumpsHold_23 : decode cL_pumpsHold 23 = .ok (.istore 9, 2) := by decide +kernel
theorem dL_pumpsHold_25 : decode cL_pumpsHold 25 = .ok (.iload 9, 2) := by decide +kernel
theorem dL_pumpsHold_27 : decode cL_pumpsHold 27 = .ok (.iload_n 1, 1) := by decide +kernel
theorem dL_pumpsHold_28 : decode cL_pumpsHold 28 = .ok (.if_icmp .ge 178, 3) := by decide +kernel
theorem dL_pumpsHold_31 : decode cL_pumpsHold 31 = .ok (.iload 8, 2) := by decide +kernel
theorem dL_pumpsHold_33 : decode cL_pumpsHold 33 = .ok (.ifCond .eq 173, 3) := by decide +kernel
theorem dL_pumpsHold_36 : decode cL_pumpsHold 36 = .ok (.iload_n 2, 1) := by decide +kernel
theorem dL_pumpsHold_37 : decode cL_pumpsHold 37 = .ok (.aload_n 0, 1) := by decide +kernel
theorem dL_pumpsHold_38 : decode cL_pumpsHold 38 = .ok (.iload 9, 2) := by decide +kernel
theorem dL_pumpsHold_40 : decode cL_pumpsHold 40 = .ok (.iconst 2, 1) := by decide +kernel
theorem dL_pumpsHold_41 : decode cL_pumpsHold 41 = .ok (.invokestatic 78, 3) := by decide +kernel
theorem dL_pumpsHold_44 : decode cL_pumpsHold 44 = .ok (.iconst 1, 1) := by decide +kernel
theorem dL_pumpsHold_45 : decode cL_pumpsHold 45 = .ok (.if_icmp .ne 7, 3) := by decide +kernel
theorem dL_pumpsHold_48 : decode cL_pumpsHold 48 = .ok (.iconst 1, 1) := by decide +kernel
theorem dL_pumpsHold_49 : decode cL_pumpsHold 49 = .ok (.goto 4, 3) := by decide +kernel
theorem dL_pumpsHold_52 : decode cL_pumpsHold 52 = .ok (.iconst 0, 1) := by decide +kernel
theorem dL_pumpsHold_53 : decode cL_pumpsHold 53 = .ok (.iadd, 1) := by decide +kernel
theorem dL_pumpsHold_54 : decode cL_pumpsHold 54 = .ok (.istore_n 2, 1) := by decide +kernel
theorem dL_pumpsHold_55 : decode cL_pumpsHold 55 = .ok (.iload_n 3, 1) := by decide +kernel
theorem dL_pumpsHold_56 : decode cL_pumpsHold 56 = .ok (.aload_n 0, 1) := by decide +kernel
theorem dL_pumpsHold_57 : decode cL_pumpsHold 57 = .ok (.iload 9, 2) := by decide +kernel
theorem dL_pumpsHold_59 : decode cL_pumpsHold 59 = .ok (.iconst 2, 1) := by decide +kernel
theorem dL_pumpsHold_60 : decode cL_pumpsHold 60 = .ok (.invokestatic 78, 3) := by decide +kernel
theorem dL_pumpsHold_63 : decode cL_pumpsHold 63 = .ok (.iconst 2, 1) := by decide +kernel
theorem dL_pumpsHold_64 : decode cL_pumpsHold 64 = .ok (.if_icmp .ne 7, 3) := by decide +kernel
theorem dL_pumpsHold_67 : decode cL_pumpsHold 67 = .ok (.iconst 1, 1) := by decide +kernel
theorem dL_pumpsHold_68 : decode cL_pumpsHold 68 = .ok (.goto 4, 3) := by decide +kernel
theorem dL_pumpsHold_71 : decode cL_pumpsHold 71 = .ok (.iconst 0, 1) := by decide +kernel
theorem dL_pumpsHold_72 : decode cL_pumpsHold 72 = .ok (.iadd, 1) := by decide +kernel
theorem dL_pumpsHold_73 : decode cL_pumpsHold 73 = .ok (.istore_n 3, 1) := by decide +kernel
theorem dL_pumpsHold_74 : decode cL_pumpsHold 74 = .ok (.iload 4, 2) := by decide +kernel
theorem dL_pumpsHold_76 : decode cL_pumpsHold 76 = .ok (.iconst 1, 1) := by decide +kernel
theorem dL_pumpsHold_77 : decode cL_pumpsHold 77 = .ok (.aload_n 0, 1) := by decide +kernel
theorem dL_pumpsHold_78 : decode cL_pumpsHold 78 = .ok (.iload 9, 2) := by decide +kernel
theorem dL_pumpsHold_80 : decode cL_pumpsHold 80 = .ok (.iconst 3, 1) := by decide +kernel
theorem dL_pumpsHold_81 : decode cL_pumpsHold 81 = .ok (.invokestatic 78, 3) := by decide +kernel
theorem dL_pumpsHold_84 : decode cL_pumpsHold 84 = .ok (.ishl, 1) := by decide +kernel
theorem dL_pumpsHold_85 : decode cL_pumpsHold 85 = .ok (.ior, 1) := by decide +kernel
theorem dL_pumpsHold_86 : decode cL_pumpsHold 86 = .ok (.istore 4, 2) := by decide +kernel
theorem dL_pumpsHold_88 : decode cL_pumpsHold 88 = .ok (.iload 5, 2) := by decide +kernel
theorem dL_pumpsHold_90 : decode cL_pumpsHold 90 = .ok (.aload_n 0, 1) := by decide +kernel
theorem dL_pumpsHold_91 : decode cL_pumpsHold 91 = .ok (.iload 9, 2) := by decide +kernel
theorem dL_pumpsHold_93 : decode cL_pumpsHold 93 = .ok (.bipush 7, 2) := by decide +kernel
theorem dL_pumpsHold_95 : decode cL_pumpsHold 95 = .ok (.invokestatic 78, 3) := by decide +kernel
theorem dL_pumpsHold_98 : decode cL_pumpsHold 98 = .ok (.iadd, 1) := by decide +kernel
theorem dL_pumpsHold_99 : decode cL_pumpsHold 99 = .ok (.istore 5, 2) := by decide +kernel
theorem dL_pumpsHold_101 : decode cL_pumpsHold 101 = .ok (.lload 6, 2) := by decide +kernel
theorem dL_pumpsHold_103 : decode cL_pumpsHold 103 = .ok (.aload_n 0, 1) := by decide +kernel
theorem dL_pumpsHold_104 : decode cL_pumpsHold 104 = .ok (.iload 9, 2) := by decide +kernel
theorem dL_pumpsHold_106 : decode cL_pumpsHold 106 = .ok (.iconst 0, 1) := by decide +kernel
theorem dL_pumpsHold_107 : decode cL_pumpsHold 107 = .ok (.invokestatic 78, 3) := by decide +kernel
theorem dL_pumpsHold_110 : decode cL_pumpsHold 110 = .ok (.i2l, 1) := by decide +kernel
theorem dL_pumpsHold_111 : decode cL_pumpsHold 111 = .ok (.aload_n 0, 1) := by decide +kernel
theorem dL_pumpsHold_112 : decode cL_pumpsHold 112 = .ok (.iload 9, 2) := by decide +kernel
theorem dL_pumpsHold_114 : decode cL_pumpsHold 114 = .ok (.bipush 6, 2) := by decide +kernel
theorem dL_pumpsHold_116 : decode cL_pumpsHold 116 = .ok (.invokestatic 78, 3) := by decide +kernel
theorem dL_pumpsHold_119 : decode cL_pumpsHold 119 = .ok (.i2l, 1) := by decide +kernel
theorem dL_pumpsHold_120 : decode cL_pumpsHold 120 = .ok (.lmul, 1) := by decide +kernel
theorem dL_pumpsHold_121 : decode cL_pumpsHold 121 = .ok (.ladd, 1) := by decide +kernel
theorem dL_pumpsHold_122 : decode cL_pumpsHold 122 = .ok (.lstore 6, 2) := by decide +kernel
theorem dL_pumpsHold_124 : decode cL_pumpsHold 124 = .ok (.aload_n 0, 1) := by decide +kernel
theorem dL_pumpsHold_125 : decode cL_pumpsHold 125 = .ok (.iload 9, 2) := by decide +kernel
theorem dL_pumpsHold_127 : decode cL_pumpsHold 127 = .ok (.iconst 4, 1) := by decide +kernel
theorem dL_pumpsHold_128 : decode cL_pumpsHold 128 = .ok (.invokestatic 78, 3) := by decide +kernel
theorem dL_pumpsHold_131 : decode cL_pumpsHold 131 = .ok (.aload_n 0, 1) := by decide +kernel
theorem dL_pumpsHold_132 : decode cL_pumpsHold 132 = .ok (.iload 9, 2) := by decide +kernel
theorem dL_pumpsHold_134 : decode cL_pumpsHold 134 = .ok (.iconst 5, 1) := by decide +kernel
theorem dL_pumpsHold_135 : decode cL_pumpsHold 135 = .ok (.invokestatic 78, 3) := by decide +kernel
theorem dL_pumpsHold_138 : decode cL_pumpsHold 138 = .ok (.if_icmp .gt 59, 3) := by decide +kernel
theorem dL_pumpsHold_141 : decode cL_pumpsHold 141 = .ok (.aload_n 0, 1) := by decide +kernel
theorem dL_pumpsHold_142 : decode cL_pumpsHold 142 = .ok (.iload 9, 2) := by decide +kernel
theorem dL_pumpsHold_144 : decode cL_pumpsHold 144 = .ok (.bipush 7, 2) := by decide +kernel
theorem dL_pumpsHold_146 : decode cL_pumpsHold 146 = .ok (.invokestatic 78, 3) := by decide +kernel
theorem dL_pumpsHold_149 : decode cL_pumpsHold 149 = .ok (.aload_n 0, 1) := by decide +kernel
theorem dL_pumpsHold_150 : decode cL_pumpsHold 150 = .ok (.iload 9, 2) := by decide +kernel
theorem dL_pumpsHold_152 : decode cL_pumpsHold 152 = .ok (.iconst 5, 1) := by decide +kernel
theorem dL_pumpsHold_153 : decode cL_pumpsHold 153 = .ok (.invokestatic 78, 3) := by decide +kernel
theorem dL_pumpsHold_156 : decode cL_pumpsHold 156 = .ok (.if_icmp .gt 41, 3) := by decide +kernel
theorem dL_pumpsHold_159 : decode cL_pumpsHold 159 = .ok (.aload_n 0, 1) := by decide +kernel
theorem dL_pumpsHold_160 : decode cL_pumpsHold 160 = .ok (.bipush 11, 2) := by decide +kernel
theorem dL_pumpsHold_162 : decode cL_pumpsHold 162 = .ok (.invokestatic 73, 3) := by decide +kernel
theorem dL_pumpsHold_165 : decode cL_pumpsHold 165 = .ok (.iload 9, 2) := by decide +kernel
theorem dL_pumpsHold_167 : decode cL_pumpsHold 167 = .ok (.if_icmp .ne 7, 3) := by decide +kernel
theorem dL_pumpsHold_170 : decode cL_pumpsHold 170 = .ok (.iconst 1, 1) := by decide +kernel
theorem dL_pumpsHold_171 : decode cL_pumpsHold 171 = .ok (.goto 4, 3) := by decide +kernel
theorem dL_pumpsHold_174 : decode cL_pumpsHold 174 = .ok (.iconst 0, 1) := by decide +kernel
theorem dL_pumpsHold_175 : decode cL_pumpsHold 175 = .ok (.aload_n 0, 1) := by decide +kernel
theorem dL_pumpsHold_176 : decode cL_pumpsHold 176 = .ok (.iload 9, 2) := by decide +kernel
theorem dL_pumpsHold_178 : decode cL_pumpsHold 178 = .ok (.iconst 3, 1) := by decide +kernel
theorem dL_pumpsHold_179 : decode cL_pumpsHold 179 = .ok (.invokestatic 78, 3) := by decide +kernel
theorem dL_pumpsHold_182 : decode cL_pumpsHold 182 = .ok (.ifCond .ne 7, 3) := by decide +kernel
theorem dL_pumpsHold_185 : decode cL_pumpsHold 185 = .ok (.iconst 1, 1) := by decide +kernel
theorem dL_pumpsHold_186 : decode cL_pumpsHold 186 = .ok (.goto 4, 3) := by decide +kernel
theorem dL_pumpsHold_189 : decode cL_pumpsHold 189 = .ok (.iconst 0, 1) := by decide +kernel
theorem dL_pumpsHold_190 : decode cL_pumpsHold 190 = .ok (.if_icmp .ne 7, 3) := by decide +kernel
theorem dL_pumpsHold_193 : decode cL_pumpsHold 193 = .ok (.iconst 1, 1) := by decide +kernel
theorem dL_pumpsHold_194 : decode cL_pumpsHold 194 = .ok (.goto 4, 3) := by decide +kernel
theorem dL_pumpsHold_197 : decode cL_pumpsHold 197 = .ok (.iconst 0, 1) := by decide +kernel
theorem dL_pumpsHold_198 : decode cL_pumpsHold 198 = .ok (.istore 8, 2) := by decide +kernel
theorem dL_pumpsHold_200 : decode cL_pumpsHold 200 = .ok (.iinc 9 1, 3) := by decide +kernel
theorem dL_pumpsHold_203 : decode cL_pumpsHold 203 = .ok (.goto (-178), 3) := by decide +kernel
theorem dL_pumpsHold_206 : decode cL_pumpsHold 206 = .ok (.iload 8, 2) := by decide +kernel
theorem dL_pumpsHold_208 : decode cL_pumpsHold 208 = .ok (.ifCond .eq 58, 3) := by decide +kernel
theorem dL_pumpsHold_211 : decode cL_pumpsHold 211 = .ok (.aload_n 0, 1) := by decide +kernel
theorem dL_pumpsHold_212 : decode cL_pumpsHold 212 = .ok (.iconst 5, 1) := by decide +kernel
theorem dL_pumpsHold_213 : decode cL_pumpsHold 213 = .ok (.invokestatic 73, 3) := by decide +kernel
theorem dL_pumpsHold_216 : decode cL_pumpsHold 216 = .ok (.iload_n 2, 1) := by decide +kernel
theorem dL_pumpsHold_217 : decode cL_pumpsHold 217 = .ok (.if_icmp .ne 49, 3) := by decide +kernel
theorem dL_pumpsHold_220 : decode cL_pumpsHold 220 = .ok (.aload_n 0, 1) := by decide +kernel
theorem dL_pumpsHold_221 : decode cL_pumpsHold 221 = .ok (.bipush 6, 2) := by decide +kernel
theorem dL_pumpsHold_223 : decode cL_pumpsHold 223 = .ok (.invokestatic 73, 3) := by decide +kernel
theorem dL_pumpsHold_226 : decode cL_pumpsHold 226 = .ok (.iload_n 3, 1) := by decide +kernel
theorem dL_pumpsHold_227 : decode cL_pumpsHold 227 = .ok (.if_icmp .ne 39, 3) := by decide +kernel
theorem dL_pumpsHold_230 : decode cL_pumpsHold 230 = .ok (.iload 4, 2) := by decide +kernel
theorem dL_pumpsHold_232 : decode cL_pumpsHold 232 = .ok (.iconst 1, 1) := by decide +kernel
theorem dL_pumpsHold_233 : decode cL_pumpsHold 233 = .ok (.iload_n 1, 1) := by decide +kernel
theorem dL_pumpsHold_234 : decode cL_pumpsHold 234 = .ok (.ishl, 1) := by decide +kernel
theorem dL_pumpsHold_235 : decode cL_pumpsHold 235 = .ok (.iconst 1, 1) := by decide +kernel
theorem dL_pumpsHold_236 : decode cL_pumpsHold 236 = .ok (.isub, 1) := by decide +kernel
theorem dL_pumpsHold_237 : decode cL_pumpsHold 237 = .ok (.if_icmp .ne 29, 3) := by decide +kernel
theorem dL_pumpsHold_240 : decode cL_pumpsHold 240 = .ok (.aload_n 0, 1) := by decide +kernel
theorem dL_pumpsHold_241 : decode cL_pumpsHold 241 = .ok (.bipush 9, 2) := by decide +kernel
theorem dL_pumpsHold_243 : decode cL_pumpsHold 243 = .ok (.invokestatic 73, 3) := by decide +kernel
theorem dL_pumpsHold_246 : decode cL_pumpsHold 246 = .ok (.iload 5, 2) := by decide +kernel
theorem dL_pumpsHold_248 : decode cL_pumpsHold 248 = .ok (.if_icmp .ne 18, 3) := by decide +kernel
theorem dL_pumpsHold_251 : decode cL_pumpsHold 251 = .ok (.aload_n 0, 1) := by decide +kernel
theorem dL_pumpsHold_252 : decode cL_pumpsHold 252 = .ok (.iconst 0, 1) := by decide +kernel
theorem dL_pumpsHold_253 : decode cL_pumpsHold 253 = .ok (.invokestatic 81, 3) := by decide +kernel
theorem dL_pumpsHold_256 : decode cL_pumpsHold 256 = .ok (.lload 6, 2) := by decide +kernel
theorem dL_pumpsHold_258 : decode cL_pumpsHold 258 = .ok (.lcmp, 1) := by decide +kernel
theorem dL_pumpsHold_259 : decode cL_pumpsHold 259 = .ok (.ifCond .ne 7, 3) := by decide +kernel
theorem dL_pumpsHold_262 : decode cL_pumpsHold 262 = .ok (.iconst 1, 1) := by decide +kernel
theorem dL_pumpsHold_263 : decode cL_pumpsHold 263 = .ok (.goto 4, 3) := by decide +kernel
theorem dL_pumpsHold_266 : decode cL_pumpsHold 266 = .ok (.iconst 0, 1) := by decide +kernel
theorem dL_pumpsHold_267 : decode cL_pumpsHold 267 = .ok (.ireturn, 1) := by decide +kernel
theorem dL_holds_0 : decode cL_holds 0 = .ok (.lload_n 1, 1) := by decide +kernel
theorem dL_holds_1 : decode cL_holds 1 = .ok (.aload_n 0, 1) := by decide +kernel
theorem dL_holds_2 : decode cL_holds 2 = .ok (.iconst 0, 1) := by decide +kernel
theorem dL_holds_3 : decode cL_holds 3 = .ok (.invokestatic 81, 3) := by decide +kernel
theorem dL_holds_6 : decode cL_holds 6 = .ok (.ladd, 1) := by decide +kernel
theorem dL_holds_7 : decode cL_holds 7 = .ok (.aload_n 0, 1) := by decide +kernel
theorem dL_holds_8 : decode cL_holds 8 = .ok (.iconst 1, 1) := by decide +kernel
theorem dL_holds_9 : decode cL_holds 9 = .ok (.invokestatic 81, 3) := by decide +kernel
theorem dL_holds_12 : decode cL_holds 12 = .ok (.lsub, 1) := by decide +kernel
theorem dL_holds_13 : decode cL_holds 13 = .ok (.aload_n 0, 1) := by decide +kernel
theorem dL_holds_14 : decode cL_holds 14 = .ok (.iconst 2, 1) := by decide +kernel
theorem dL_holds_15 : decode cL_holds 15 = .ok (.invokestatic 81, 3) := by decide +kernel
theorem dL_holds_18 : decode cL_holds 18 = .ok (.lsub, 1) := by decide +kernel
theorem dL_holds_19 : decode cL_holds 19 = .ok (.aload_n 0, 1) := by decide +kernel
theorem dL_holds_20 : decode cL_holds 20 = .ok (.iconst 4, 1) := by decide +kernel
theorem dL_holds_21 : decode cL_holds 21 = .ok (.invokestatic 81, 3) := by decide +kernel
theorem dL_holds_24 : decode cL_holds 24 = .ok (.lsub, 1) := by decide +kernel
theorem dL_holds_25 : decode cL_holds 25 = .ok (.lstore_n 3, 1) := by decide +kernel
theorem dL_holds_26 : decode cL_holds 26 = .ok (.aload_n 0, 1) := by decide +kernel
theorem dL_holds_27 : decode cL_holds 27 = .ok (.iconst 1, 1) := by decide +kernel
theorem dL_holds_28 : decode cL_holds 28 = .ok (.invokestatic 73, 3) := by decide +kernel
theorem dL_holds_31 : decode cL_holds 31 = .ok (.i2l, 1) := by decide +kernel
theorem dL_holds_32 : decode cL_holds 32 = .ok (.lload_n 3, 1) := by decide +kernel
theorem dL_holds_33 : decode cL_holds 33 = .ok (.lcmp, 1) := by decide +kernel
theorem dL_holds_34 : decode cL_holds 34 = .ok (.ifCond .ne 59, 3) := by decide +kernel
theorem dL_holds_37 : decode cL_holds 37 = .ok (.lload_n 3, 1) := by decide +kernel
theorem dL_holds_38 : decode cL_holds 38 = .ok (.lconst 0, 1) := by decide +kernel
theorem dL_holds_39 : decode cL_holds 39 = .ok (.lcmp, 1) := by decide +kernel
theorem dL_holds_40 : decode cL_holds 40 = .ok (.ifCond .lt 53, 3) := by decide +kernel
theorem dL_holds_43 : decode cL_holds 43 = .ok (.lload_n 3, 1) := by decide +kernel
theorem dL_holds_44 : decode cL_holds 44 = .ok (.aload_n 0, 1) := by decide +kernel
theorem dL_holds_45 : decode cL_holds 45 = .ok (.iconst 0, 1) := by decide +kernel
theorem dL_holds_46 : decode cL_holds 46 = .ok (.invokestatic 73, 3) := by decide +kernel
theorem dL_holds_49 : decode cL_holds 49 = .ok (.i2l, 1) := by decide +kernel
theorem dL_holds_50 : decode cL_holds 50 = .ok (.lcmp, 1) := by decide +kernel
theorem dL_holds_51 : decode cL_holds 51 = .ok (.ifCond .gt 42, 3) := by decide +kernel
theorem dL_holds_54 : decode cL_holds 54 = .ok (.aload_n 0, 1) := by decide +kernel
theorem dL_holds_55 : decode cL_holds 55 = .ok (.iconst 2, 1) := by decide +kernel
theorem dL_holds_56 : decode cL_holds 56 = .ok (.invokestatic 73, 3) := by decide +kernel
theorem dL_holds_59 : decode cL_holds 59 = .ok (.iconst 1, 1) := by decide +kernel
theorem dL_holds_60 : decode cL_holds 60 = .ok (.if_icmp .lt 33, 3) := by decide +kernel
theorem dL_holds_63 : decode cL_holds 63 = .ok (.aload_n 0, 1) := by decide +kernel
theorem dL_holds_64 : decode cL_holds 64 = .ok (.iconst 2, 1) := by decide +kernel
theorem dL_holds_65 : decode cL_holds 65 = .ok (.invokestatic 73, 3) := by decide +kernel
theorem dL_holds_68 : decode cL_holds 68 = .ok (.aload_n 0, 1) := by decide +kernel
theorem dL_holds_69 : decode cL_holds 69 = .ok (.iconst 3, 1) := by decide +kernel
theorem dL_holds_70 : decode cL_holds 70 = .ok (.invokestatic 73, 3) := by decide +kernel
theorem dL_holds_73 : decode cL_holds 73 = .ok (.if_icmp .ge 20, 3) := by decide +kernel
theorem dL_holds_76 : decode cL_holds 76 = .ok (.aload_n 0, 1) := by decide +kernel
theorem dL_holds_77 : decode cL_holds 77 = .ok (.iconst 3, 1) := by decide +kernel
theorem dL_holds_78 : decode cL_holds 78 = .ok (.invokestatic 73, 3) := by decide +kernel
theorem dL_holds_81 : decode cL_holds 81 = .ok (.aload_n 0, 1) := by decide +kernel
theorem dL_holds_82 : decode cL_holds 82 = .ok (.iconst 0, 1) := by decide +kernel
theorem dL_holds_83 : decode cL_holds 83 = .ok (.invokestatic 73, 3) := by decide +kernel
theorem dL_holds_86 : decode cL_holds 86 = .ok (.if_icmp .gt 7, 3) := by decide +kernel
theorem dL_holds_89 : decode cL_holds 89 = .ok (.iconst 1, 1) := by decide +kernel
theorem dL_holds_90 : decode cL_holds 90 = .ok (.goto 4, 3) := by decide +kernel
theorem dL_holds_93 : decode cL_holds 93 = .ok (.iconst 0, 1) := by decide +kernel
theorem dL_holds_94 : decode cL_holds 94 = .ok (.istore 5, 2) := by decide +kernel
theorem dL_holds_96 : decode cL_holds 96 = .ok (.iload 5, 2) := by decide +kernel
theorem dL_holds_98 : decode cL_holds 98 = .ok (.ifCond .eq 69, 3) := by decide +kernel
theorem dL_holds_101 : decode cL_holds 101 = .ok (.aload_n 0, 1) := by decide +kernel
theorem dL_holds_102 : decode cL_holds 102 = .ok (.bipush 8, 2) := by decide +kernel
theorem dL_holds_104 : decode cL_holds 104 = .ok (.invokestatic 73, 3) := by decide +kernel
theorem dL_holds_107 : decode cL_holds 107 = .ok (.aload_n 0, 1) := by decide +kernel
theorem dL_holds_108 : decode cL_holds 108 = .ok (.bipush 7, 2) := by decide +kernel
theorem dL_holds_110 : decode cL_holds 110 = .ok (.invokestatic 73, 3) := by decide +kernel
theorem dL_holds_113 : decode cL_holds 113 = .ok (.bipush 60, 2) := by decide +kernel
theorem dL_holds_115 : decode cL_holds 115 = .ok (.idiv, 1) := by decide +kernel
theorem dL_holds_116 : decode cL_holds 116 = .ok (.bipush 24, 2) := by decide +kernel
theorem dL_holds_118 : decode cL_holds 118 = .ok (.irem, 1) := by decide +kernel
theorem dL_holds_119 : decode cL_holds 119 = .ok (.if_icmp .ne 48, 3) := by decide +kernel
theorem dL_holds_122 : decode cL_holds 122 = .ok (.aload_n 0, 1) := by decide +kernel
theorem dL_holds_123 : decode cL_holds 123 = .ok (.bipush 10, 2) := by decide +kernel
theorem dL_holds_125 : decode cL_holds 125 = .ok (.invokestatic 73, 3) := by decide +kernel
theorem dL_holds_128 : decode cL_holds 128 = .ok (.aload_n 0, 1) := by decide +kernel
theorem dL_holds_129 : decode cL_holds 129 = .ok (.bipush 7, 2) := by decide +kernel
theorem dL_holds_131 : decode cL_holds 131 = .ok (.invokestatic 73, 3) := by decide +kernel
theorem dL_holds_134 : decode cL_holds 134 = .ok (.if_icmp .gt 33, 3) := by decide +kernel
theorem dL_holds_137 : decode cL_holds 137 = .ok (.aload_n 0, 1) := by decide +kernel
theorem dL_holds_138 : decode cL_holds 138 = .ok (.bipush 13, 2) := by decide +kernel
theorem dL_holds_140 : decode cL_holds 140 = .ok (.invokestatic 73, 3) := by decide +kernel
theorem dL_holds_143 : decode cL_holds 143 = .ok (.bipush 12, 2) := by decide +kernel
theorem dL_holds_145 : decode cL_holds 145 = .ok (.if_icmp .gt 22, 3) := by decide +kernel
theorem dL_holds_148 : decode cL_holds 148 = .ok (.aload_n 0, 1) := by decide +kernel
theorem dL_holds_149 : decode cL_holds 149 = .ok (.bipush 13, 2) := by decide +kernel
theorem dL_holds_151 : decode cL_holds 151 = .ok (.invokestatic 73, 3) := by decide +kernel
theorem dL_holds_154 : decode cL_holds 154 = .ok (.aload_n 0, 1) := by decide +kernel
theorem dL_holds_155 : decode cL_holds 155 = .ok (.bipush 9, 2) := by decide +kernel
theorem dL_holds_157 : decode cL_holds 157 = .ok (.invokestatic 73, 3) := by decide +kernel
theorem dL_holds_160 : decode cL_holds 160 = .ok (.if_icmp .gt 7, 3) := by decide +kernel
theorem dL_holds_163 : decode cL_holds 163 = .ok (.iconst 1, 1) := by decide +kernel
theorem dL_holds_164 : decode cL_holds 164 = .ok (.goto 4, 3) := by decide +kernel
theorem dL_holds_167 : decode cL_holds 167 = .ok (.iconst 0, 1) := by decide +kernel
theorem dL_holds_168 : decode cL_holds 168 = .ok (.istore 5, 2) := by decide +kernel
theorem dL_holds_170 : decode cL_holds 170 = .ok (.aload_n 0, 1) := by decide +kernel
theorem dL_holds_171 : decode cL_holds 171 = .ok (.bipush 7, 2) := by decide +kernel
theorem dL_holds_173 : decode cL_holds 173 = .ok (.invokestatic 73, 3) := by decide +kernel
theorem dL_holds_176 : decode cL_holds 176 = .ok (.istore 6, 2) := by decide +kernel
theorem dL_holds_178 : decode cL_holds 178 = .ok (.iconst 0, 1) := by decide +kernel
theorem dL_holds_179 : decode cL_holds 179 = .ok (.istore 7, 2) := by decide +kernel
theorem dL_holds_181 : decode cL_holds 181 = .ok (.iload 7, 2) := by decide +kernel
theorem dL_holds_183 : decode cL_holds 183 = .ok (.aload_n 0, 1) := by decide +kernel
theorem dL_holds_184 : decode cL_holds 184 = .ok (.bipush 13, 2) := by decide +kernel
theorem dL_holds_186 : decode cL_holds 186 = .ok (.invokestatic 73, 3) := by decide +kernel
theorem dL_holds_189 : decode cL_holds 189 = .ok (.if_icmp .ge 68, 3) := by decide +kernel
theorem dL_holds_192 : decode cL_holds 192 = .ok (.iload 5, 2) := by decide +kernel
theorem dL_holds_194 : decode cL_holds 194 = .ok (.ifCond .eq 63, 3) := by decide +kernel
theorem dL_holds_197 : decode cL_holds 197 = .ok (.aload_n 0, 1) := by decide +kernel
theorem dL_holds_198 : decode cL_holds 198 = .ok (.iload 7, 2) := by decide +kernel
theorem dL_holds_200 : decode cL_holds 200 = .ok (.iconst 2, 1) := by decide +kernel
theorem dL_holds_201 : decode cL_holds 201 = .ok (.invokestatic 84, 3) := by decide +kernel
theorem dL_holds_204 : decode cL_holds 204 = .ok (.iconst 2, 1) := by decide +kernel
theorem dL_holds_205 : decode cL_holds 205 = .ok (.if_icmp .lt 34, 3) := by decide +kernel
theorem dL_holds_208 : decode cL_holds 208 = .ok (.aload_n 0, 1) := by decide +kernel
theorem dL_holds_209 : decode cL_holds 209 = .ok (.iload 7, 2) := by decide +kernel
theorem dL_holds_211 : decode cL_holds 211 = .ok (.iconst 1, 1) := by decide +kernel
theorem dL_holds_212 : decode cL_holds 212 = .ok (.invokestatic 84, 3) := by decide +kernel
theorem dL_holds_215 : decode cL_holds 215 = .ok (.iload 6, 2) := by decide +kernel
theorem dL_holds_217 : decode cL_holds 217 = .ok (.if_icmp .ge 22, 3) := by decide +kernel
theorem dL_holds_220 : decode cL_holds 220 = .ok (.aload_n 0, 1) := by decide +kernel
theorem dL_holds_221 : decode cL_holds 221 = .ok (.iload 7, 2) := by decide +kernel
theorem dL_holds_223 : decode cL_holds 223 = .ok (.iconst 0, 1) := by decide +kernel
theorem dL_holds_224 : decode cL_holds 224 = .ok (.invokestatic 84, 3) := by decide +kernel
theorem dL_holds_227 : decode cL_holds 227 = .ok (.aload_n 0, 1) := by decide +kernel
theorem dL_holds_228 : decode cL_holds 228 = .ok (.iconst 4, 1) := by decide +kernel
theorem dL_holds_229 : decode cL_holds 229 = .ok (.invokestatic 73, 3) := by decide +kernel
theorem dL_holds_232 : decode cL_holds 232 = .ok (.if_icmp .ge 7, 3) := by decide +kernel
theorem dL_holds_235 : decode cL_holds 235 = .ok (.iconst 1, 1) := by decide +kernel
theorem dL_holds_236 : decode cL_holds 236 = .ok (.goto 4, 3) := by decide +kernel
theorem dL_holds_239 : decode cL_holds 239 = .ok (.iconst 0, 1) := by decide +kernel
theorem dL_holds_240 : decode cL_holds 240 = .ok (.istore 5, 2) := by decide +kernel
theorem dL_holds_242 : decode cL_holds 242 = .ok (.aload_n 0, 1) := by decide +kernel
theorem dL_holds_243 : decode cL_holds 243 = .ok (.iload 7, 2) := by decide +kernel
theorem dL_holds_245 : decode cL_holds 245 = .ok (.iconst 1, 1) := by decide +kernel
theorem dL_holds_246 : decode cL_holds 246 = .ok (.invokestatic 84, 3) := by decide +kernel
theorem dL_holds_249 : decode cL_holds 249 = .ok (.istore 6, 2) := by decide +kernel
theorem dL_holds_251 : decode cL_holds 251 = .ok (.iinc 7 1, 3) := by decide +kernel
theorem dL_holds_254 : decode cL_holds 254 = .ok (.goto (-73), 3) := by decide +kernel
theorem dL_holds_257 : decode cL_holds 257 = .ok (.aload_n 0, 1) := by decide +kernel
theorem dL_holds_258 : decode cL_holds 258 = .ok (.invokevirtual 86, 3) := by decide +kernel
theorem dL_holds_261 : decode cL_holds 261 = .ok (.dstore 7, 2) := by decide +kernel
theorem dL_holds_263 : decode cL_holds 263 = .ok (.iload 5, 2) := by decide +kernel
theorem dL_holds_265 : decode cL_holds 265 = .ok (.ifCond .eq 28, 3) := by decide +kernel
theorem dL_holds_268 : decode cL_holds 268 = .ok (.aload_n 0, 1) := by decide +kernel
theorem dL_holds_269 : decode cL_holds 269 = .ok (.invokestatic 90, 3) := by decide +kernel
theorem dL_holds_272 : decode cL_holds 272 = .ok (.ifCond .eq 21, 3) := by decide +kernel
theorem dL_holds_275 : decode cL_holds 275 = .ok (.dload 7, 2) := by decide +kernel
theorem dL_holds_277 : decode cL_holds 277 = .ok (.dconst 0, 1) := by decide +kernel
theorem dL_holds_278 : decode cL_holds 278 = .ok (.dcmp .l, 1) := by decide +kernel
theorem dL_holds_279 : decode cL_holds 279 = .ok (.ifCond .lt 14, 3) := by decide +kernel
theorem dL_holds_282 : decode cL_holds 282 = .ok (.dload 7, 2) := by decide +kernel
theorem dL_holds_284 : decode cL_holds 284 = .ok (.dconst 1, 1) := by decide +kernel
theorem dL_holds_285 : decode cL_holds 285 = .ok (.dcmp .g, 1) := by decide +kernel
theorem dL_holds_286 : decode cL_holds 286 = .ok (.ifCond .gt 7, 3) := by decide +kernel
theorem dL_holds_289 : decode cL_holds 289 = .ok (.iconst 1, 1) := by decide +kernel
theorem dL_holds_290 : decode cL_holds 290 = .ok (.goto 4, 3) := by decide +kernel
theorem dL_holds_293 : decode cL_holds 293 = .ok (.iconst 0, 1) := by decide +kernel
theorem dL_holds_294 : decode cL_holds 294 = .ok (.ireturn, 1) := by decide +kernel
theorem dL_passesOne_0 : decode cL_passesOne 0 = .ok (.aload_n 0, 1) := by decide +kernel
theorem dL_passesOne_1 : decode cL_passesOne 1 = .ok (.bipush 7, 2) := by decide +kernel
theorem dL_passesOne_3 : decode cL_passesOne 3 = .ok (.invokestatic 73, 3) := by decide +kernel
theorem dL_passesOne_6 : decode cL_passesOne 6 = .ok (.istore_n 2, 1) := by decide +kernel
theorem dL_passesOne_7 : decode cL_passesOne 7 = .ok (.aload_n 0, 1) := by decide +kernel
theorem dL_passesOne_8 : decode cL_passesOne 8 = .ok (.bipush 9, 2) := by decide +kernel
theorem dL_passesOne_10 : decode cL_passesOne 10 = .ok (.invokestatic 73, 3) := by decide +kernel
theorem dL_passesOne_13 : decode cL_passesOne 13 = .ok (.istore_n 3, 1) := by decide +kernel
theorem dL_passesOne_14 : decode cL_passesOne 14 = .ok (.aload_n 0, 1) := by decide +kernel
theorem dL_passesOne_15 : decode cL_passesOne 15 = .ok (.iconst 2, 1) := by decide +kernel
theorem dL_passesOne_16 : decode cL_passesOne 16 = .ok (.invokestatic 81, 3) := by decide +kernel
theorem dL_passesOne_19 : decode cL_passesOne 19 = .ok (.aload_n 0, 1) := by decide +kernel
theorem dL_passesOne_20 : decode cL_passesOne 20 = .ok (.iconst 3, 1) := by decide +kernel
theorem dL_passesOne_21 : decode cL_passesOne 21 = .ok (.invokestatic 81, 3) := by decide +kernel
theorem dL_passesOne_24 : decode cL_passesOne 24 = .ok (.ladd, 1) := by decide +kernel
theorem dL_passesOne_25 : decode cL_passesOne 25 = .ok (.lstore 4, 2) := by decide +kernel
theorem dL_passesOne_27 : decode cL_passesOne 27 = .ok (.aload_n 0, 1) := by decide +kernel
theorem dL_passesOne_28 : decode cL_passesOne 28 = .ok (.iconst 4, 1) := by decide +kernel
theorem dL_passesOne_29 : decode cL_passesOne 29 = .ok (.invokestatic 81, 3) := by decide +kernel
theorem dL_passesOne_32 : decode cL_passesOne 32 = .ok (.lstore 6, 2) := by decide +kernel
theorem dL_passesOne_34 : decode cL_passesOne 34 = .ok (.iconst 0, 1) := by decide +kernel
theorem dL_passesOne_35 : decode cL_passesOne 35 = .ok (.istore 8, 2) := by decide +kernel
theorem dL_passesOne_37 : decode cL_passesOne 37 = .ok (.iload 8, 2) := by decide +kernel
theorem dL_passesOne_39 : decode cL_passesOne 39 = .ok (.iload_n 1, 1) := by decide +kernel
theorem dL_passesOne_40 : decode cL_passesOne 40 = .ok (.if_icmp .ge 29, 3) := by decide +kernel
theorem dL_passesOne_43 : decode cL_passesOne 43 = .ok (.lload 4, 2) := by decide +kernel
theorem dL_passesOne_45 : decode cL_passesOne 45 = .ok (.aload_n 0, 1) := by decide +kernel
theorem dL_passesOne_46 : decode cL_passesOne 46 = .ok (.iload_n 2, 1) := by decide +kernel
theorem dL_passesOne_47 : decode cL_passesOne 47 = .ok (.iload 8, 2) := by decide +kernel
theorem dL_passesOne_49 : decode cL_passesOne 49 = .ok (.iadd, 1) := by decide +kernel
theorem dL_passesOne_50 : decode cL_passesOne 50 = .ok (.bipush 60, 2) := by decide +kernel
theorem dL_passesOne_52 : decode cL_passesOne 52 = .ok (.idiv, 1) := by decide +kernel
theorem dL_passesOne_53 : decode cL_passesOne 53 = .ok (.bipush 24, 2) := by decide +kernel
theorem dL_passesOne_55 : decode cL_passesOne 55 = .ok (.irem, 1) := by decide +kernel
theorem dL_passesOne_56 : decode cL_passesOne 56 = .ok (.invokestatic 94, 3) := by decide +kernel
theorem dL_passesOne_59 : decode cL_passesOne 59 = .ok (.i2l, 1) := by decide +kernel
theorem dL_passesOne_60 : decode cL_passesOne 60 = .ok (.ladd, 1) := by decide +kernel
theorem dL_passesOne_61 : decode cL_passesOne 61 = .ok (.lstore 4, 2) := by decide +kernel
theorem dL_passesOne_63 : decode cL_passesOne 63 = .ok (.iinc 8 1, 3) := by decide +kernel
theorem dL_passesOne_66 : decode cL_passesOne 66 = .ok (.goto (-29), 3) := by decide +kernel
theorem dL_passesOne_69 : decode cL_passesOne 69 = .ok (.aload_n 0, 1) := by decide +kernel
theorem dL_passesOne_70 : decode cL_passesOne 70 = .ok (.iload_n 1, 1) := by decide +kernel
theorem dL_passesOne_71 : decode cL_passesOne 71 = .ok (.invokestatic 96, 3) := by decide +kernel
theorem dL_passesOne_74 : decode cL_passesOne 74 = .ok (.istore 8, 2) := by decide +kernel
theorem dL_passesOne_76 : decode cL_passesOne 76 = .ok (.iload 8, 2) := by decide +kernel
theorem dL_passesOne_78 : decode cL_passesOne 78 = .ok (.aload_n 0, 1) := by decide +kernel
theorem dL_passesOne_79 : decode cL_passesOne 79 = .ok (.bipush 9, 2) := by decide +kernel
theorem dL_passesOne_81 : decode cL_passesOne 81 = .ok (.invokestatic 73, 3) := by decide +kernel
theorem dL_passesOne_84 : decode cL_passesOne 84 = .ok (.iload_n 3, 1) := by decide +kernel
theorem dL_passesOne_85 : decode cL_passesOne 85 = .ok (.isub, 1) := by decide +kernel
theorem dL_passesOne_86 : decode cL_passesOne 86 = .ok (.if_icmp .ne 36, 3) := by decide +kernel

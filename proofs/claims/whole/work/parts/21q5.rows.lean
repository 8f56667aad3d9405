theorem dX5_digest_47 : decode cX5_digest 47 = .ok (.if_icmp .ge 24, 3) := by decide +kernel
theorem dX5_digest_50 : decode cX5_digest 50 = .ok (.ldc2_w 220, 3) := by decide +kernel
theorem dX5_digest_53 : decode cX5_digest 53 = .ok (.lload_n 1, 1) := by decide +kernel
theorem dX5_digest_54 : decode cX5_digest 54 = .ok (.lmul, 1) := by decide +kernel
theorem dX5_digest_55 : decode cX5_digest 55 = .ok (.aload_n 0, 1) := by decide +kernel
theorem dX5_digest_56 : decode cX5_digest 56 = .ok (.getfield 7, 3) := by decide +kernel
theorem dX5_digest_59 : decode cX5_digest 59 = .ok (.iconst 4, 1) := by decide +kernel
theorem dX5_digest_60 : decode cX5_digest 60 = .ok (.iload_n 3, 1) := by decide +kernel
theorem dX5_digest_61 : decode cX5_digest 61 = .ok (.iadd, 1) := by decide +kernel
theorem dX5_digest_62 : decode cX5_digest 62 = .ok (.laload, 1) := by decide +kernel
theorem dX5_digest_63 : decode cX5_digest 63 = .ok (.ladd, 1) := by decide +kernel
theorem dX5_digest_64 : decode cX5_digest 64 = .ok (.lstore_n 1, 1) := by decide +kernel
theorem dX5_digest_65 : decode cX5_digest 65 = .ok (.iinc 3 1, 3) := by decide +kernel
theorem dX5_digest_68 : decode cX5_digest 68 = .ok (.goto (-23), 3) := by decide +kernel
theorem dX5_digest_71 : decode cX5_digest 71 = .ok (.iconst 0, 1) := by decide +kernel
theorem dX5_digest_72 : decode cX5_digest 72 = .ok (.istore_n 3, 1) := by decide +kernel
theorem dX5_digest_73 : decode cX5_digest 73 = .ok (.iload_n 3, 1) := by decide +kernel
theorem dX5_digest_74 : decode cX5_digest 74 = .ok (.bipush 24, 2) := by decide +kernel
theorem dX5_digest_76 : decode cX5_digest 76 = .ok (.if_icmp .ge 25, 3) := by decide +kernel
theorem dX5_digest_79 : decode cX5_digest 79 = .ok (.ldc2_w 220, 3) := by decide +kernel
theorem dX5_digest_82 : decode cX5_digest 82 = .ok (.lload_n 1, 1) := by decide +kernel
theorem dX5_digest_83 : decode cX5_digest 83 = .ok (.lmul, 1) := by decide +kernel
theorem dX5_digest_84 : decode cX5_digest 84 = .ok (.aload_n 0, 1) := by decide +kernel
theorem dX5_digest_85 : decode cX5_digest 85 = .ok (.getfield 7, 3) := by decide +kernel
theorem dX5_digest_88 : decode cX5_digest 88 = .ok (.bipush 24, 2) := by decide +kernel
theorem dX5_digest_90 : decode cX5_digest 90 = .ok (.iload_n 3, 1) := by decide +kernel
theorem dX5_digest_91 : decode cX5_digest 91 = .ok (.iadd, 1) := by decide +kernel
theorem dX5_digest_92 : decode cX5_digest 92 = .ok (.laload, 1) := by decide +kernel
theorem dX5_digest_93 : decode cX5_digest 93 = .ok (.ladd, 1) := by decide +kernel
theorem dX5_digest_94 : decode cX5_digest 94 = .ok (.lstore_n 1, 1) := by decide +kernel
theorem dX5_digest_95 : decode cX5_digest 95 = .ok (.iinc 3 1, 3) := by decide +kernel
theorem dX5_digest_98 : decode cX5_digest 98 = .ok (.goto (-25), 3) := by decide +kernel
theorem dX5_digest_101 : decode cX5_digest 101 = .ok (.iconst 0, 1) := by decide +kernel
theorem dX5_digest_102 : decode cX5_digest 102 = .ok (.istore_n 3, 1) := by decide +kernel
theorem dX5_digest_103 : decode cX5_digest 103 = .ok (.iload_n 3, 1) := by decide +kernel
theorem dX5_digest_104 : decode cX5_digest 104 = .ok (.iconst 5, 1) := by decide +kernel
theorem dX5_digest_105 : decode cX5_digest 105 = .ok (.if_icmp .ge 25, 3) := by decide +kernel
theorem dX5_digest_108 : decode cX5_digest 108 = .ok (.ldc2_w 220, 3) := by decide +kernel
theorem dX5_digest_111 : decode cX5_digest 111 = .ok (.lload_n 1, 1) := by decide +kernel
theorem dX5_digest_112 : decode cX5_digest 112 = .ok (.lmul, 1) := by decide +kernel
theorem dX5_digest_113 : decode cX5_digest 113 = .ok (.aload_n 0, 1) := by decide +kernel
theorem dX5_digest_114 : decode cX5_digest 114 = .ok (.getfield 7, 3) := by decide +kernel
theorem dX5_digest_117 : decode cX5_digest 117 = .ok (.bipush 14, 2) := by decide +kernel
theorem dX5_digest_119 : decode cX5_digest 119 = .ok (.iload_n 3, 1) := by decide +kernel
theorem dX5_digest_120 : decode cX5_digest 120 = .ok (.iadd, 1) := by decide +kernel
theorem dX5_digest_121 : decode cX5_digest 121 = .ok (.laload, 1) := by decide +kernel
theorem dX5_digest_122 : decode cX5_digest 122 = .ok (.ladd, 1) := by decide +kernel
theorem dX5_digest_123 : decode cX5_digest 123 = .ok (.lstore_n 1, 1) := by decide +kernel
theorem dX5_digest_124 : decode cX5_digest 124 = .ok (.iinc 3 1, 3) := by decide +kernel
theorem dX5_digest_127 : decode cX5_digest 127 = .ok (.goto (-24), 3) := by decide +kernel
theorem dX5_digest_130 : decode cX5_digest 130 = .ok (.ldc2_w 220, 3) := by decide +kernel
theorem dX5_digest_133 : decode cX5_digest 133 = .ok (.lload_n 1, 1) := by decide +kernel
theorem dX5_digest_134 : decode cX5_digest 134 = .ok (.lmul, 1) := by decide +kernel
theorem dX5_digest_135 : decode cX5_digest 135 = .ok (.aload_n 0, 1) := by decide +kernel
theorem dX5_digest_136 : decode cX5_digest 136 = .ok (.getfield 7, 3) := by decide +kernel
theorem dX5_digest_139 : decode cX5_digest 139 = .ok (.bipush 12, 2) := by decide +kernel
theorem dX5_digest_141 : decode cX5_digest 141 = .ok (.laload, 1) := by decide +kernel
theorem dX5_digest_142 : decode cX5_digest 142 = .ok (.ladd, 1) := by decide +kernel
theorem dX5_digest_143 : decode cX5_digest 143 = .ok (.lstore_n 1, 1) := by decide +kernel
theorem dX5_digest_144 : decode cX5_digest 144 = .ok (.iconst 0, 1) := by decide +kernel
theorem dX5_digest_145 : decode cX5_digest 145 = .ok (.istore_n 3, 1) := by decide +kernel
theorem dX5_digest_146 : decode cX5_digest 146 = .ok (.iload_n 3, 1) := by decide +kernel
theorem dX5_digest_147 : decode cX5_digest 147 = .ok (.i2l, 1) := by decide +kernel
theorem dX5_digest_148 : decode cX5_digest 148 = .ok (.ldc2_w 222, 3) := by decide +kernel
theorem dX5_digest_151 : decode cX5_digest 151 = .ok (.aload_n 0, 1) := by decide +kernel
theorem dX5_digest_152 : decode cX5_digest 152 = .ok (.getfield 7, 3) := by decide +kernel
theorem dX5_digest_155 : decode cX5_digest 155 = .ok (.bipush 7, 2) := by decide +kernel
theorem dX5_digest_157 : decode cX5_digest 157 = .ok (.laload, 1) := by decide +kernel
theorem dX5_digest_158 : decode cX5_digest 158 = .ok (.lmul, 1) := by decide +kernel
theorem dX5_digest_159 : decode cX5_digest 159 = .ok (.lcmp, 1) := by decide +kernel
theorem dX5_digest_160 : decode cX5_digest 160 = .ok (.ifCond .ge 29, 3) := by decide +kernel
theorem dX5_digest_163 : decode cX5_digest 163 = .ok (.ldc2_w 220, 3) := by decide +kernel
theorem dX5_digest_166 : decode cX5_digest 166 = .ok (.lload_n 1, 1) := by decide +kernel
theorem dX5_digest_167 : decode cX5_digest 167 = .ok (.lmul, 1) := by decide +kernel
theorem dX5_digest_168 : decode cX5_digest 168 = .ok (.aload_n 0, 1) := by decide +kernel
theorem dX5_digest_169 : decode cX5_digest 169 = .ok (.iload_n 3, 1) := by decide +kernel
theorem dX5_digest_170 : decode cX5_digest 170 = .ok (.bipush 8, 2) := by decide +kernel
theorem dX5_digest_172 : decode cX5_digest 172 = .ok (.idiv, 1) := by decide +kernel
theorem dX5_digest_173 : decode cX5_digest 173 = .ok (.iload_n 3, 1) := by decide +kernel
theorem dX5_digest_174 : decode cX5_digest 174 = .ok (.bipush 8, 2) := by decide +kernel
theorem dX5_digest_176 : decode cX5_digest 176 = .ok (.irem, 1) := by decide +kernel
theorem dX5_digest_177 : decode cX5_digest 177 = .ok (.invokevirtual 137, 3) := by decide +kernel
theorem dX5_digest_180 : decode cX5_digest 180 = .ok (.i2l, 1) := by decide +kernel
theorem dX5_digest_181 : decode cX5_digest 181 = .ok (.ladd, 1) := by decide +kernel
theorem dX5_digest_182 : decode cX5_digest 182 = .ok (.lstore_n 1, 1) := by decide +kernel
theorem dX5_digest_183 : decode cX5_digest 183 = .ok (.iinc 3 1, 3) := by decide +kernel
theorem dX5_digest_186 : decode cX5_digest 186 = .ok (.goto (-40), 3) := by decide +kernel
theorem dX5_digest_189 : decode cX5_digest 189 = .ok (.iconst 0, 1) := by decide +kernel
theorem dX5_digest_190 : decode cX5_digest 190 = .ok (.istore_n 3, 1) := by decide +kernel
theorem dX5_digest_191 : decode cX5_digest 191 = .ok (.iload_n 3, 1) := by decide +kernel
theorem dX5_digest_192 : decode cX5_digest 192 = .ok (.i2l, 1) := by decide +kernel
theorem dX5_digest_193 : decode cX5_digest 193 = .ok (.ldc2_w 224, 3) := by decide +kernel
theorem dX5_digest_196 : decode cX5_digest 196 = .ok (.aload_n 0, 1) := by decide +kernel
theorem dX5_digest_197 : decode cX5_digest 197 = .ok (.getfield 7, 3) := by decide +kernel
theorem dX5_digest_200 : decode cX5_digest 200 = .ok (.bipush 13, 2) := by decide +kernel
theorem dX5_digest_202 : decode cX5_digest 202 = .ok (.laload, 1) := by decide +kernel
theorem dX5_digest_203 : decode cX5_digest 203 = .ok (.lmul, 1) := by decide +kernel
theorem dX5_digest_204 : decode cX5_digest 204 = .ok (.lcmp, 1) := by decide +kernel
theorem dX5_digest_205 : decode cX5_digest 205 = .ok (.ifCond .ge 25, 3) := by decide +kernel
theorem dX5_digest_208 : decode cX5_digest 208 = .ok (.ldc2_w 220, 3) := by decide +kernel
theorem dX5_digest_211 : decode cX5_digest 211 = .ok (.lload_n 1, 1) := by decide +kernel
theorem dX5_digest_212 : decode cX5_digest 212 = .ok (.lmul, 1) := by decide +kernel
theorem dX5_digest_213 : decode cX5_digest 213 = .ok (.aload_n 0, 1) := by decide +kernel
theorem dX5_digest_214 : decode cX5_digest 214 = .ok (.getfield 7, 3) := by decide +kernel
theorem dX5_digest_217 : decode cX5_digest 217 = .ok (.bipush 102, 2) := by decide +kernel
theorem dX5_digest_219 : decode cX5_digest 219 = .ok (.iload_n 3, 1) := by decide +kernel
theorem dX5_digest_220 : decode cX5_digest 220 = .ok (.iadd, 1) := by decide +kernel
theorem dX5_digest_221 : decode cX5_digest 221 = .ok (.laload, 1) := by decide +kernel
theorem dX5_digest_222 : decode cX5_digest 222 = .ok (.ladd, 1) := by decide +kernel
theorem dX5_digest_223 : decode cX5_digest 223 = .ok (.lstore_n 1, 1) := by decide +kernel
theorem dX5_digest_224 : decode cX5_digest 224 = .ok (.iinc 3 1, 3) := by decide +kernel
theorem dX5_digest_227 : decode cX5_digest 227 = .ok (.goto (-36), 3) := by decide +kernel
theorem dX5_digest_230 : decode cX5_digest 230 = .ok (.ldc2_w 220, 3) := by decide +kernel
theorem dX5_digest_233 : decode cX5_digest 233 = .ok (.lload_n 1, 1) := by decide +kernel
theorem dX5_digest_234 : decode cX5_digest 234 = .ok (.lmul, 1) := by decide +kernel
theorem dX5_digest_235 : decode cX5_digest 235 = .ok (.aload_n 0, 1) := by decide +kernel
theorem dX5_digest_236 : decode cX5_digest 236 = .ok (.getfield 52, 3) := by decide +kernel
theorem dX5_digest_239 : decode cX5_digest 239 = .ok (.i2l, 1) := by decide +kernel
theorem dX5_digest_240 : decode cX5_digest 240 = .ok (.ladd, 1) := by decide +kernel
theorem dX5_digest_241 : decode cX5_digest 241 = .ok (.lreturn, 1) := by decide +kernel

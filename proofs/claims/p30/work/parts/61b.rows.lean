theorem dL_passesOne_89 : decode cL_passesOne 89 = .ok (.aload_n 0, 1) := by decide +kernel
theorem dL_passesOne_90 : decode cL_passesOne 90 = .ok (.bipush 7, 2) := by decide +kernel
theorem dL_passesOne_92 : decode cL_passesOne 92 = .ok (.invokestatic 73, 3) := by decide +kernel
theorem dL_passesOne_95 : decode cL_passesOne 95 = .ok (.iload_n 2, 1) := by decide +kernel
theorem dL_passesOne_96 : decode cL_passesOne 96 = .ok (.iload_n 1, 1) := by decide +kernel
theorem dL_passesOne_97 : decode cL_passesOne 97 = .ok (.iadd, 1) := by decide +kernel
theorem dL_passesOne_98 : decode cL_passesOne 98 = .ok (.if_icmp .ne 24, 3) := by decide +kernel
theorem dL_passesOne_101 : decode cL_passesOne 101 = .ok (.aload_n 0, 1) := by decide +kernel
theorem dL_passesOne_102 : decode cL_passesOne 102 = .ok (.iconst 2, 1) := by decide +kernel
theorem dL_passesOne_103 : decode cL_passesOne 103 = .ok (.invokestatic 81, 3) := by decide +kernel
theorem dL_passesOne_106 : decode cL_passesOne 106 = .ok (.aload_n 0, 1) := by decide +kernel
theorem dL_passesOne_107 : decode cL_passesOne 107 = .ok (.iconst 3, 1) := by decide +kernel
theorem dL_passesOne_108 : decode cL_passesOne 108 = .ok (.invokestatic 81, 3) := by decide +kernel
theorem dL_passesOne_111 : decode cL_passesOne 111 = .ok (.ladd, 1) := by decide +kernel
theorem dL_passesOne_112 : decode cL_passesOne 112 = .ok (.lload 4, 2) := by decide +kernel
theorem dL_passesOne_114 : decode cL_passesOne 114 = .ok (.lcmp, 1) := by decide +kernel
theorem dL_passesOne_115 : decode cL_passesOne 115 = .ok (.ifCond .ne 7, 3) := by decide +kernel
theorem dL_passesOne_118 : decode cL_passesOne 118 = .ok (.iconst 1, 1) := by decide +kernel
theorem dL_passesOne_119 : decode cL_passesOne 119 = .ok (.goto 4, 3) := by decide +kernel
theorem dL_passesOne_122 : decode cL_passesOne 122 = .ok (.iconst 0, 1) := by decide +kernel
theorem dL_passesOne_123 : decode cL_passesOne 123 = .ok (.istore 9, 2) := by decide +kernel
theorem dL_passesOne_125 : decode cL_passesOne 125 = .ok (.iload 9, 2) := by decide +kernel
theorem dL_passesOne_127 : decode cL_passesOne 127 = .ok (.ifCond .eq 42, 3) := by decide +kernel
theorem dL_passesOne_130 : decode cL_passesOne 130 = .ok (.aload_n 0, 1) := by decide +kernel
theorem dL_passesOne_131 : decode cL_passesOne 131 = .ok (.iconst 4, 1) := by decide +kernel
theorem dL_passesOne_132 : decode cL_passesOne 132 = .ok (.invokestatic 81, 3) := by decide +kernel
theorem dL_passesOne_135 : decode cL_passesOne 135 = .ok (.lload 6, 2) := by decide +kernel
theorem dL_passesOne_137 : decode cL_passesOne 137 = .ok (.lsub, 1) := by decide +kernel
theorem dL_passesOne_138 : decode cL_passesOne 138 = .ok (.iload_n 1, 1) := by decide +kernel
theorem dL_passesOne_139 : decode cL_passesOne 139 = .ok (.i2l, 1) := by decide +kernel
theorem dL_passesOne_140 : decode cL_passesOne 140 = .ok (.aload_n 0, 1) := by decide +kernel
theorem dL_passesOne_141 : decode cL_passesOne 141 = .ok (.iconst 1, 1) := by decide +kernel
theorem dL_passesOne_142 : decode cL_passesOne 142 = .ok (.invokestatic 99, 3) := by decide +kernel
theorem dL_passesOne_145 : decode cL_passesOne 145 = .ok (.i2l, 1) := by decide +kernel
theorem dL_passesOne_146 : decode cL_passesOne 146 = .ok (.lmul, 1) := by decide +kernel
theorem dL_passesOne_147 : decode cL_passesOne 147 = .ok (.lcmp, 1) := by decide +kernel
theorem dL_passesOne_148 : decode cL_passesOne 148 = .ok (.ifCond .gt 21, 3) := by decide +kernel
theorem dL_passesOne_151 : decode cL_passesOne 151 = .ok (.aload_n 0, 1) := by decide +kernel
theorem dL_passesOne_152 : decode cL_passesOne 152 = .ok (.iconst 2, 1) := by decide +kernel
theorem dL_passesOne_153 : decode cL_passesOne 153 = .ok (.invokestatic 99, 3) := by decide +kernel
theorem dL_passesOne_156 : decode cL_passesOne 156 = .ok (.iconst 1, 1) := by decide +kernel
theorem dL_passesOne_157 : decode cL_passesOne 157 = .ok (.if_icmp .eq 8, 3) := by decide +kernel
theorem dL_passesOne_160 : decode cL_passesOne 160 = .ok (.iload 8, 2) := by decide +kernel
theorem dL_passesOne_162 : decode cL_passesOne 162 = .ok (.ifCond .ne 7, 3) := by decide +kernel
theorem dL_passesOne_165 : decode cL_passesOne 165 = .ok (.iconst 1, 1) := by decide +kernel
theorem dL_passesOne_166 : decode cL_passesOne 166 = .ok (.goto 4, 3) := by decide +kernel
theorem dL_passesOne_169 : decode cL_passesOne 169 = .ok (.iconst 0, 1) := by decide +kernel
theorem dL_passesOne_170 : decode cL_passesOne 170 = .ok (.ireturn, 1) := by decide +kernel
theorem dL_servicesOne_0 : decode cL_servicesOne 0 = .ok (.aload_n 0, 1) := by decide +kernel
theorem dL_servicesOne_1 : decode cL_servicesOne 1 = .ok (.iload_n 1, 1) := by decide +kernel
theorem dL_servicesOne_2 : decode cL_servicesOne 2 = .ok (.iconst 2, 1) := by decide +kernel
theorem dL_servicesOne_3 : decode cL_servicesOne 3 = .ok (.invokestatic 78, 3) := by decide +kernel
theorem dL_servicesOne_6 : decode cL_servicesOne 6 = .ok (.istore_n 2, 1) := by decide +kernel
theorem dL_servicesOne_7 : decode cL_servicesOne 7 = .ok (.iload_n 2, 1) := by decide +kernel
theorem dL_servicesOne_8 : decode cL_servicesOne 8 = .ok (.iconst 2, 1) := by decide +kernel
theorem dL_servicesOne_9 : decode cL_servicesOne 9 = .ok (.if_icmp .ne 7, 3) := by decide +kernel
theorem dL_servicesOne_12 : decode cL_servicesOne 12 = .ok (.iconst 1, 1) := by decide +kernel
theorem dL_servicesOne_13 : decode cL_servicesOne 13 = .ok (.goto 4, 3) := by decide +kernel
theorem dL_servicesOne_16 : decode cL_servicesOne 16 = .ok (.iconst 0, 1) := by decide +kernel
theorem dL_servicesOne_17 : decode cL_servicesOne 17 = .ok (.istore_n 3, 1) := by decide +kernel
theorem dL_servicesOne_18 : decode cL_servicesOne 18 = .ok (.aload_n 0, 1) := by decide +kernel
theorem dL_servicesOne_19 : decode cL_servicesOne 19 = .ok (.iload_n 1, 1) := by decide +kernel
theorem dL_servicesOne_20 : decode cL_servicesOne 20 = .ok (.iload_n 3, 1) := by decide +kernel
theorem dL_servicesOne_21 : decode cL_servicesOne 21 = .ok (.invokestatic 101, 3) := by decide +kernel
theorem dL_servicesOne_24 : decode cL_servicesOne 24 = .ok (.istore 4, 2) := by decide +kernel
theorem dL_servicesOne_26 : decode cL_servicesOne 26 = .ok (.iload 4, 2) := by decide +kernel
theorem dL_servicesOne_28 : decode cL_servicesOne 28 = .ok (.iload_n 2, 1) := by decide +kernel
theorem dL_servicesOne_29 : decode cL_servicesOne 29 = .ok (.iconst 1, 1) := by decide +kernel
theorem dL_servicesOne_30 : decode cL_servicesOne 30 = .ok (.if_icmp .ne 7, 3) := by decide +kernel
theorem dL_servicesOne_33 : decode cL_servicesOne 33 = .ok (.iconst 1, 1) := by decide +kernel
theorem dL_servicesOne_34 : decode cL_servicesOne 34 = .ok (.goto 4, 3) := by decide +kernel
theorem dL_servicesOne_37 : decode cL_servicesOne 37 = .ok (.iconst 0, 1) := by decide +kernel
theorem dL_servicesOne_38 : decode cL_servicesOne 38 = .ok (.if_icmp .ne 36, 3) := by decide +kernel
theorem dL_servicesOne_41 : decode cL_servicesOne 41 = .ok (.aload_n 0, 1) := by decide +kernel
theorem dL_servicesOne_42 : decode cL_servicesOne 42 = .ok (.iload_n 1, 1) := by decide +kernel
theorem dL_servicesOne_43 : decode cL_servicesOne 43 = .ok (.iconst 2, 1) := by decide +kernel
theorem dL_servicesOne_44 : decode cL_servicesOne 44 = .ok (.invokestatic 78, 3) := by decide +kernel
theorem dL_servicesOne_47 : decode cL_servicesOne 47 = .ok (.iload_n 3, 1) := by decide +kernel
theorem dL_servicesOne_48 : decode cL_servicesOne 48 = .ok (.ifCond .eq 7, 3) := by decide +kernel
theorem dL_servicesOne_51 : decode cL_servicesOne 51 = .ok (.iconst 0, 1) := by decide +kernel
theorem dL_servicesOne_52 : decode cL_servicesOne 52 = .ok (.goto 4, 3) := by decide +kernel
theorem dL_servicesOne_55 : decode cL_servicesOne 55 = .ok (.iconst 2, 1) := by decide +kernel
theorem dL_servicesOne_56 : decode cL_servicesOne 56 = .ok (.if_icmp .ne 18, 3) := by decide +kernel
theorem dL_servicesOne_59 : decode cL_servicesOne 59 = .ok (.aload_n 0, 1) := by decide +kernel
theorem dL_servicesOne_60 : decode cL_servicesOne 60 = .ok (.iload_n 1, 1) := by decide +kernel
theorem dL_servicesOne_61 : decode cL_servicesOne 61 = .ok (.iload_n 3, 1) := by decide +kernel
theorem dL_servicesOne_62 : decode cL_servicesOne 62 = .ok (.invokestatic 101, 3) := by decide +kernel
theorem dL_servicesOne_65 : decode cL_servicesOne 65 = .ok (.ldc 19, 2) := by decide +kernel
theorem dL_servicesOne_67 : decode cL_servicesOne 67 = .ok (.if_icmp .ne 7, 3) := by decide +kernel
theorem dL_servicesOne_70 : decode cL_servicesOne 70 = .ok (.iconst 1, 1) := by decide +kernel
theorem dL_servicesOne_71 : decode cL_servicesOne 71 = .ok (.goto 4, 3) := by decide +kernel
theorem dL_servicesOne_74 : decode cL_servicesOne 74 = .ok (.iconst 0, 1) := by decide +kernel
theorem dL_servicesOne_75 : decode cL_servicesOne 75 = .ok (.ireturn, 1) := by decide +kernel
theorem dL_bandsOne_0 : decode cL_bandsOne 0 = .ok (.aload_n 0, 1) := by decide +kernel
theorem dL_bandsOne_1 : decode cL_bandsOne 1 = .ok (.iconst 3, 1) := by decide +kernel
theorem dL_bandsOne_2 : decode cL_bandsOne 2 = .ok (.invokestatic 73, 3) := by decide +kernel
theorem dL_bandsOne_5 : decode cL_bandsOne 5 = .ok (.aload_n 0, 1) := by decide +kernel
theorem dL_bandsOne_6 : decode cL_bandsOne 6 = .ok (.iconst 2, 1) := by decide +kernel
theorem dL_bandsOne_7 : decode cL_bandsOne 7 = .ok (.invokestatic 73, 3) := by decide +kernel
theorem dL_bandsOne_10 : decode cL_bandsOne 10 = .ok (.isub, 1) := by decide +kernel
theorem dL_bandsOne_11 : decode cL_bandsOne 11 = .ok (.istore_n 3, 1) := by decide +kernel
theorem dL_bandsOne_12 : decode cL_bandsOne 12 = .ok (.aload_n 0, 1) := by decide +kernel
theorem dL_bandsOne_13 : decode cL_bandsOne 13 = .ok (.iload_n 1, 1) := by decide +kernel
theorem dL_bandsOne_14 : decode cL_bandsOne 14 = .ok (.iload_n 2, 1) := by decide +kernel
theorem dL_bandsOne_15 : decode cL_bandsOne 15 = .ok (.invokestatic 105, 3) := by decide +kernel
theorem dL_bandsOne_18 : decode cL_bandsOne 18 = .ok (.istore 4, 2) := by decide +kernel
theorem dL_bandsOne_20 : decode cL_bandsOne 20 = .ok (.iload_n 2, 1) := by decide +kernel
theorem dL_bandsOne_21 : decode cL_bandsOne 21 = .ok (.aload_n 0, 1) := by decide +kernel
theorem dL_bandsOne_22 : decode cL_bandsOne 22 = .ok (.iconst 0, 1) := by decide +kernel
theorem dL_bandsOne_23 : decode cL_bandsOne 23 = .ok (.invokestatic 73, 3) := by decide +kernel
theorem dL_bandsOne_26 : decode cL_bandsOne 26 = .ok (.if_icmp .le 31, 3) := by decide +kernel
theorem dL_bandsOne_29 : decode cL_bandsOne 29 = .ok (.iload 4, 2) := by decide +kernel
theorem dL_bandsOne_31 : decode cL_bandsOne 31 = .ok (.ldc 19, 2) := by decide +kernel
theorem dL_bandsOne_33 : decode cL_bandsOne 33 = .ok (.if_icmp .ne 22, 3) := by decide +kernel
theorem dL_bandsOne_36 : decode cL_bandsOne 36 = .ok (.aload_n 0, 1) := by decide +kernel
theorem dL_bandsOne_37 : decode cL_bandsOne 37 = .ok (.iconst 3, 1) := by decide +kernel
theorem dL_bandsOne_38 : decode cL_bandsOne 38 = .ok (.invokestatic 73, 3) := by decide +kernel
theorem dL_bandsOne_41 : decode cL_bandsOne 41 = .ok (.aload_n 0, 1) := by decide +kernel
theorem dL_bandsOne_42 : decode cL_bandsOne 42 = .ok (.iconst 2, 1) := by decide +kernel
theorem dL_bandsOne_43 : decode cL_bandsOne 43 = .ok (.invokestatic 73, 3) := by decide +kernel
theorem dL_bandsOne_46 : decode cL_bandsOne 46 = .ok (.isub, 1) := by decide +kernel
theorem dL_bandsOne_47 : decode cL_bandsOne 47 = .ok (.iload_n 3, 1) := by decide +kernel
theorem dL_bandsOne_48 : decode cL_bandsOne 48 = .ok (.if_icmp .ne 7, 3) := by decide +kernel
theorem dL_bandsOne_51 : decode cL_bandsOne 51 = .ok (.iconst 1, 1) := by decide +kernel
theorem dL_bandsOne_52 : decode cL_bandsOne 52 = .ok (.goto 4, 3) := by decide +kernel
theorem dL_bandsOne_55 : decode cL_bandsOne 55 = .ok (.iconst 0, 1) := by decide +kernel
theorem dL_bandsOne_56 : decode cL_bandsOne 56 = .ok (.ireturn, 1) := by decide +kernel
theorem dL_bandsOne_57 : decode cL_bandsOne 57 = .ok (.iload 4, 2) := by decide +kernel
theorem dL_bandsOne_59 : decode cL_bandsOne 59 = .ok (.iload_n 3, 1) := by decide +kernel
theorem dL_bandsOne_60 : decode cL_bandsOne 60 = .ok (.if_icmp .ne 25, 3) := by decide +kernel
theorem dL_bandsOne_63 : decode cL_bandsOne 63 = .ok (.aload_n 0, 1) := by decide +kernel
theorem dL_bandsOne_64 : decode cL_bandsOne 64 = .ok (.iconst 2, 1) := by decide +kernel
theorem dL_bandsOne_65 : decode cL_bandsOne 65 = .ok (.invokestatic 73, 3) := by decide +kernel
theorem dL_bandsOne_68 : decode cL_bandsOne 68 = .ok (.iload_n 1, 1) := by decide +kernel
theorem dL_bandsOne_69 : decode cL_bandsOne 69 = .ok (.if_icmp .ne 16, 3) := by decide +kernel
theorem dL_bandsOne_72 : decode cL_bandsOne 72 = .ok (.aload_n 0, 1) := by decide +kernel
theorem dL_bandsOne_73 : decode cL_bandsOne 73 = .ok (.iconst 3, 1) := by decide +kernel
theorem dL_bandsOne_74 : decode cL_bandsOne 74 = .ok (.invokestatic 73, 3) := by decide +kernel
theorem dL_bandsOne_77 : decode cL_bandsOne 77 = .ok (.iload_n 2, 1) := by decide +kernel
theorem dL_bandsOne_78 : decode cL_bandsOne 78 = .ok (.if_icmp .ne 7, 3) := by decide +kernel
theorem dL_bandsOne_81 : decode cL_bandsOne 81 = .ok (.iconst 1, 1) := by decide +kernel
theorem dL_bandsOne_82 : decode cL_bandsOne 82 = .ok (.goto 4, 3) := by decide +kernel
theorem dL_bandsOne_85 : decode cL_bandsOne 85 = .ok (.iconst 0, 1) := by decide +kernel
theorem dL_bandsOne_86 : decode cL_bandsOne 86 = .ok (.ireturn, 1) := by decide +kernel
theorem dL_sizesOne_0 : decode cL_sizesOne 0 = .ok (.aload_n 0, 1) := by decide +kernel
theorem dL_sizesOne_1 : decode cL_sizesOne 1 = .ok (.iconst 0, 1) := by decide +kernel
theorem dL_sizesOne_2 : decode cL_sizesOne 2 = .ok (.invokestatic 73, 3) := by decide +kernel
theorem dL_sizesOne_5 : decode cL_sizesOne 5 = .ok (.istore_n 2, 1) := by decide +kernel
theorem dL_sizesOne_6 : decode cL_sizesOne 6 = .ok (.aload_n 0, 1) := by decide +kernel
theorem dL_sizesOne_7 : decode cL_sizesOne 7 = .ok (.iload_n 1, 1) := by decide +kernel
theorem dL_sizesOne_8 : decode cL_sizesOne 8 = .ok (.invokestatic 108, 3) := by decide +kernel
theorem dL_sizesOne_11 : decode cL_sizesOne 11 = .ok (.istore_n 3, 1) := by decide +kernel
theorem dL_sizesOne_12 : decode cL_sizesOne 12 = .ok (.aload_n 0, 1) := by decide +kernel
theorem dL_sizesOne_13 : decode cL_sizesOne 13 = .ok (.iconst 1, 1) := by decide +kernel
theorem dL_sizesOne_14 : decode cL_sizesOne 14 = .ok (.invokestatic 73, 3) := by decide +kernel
theorem dL_sizesOne_17 : decode cL_sizesOne 17 = .ok (.iload_n 1, 1) := by decide +kernel
theorem dL_sizesOne_18 : decode cL_sizesOne 18 = .ok (.if_icmp .gt 12, 3) := by decide +kernel
theorem dL_sizesOne_21 : decode cL_sizesOne 21 = .ok (.aload_n 0, 1) := by decide +kernel
theorem dL_sizesOne_22 : decode cL_sizesOne 22 = .ok (.iconst 3, 1) := by decide +kernel
theorem dL_sizesOne_23 : decode cL_sizesOne 23 = .ok (.invokestatic 73, 3) := by decide +kernel
theorem dL_sizesOne_26 : decode cL_sizesOne 26 = .ok (.iload_n 1, 1) := by decide +kernel
theorem dL_sizesOne_27 : decode cL_sizesOne 27 = .ok (.if_icmp .le 24, 3) := by decide +kernel
theorem dL_sizesOne_30 : decode cL_sizesOne 30 = .ok (.iload_n 3, 1) := by decide +kernel
theorem dL_sizesOne_31 : decode cL_sizesOne 31 = .ok (.ldc 19, 2) := by decide +kernel
theorem dL_sizesOne_33 : decode cL_sizesOne 33 = .ok (.if_icmp .ne 16, 3) := by decide +kernel
theorem dL_sizesOne_36 : decode cL_sizesOne 36 = .ok (.aload_n 0, 1) := by decide +kernel
theorem dL_sizesOne_37 : decode cL_sizesOne 37 = .ok (.iconst 0, 1) := by decide +kernel
theorem dL_sizesOne_38 : decode cL_sizesOne 38 = .ok (.invokestatic 73, 3) := by decide +kernel
theorem dL_sizesOne_41 : decode cL_sizesOne 41 = .ok (.iload_n 2, 1) := by decide +kernel
theorem dL_sizesOne_42 : decode cL_sizesOne 42 = .ok (.if_icmp .ne 7, 3) := by decide +kernel
theorem dL_sizesOne_45 : decode cL_sizesOne 45 = .ok (.iconst 1, 1) := by decide +kernel
theorem dL_sizesOne_46 : decode cL_sizesOne 46 = .ok (.goto 4, 3) := by decide +kernel
theorem dL_sizesOne_49 : decode cL_sizesOne 49 = .ok (.iconst 0, 1) := by decide +kernel
theorem dL_sizesOne_50 : decode cL_sizesOne 50 = .ok (.ireturn, 1) := by decide +kernel
theorem dL_sizesOne_51 : decode cL_sizesOne 51 = .ok (.iload_n 3, 1) := by decide +kernel
theorem dL_sizesOne_52 : decode cL_sizesOne 52 = .ok (.iload_n 2, 1) := by decide +kernel
theorem dL_sizesOne_53 : decode cL_sizesOne 53 = .ok (.if_icmp .ne 16, 3) := by decide +kernel
theorem dL_sizesOne_56 : decode cL_sizesOne 56 = .ok (.aload_n 0, 1) := by decide +kernel
theorem dL_sizesOne_57 : decode cL_sizesOne 57 = .ok (.iconst 0, 1) := by decide +kernel
theorem dL_sizesOne_58 : decode cL_sizesOne 58 = .ok (.invokestatic 73, 3) := by decide +kernel
theorem dL_sizesOne_61 : decode cL_sizesOne 61 = .ok (.iload_n 1, 1) := by decide +kernel
theorem dL_sizesOne_62 : decode cL_sizesOne 62 = .ok (.if_icmp .ne 7, 3) := by decide +kernel
theorem dL_sizesOne_65 : decode cL_sizesOne 65 = .ok (.iconst 1, 1) := by decide +kernel
theorem dL_sizesOne_66 : decode cL_sizesOne 66 = .ok (.goto 4, 3) := by decide +kernel
theorem dL_sizesOne_69 : decode cL_sizesOne 69 = .ok (.iconst 0, 1) := by decide +kernel
theorem dL_sizesOne_70 : decode cL_sizesOne 70 = .ok (.ireturn, 1) := by decide +kernel
theorem dL_undoesOne_0 : decode cL_undoesOne 0 = .ok (.aload_n 0, 1) := by decide +kernel
theorem dL_undoesOne_1 : decode cL_undoesOne 1 = .ok (.bipush 7, 2) := by decide +kernel
theorem dL_undoesOne_3 : decode cL_undoesOne 3 = .ok (.invokestatic 73, 3) := by decide +kernel
theorem dL_undoesOne_6 : decode cL_undoesOne 6 = .ok (.istore_n 2, 1) := by decide +kernel
theorem dL_undoesOne_7 : decode cL_undoesOne 7 = .ok (.aload_n 0, 1) := by decide +kernel
theorem dL_undoesOne_8 : decode cL_undoesOne 8 = .ok (.iconst 1, 1) := by decide +kernel
theorem dL_undoesOne_9 : decode cL_undoesOne 9 = .ok (.invokestatic 73, 3) := by decide +kernel
theorem dL_undoesOne_12 : decode cL_undoesOne 12 = .ok (.istore_n 3, 1) := by decide +kernel
theorem dL_undoesOne_13 : decode cL_undoesOne 13 = .ok (.aload_n 0, 1) := by decide +kernel
theorem dL_undoesOne_14 : decode cL_undoesOne 14 = .ok (.iconst 0, 1) := by decide +kernel
theorem dL_undoesOne_15 : decode cL_undoesOne 15 = .ok (.invokestatic 81, 3) := by decide +kernel
theorem dL_undoesOne_18 : decode cL_undoesOne 18 = .ok (.lstore 4, 2) := by decide +kernel
theorem dL_undoesOne_20 : decode cL_undoesOne 20 = .ok (.aload_n 0, 1) := by decide +kernel
theorem dL_undoesOne_21 : decode cL_undoesOne 21 = .ok (.iload_n 1, 1) := by decide +kernel
theorem dL_undoesOne_22 : decode cL_undoesOne 22 = .ok (.invokestatic 96, 3) := by decide +kernel
theorem dL_undoesOne_25 : decode cL_undoesOne 25 = .ok (.ifCond .lt 26, 3) := by decide +kernel
theorem dL_undoesOne_28 : decode cL_undoesOne 28 = .ok (.aload_n 0, 1) := by decide +kernel
theorem dL_undoesOne_29 : decode cL_undoesOne 29 = .ok (.bipush 7, 2) := by decide +kernel
theorem dL_undoesOne_31 : decode cL_undoesOne 31 = .ok (.invokestatic 73, 3) := by decide +kernel
theorem dL_undoesOne_34 : decode cL_undoesOne 34 = .ok (.iload_n 2, 1) := by decide +kernel
theorem dL_undoesOne_35 : decode cL_undoesOne 35 = .ok (.iload_n 1, 1) := by decide +kernel
theorem dL_undoesOne_36 : decode cL_undoesOne 36 = .ok (.iadd, 1) := by decide +kernel
theorem dL_undoesOne_37 : decode cL_undoesOne 37 = .ok (.if_icmp .ne 14, 3) := by decide +kernel
theorem dL_undoesOne_40 : decode cL_undoesOne 40 = .ok (.aload_n 0, 1) := by decide +kernel
theorem dL_undoesOne_41 : decode cL_undoesOne 41 = .ok (.invokestatic 111, 3) := by decide +kernel
theorem dL_undoesOne_44 : decode cL_undoesOne 44 = .ok (.ifCond .lt 7, 3) := by decide +kernel
theorem dL_undoesOne_47 : decode cL_undoesOne 47 = .ok (.iconst 1, 1) := by decide +kernel
theorem dL_undoesOne_48 : decode cL_undoesOne 48 = .ok (.goto 4, 3) := by decide +kernel
theorem dL_undoesOne_51 : decode cL_undoesOne 51 = .ok (.iconst 0, 1) := by decide +kernel
theorem dL_undoesOne_52 : decode cL_undoesOne 52 = .ok (.istore 6, 2) := by decide +kernel
theorem dL_undoesOne_54 : decode cL_undoesOne 54 = .ok (.iload 6, 2) := by decide +kernel
theorem dL_undoesOne_56 : decode cL_undoesOne 56 = .ok (.ifCond .eq 37, 3) := by decide +kernel
theorem dL_undoesOne_59 : decode cL_undoesOne 59 = .ok (.aload_n 0, 1) := by decide +kernel
theorem dL_undoesOne_60 : decode cL_undoesOne 60 = .ok (.bipush 7, 2) := by decide +kernel
theorem dL_undoesOne_62 : decode cL_undoesOne 62 = .ok (.invokestatic 73, 3) := by decide +kernel
theorem dL_undoesOne_65 : decode cL_undoesOne 65 = .ok (.iload_n 2, 1) := by decide +kernel
theorem dL_undoesOne_66 : decode cL_undoesOne 66 = .ok (.if_icmp .ne 27, 3) := by decide +kernel
theorem dL_undoesOne_69 : decode cL_undoesOne 69 = .ok (.aload_n 0, 1) := by decide +kernel
theorem dL_undoesOne_70 : decode cL_undoesOne 70 = .ok (.iconst 1, 1) := by decide +kernel
theorem dL_undoesOne_71 : decode cL_undoesOne 71 = .ok (.invokestatic 73, 3) := by decide +kernel
theorem dL_undoesOne_74 : decode cL_undoesOne 74 = .ok (.iload_n 3, 1) := by decide +kernel
theorem dL_undoesOne_75 : decode cL_undoesOne 75 = .ok (.if_icmp .ne 18, 3) := by decide +kernel
theorem dL_undoesOne_78 : decode cL_undoesOne 78 = .ok (.aload_n 0, 1) := by decide +kernel
theorem dL_undoesOne_79 : decode cL_undoesOne 79 = .ok (.iconst 0, 1) := by decide +kernel
theorem dL_undoesOne_80 : decode cL_undoesOne 80 = .ok (.invokestatic 81, 3) := by decide +kernel
theorem dL_undoesOne_83 : decode cL_undoesOne 83 = .ok (.lload 4, 2) := by decide +kernel
theorem dL_undoesOne_85 : decode cL_undoesOne 85 = .ok (.lcmp, 1) := by decide +kernel
theorem dL_undoesOne_86 : decode cL_undoesOne 86 = .ok (.ifCond .ne 7, 3) := by decide +kernel
theorem dL_undoesOne_89 : decode cL_undoesOne 89 = .ok (.iconst 1, 1) := by decide +kernel
theorem dL_undoesOne_90 : decode cL_undoesOne 90 = .ok (.goto 4, 3) := by decide +kernel
theorem dL_undoesOne_93 : decode cL_undoesOne 93 = .ok (.iconst 0, 1) := by decide +kernel
theorem dL_undoesOne_94 : decode cL_undoesOne 94 = .ok (.ireturn, 1) := by decide +kernel
theorem dL_refuses_0 : decode cL_refuses 0 = .ok (.aload_n 0, 1) := by decide +kernel
theorem dL_refuses_1 : decode cL_refuses 1 = .ok (.invokevirtual 115, 3) := by decide +kernel
theorem dL_refuses_4 : decode cL_refuses 4 = .ok (.lstore_n 1, 1) := by decide +kernel
theorem dL_refuses_5 : decode cL_refuses 5 = .ok (.aload_n 0, 1) := by decide +kernel
theorem dL_refuses_6 : decode cL_refuses 6 = .ok (.iconst (-1), 1) := by decide +kernel
theorem dL_refuses_7 : decode cL_refuses 7 = .ok (.invokestatic 119, 3) := by decide +kernel
theorem dL_refuses_10 : decode cL_refuses 10 = .ok (.ldc 16, 2) := by decide +kernel
theorem dL_refuses_12 : decode cL_refuses 12 = .ok (.if_icmp .ne 70, 3) := by decide +kernel
theorem dL_refuses_15 : decode cL_refuses 15 = .ok (.aload_n 0, 1) := by decide +kernel
theorem dL_refuses_16 : decode cL_refuses 16 = .ok (.aload_n 0, 1) := by decide +kernel
theorem dL_refuses_17 : decode cL_refuses 17 = .ok (.iconst 0, 1) := by decide +kernel
theorem dL_refuses_18 : decode cL_refuses 18 = .ok (.invokestatic 73, 3) := by decide +kernel
theorem dL_refuses_21 : decode cL_refuses 21 = .ok (.iconst 1, 1) := by decide +kernel
theorem dL_refuses_22 : decode cL_refuses 22 = .ok (.iadd, 1) := by decide +kernel
theorem dL_refuses_23 : decode cL_refuses 23 = .ok (.invokestatic 119, 3) := by decide +kernel
theorem dL_refuses_26 : decode cL_refuses 26 = .ok (.ldc 19, 2) := by decide +kernel
theorem dL_refuses_28 : decode cL_refuses 28 = .ok (.if_icmp .ne 54, 3) := by decide +kernel
theorem dL_refuses_31 : decode cL_refuses 31 = .ok (.aload_n 0, 1) := by decide +kernel
theorem dL_refuses_32 : decode cL_refuses 32 = .ok (.iconst 0, 1) := by decide +kernel
theorem dL_refuses_33 : decode cL_refuses 33 = .ok (.invokestatic 96, 3) := by decide +kernel
theorem dL_refuses_36 : decode cL_refuses 36 = .ok (.ldc 16, 2) := by decide +kernel
theorem dL_refuses_38 : decode cL_refuses 38 = .ok (.if_icmp .ne 44, 3) := by decide +kernel
theorem dL_refuses_41 : decode cL_refuses 41 = .ok (.aload_n 0, 1) := by decide +kernel
theorem dL_refuses_42 : decode cL_refuses 42 = .ok (.sipush 1441, 3) := by decide +kernel
theorem dL_refuses_45 : decode cL_refuses 45 = .ok (.invokestatic 96, 3) := by decide +kernel
theorem dL_refuses_48 : decode cL_refuses 48 = .ok (.ldc 16, 2) := by decide +kernel
theorem dL_refuses_50 : decode cL_refuses 50 = .ok (.if_icmp .ne 32, 3) := by decide +kernel
theorem dL_refuses_53 : decode cL_refuses 53 = .ok (.aload_n 0, 1) := by decide +kernel
theorem dL_refuses_54 : decode cL_refuses 54 = .ok (.iconst 0, 1) := by decide +kernel
theorem dL_refuses_55 : decode cL_refuses 55 = .ok (.bipush 9, 2) := by decide +kernel
theorem dL_refuses_57 : decode cL_refuses 57 = .ok (.invokestatic 105, 3) := by decide +kernel
theorem dL_refuses_60 : decode cL_refuses 60 = .ok (.ldc 16, 2) := by decide +kernel
theorem dL_refuses_62 : decode cL_refuses 62 = .ok (.if_icmp .ne 20, 3) := by decide +kernel
theorem dL_refuses_65 : decode cL_refuses 65 = .ok (.aload_n 0, 1) := by decide +kernel
theorem dL_refuses_66 : decode cL_refuses 66 = .ok (.bipush 9, 2) := by decide +kernel
theorem dL_refuses_68 : decode cL_refuses 68 = .ok (.bipush 9, 2) := by decide +kernel
theorem dL_refuses_70 : decode cL_refuses 70 = .ok (.invokestatic 105, 3) := by decide +kernel
theorem dL_refuses_73 : decode cL_refuses 73 = .ok (.ldc 16, 2) := by decide +kernel
theorem dL_refuses_75 : decode cL_refuses 75 = .ok (.if_icmp .ne 7, 3) := by decide +kernel
theorem dL_refuses_78 : decode cL_refuses 78 = .ok (.iconst 1, 1) := by decide +kernel
theorem dL_refuses_79 : decode cL_refuses 79 = .ok (.goto 4, 3) := by decide +kernel
theorem dL_refuses_82 : decode cL_refuses 82 = .ok (.iconst 0, 1) := by decide +kernel
theorem dL_refuses_83 : decode cL_refuses 83 = .ok (.istore_n 3, 1) := by decide +kernel
theorem dL_refuses_84 : decode cL_refuses 84 = .ok (.iload_n 3, 1) := by decide +kernel
theorem dL_refuses_85 : decode cL_refuses 85 = .ok (.ifCond .eq 68, 3) := by decide +kernel
theorem dL_refuses_88 : decode cL_refuses 88 = .ok (.aload_n 0, 1) := by decide +kernel
theorem dL_refuses_89 : decode cL_refuses 89 = .ok (.bipush 99, 2) := by decide +kernel
theorem dL_refuses_91 : decode cL_refuses 91 = .ok (.invokestatic 108, 3) := by decide +kernel
theorem dL_refuses_94 : decode cL_refuses 94 = .ok (.ldc 16, 2) := by decide +kernel
theorem dL_refuses_96 : decode cL_refuses 96 = .ok (.if_icmp .ne 57, 3) := by decide +kernel
theorem dL_refuses_99 : decode cL_refuses 99 = .ok (.aload_n 0, 1) := by decide +kernel
theorem dL_refuses_100 : decode cL_refuses 100 = .ok (.iconst 3, 1) := by decide +kernel
theorem dL_refuses_101 : decode cL_refuses 101 = .ok (.iconst 0, 1) := by decide +kernel
theorem dL_refuses_102 : decode cL_refuses 102 = .ok (.invokestatic 122, 3) := by decide +kernel
theorem dL_refuses_105 : decode cL_refuses 105 = .ok (.ldc 16, 2) := by decide +kernel
theorem dL_refuses_107 : decode cL_refuses 107 = .ok (.if_icmp .ne 46, 3) := by decide +kernel
theorem dL_refuses_110 : decode cL_refuses 110 = .ok (.aload_n 0, 1) := by decide +kernel
theorem dL_refuses_111 : decode cL_refuses 111 = .ok (.iconst 0, 1) := by decide +kernel
theorem dL_refuses_112 : decode cL_refuses 112 = .ok (.iconst 0, 1) := by decide +kernel
theorem dL_refuses_113 : decode cL_refuses 113 = .ok (.invokestatic 122, 3) := by decide +kernel
theorem dL_refuses_116 : decode cL_refuses 116 = .ok (.ldc 16, 2) := by decide +kernel
theorem dL_refuses_118 : decode cL_refuses 118 = .ok (.if_icmp .ne 35, 3) := by decide +kernel
theorem dL_refuses_121 : decode cL_refuses 121 = .ok (.aload_n 0, 1) := by decide +kernel
theorem dL_refuses_122 : decode cL_refuses 122 = .ok (.bipush 24, 2) := by decide +kernel
theorem dL_refuses_124 : decode cL_refuses 124 = .ok (.sipush 1001, 3) := by decide +kernel
theorem dL_refuses_127 : decode cL_refuses 127 = .ok (.invokestatic 125, 3) := by decide +kernel
theorem dL_refuses_130 : decode cL_refuses 130 = .ok (.ldc 16, 2) := by decide +kernel
theorem dL_refuses_132 : decode cL_refuses 132 = .ok (.if_icmp .ne 21, 3) := by decide +kernel
theorem dL_refuses_135 : decode cL_refuses 135 = .ok (.aload_n 0, 1) := by decide +kernel
theorem dL_refuses_136 : decode cL_refuses 136 = .ok (.bipush 23, 2) := by decide +kernel
theorem dL_refuses_138 : decode cL_refuses 138 = .ok (.sipush 1001, 3) := by decide +kernel
theorem dL_refuses_141 : decode cL_refuses 141 = .ok (.invokestatic 125, 3) := by decide +kernel
theorem dL_refuses_144 : decode cL_refuses 144 = .ok (.ldc 19, 2) := by decide +kernel
theorem dL_refuses_146 : decode cL_refuses 146 = .ok (.if_icmp .ne 7, 3) := by decide +kernel
theorem dL_refuses_149 : decode cL_refuses 149 = .ok (.iconst 1, 1) := by decide +kernel
theorem dL_refuses_150 : decode cL_refuses 150 = .ok (.goto 4, 3) := by decide +kernel
theorem dL_refuses_153 : decode cL_refuses 153 = .ok (.iconst 0, 1) := by decide +kernel
theorem dL_refuses_154 : decode cL_refuses 154 = .ok (.istore_n 3, 1) := by decide +kernel
theorem dL_refuses_155 : decode cL_refuses 155 = .ok (.iload_n 3, 1) := by decide +kernel
theorem dL_refuses_156 : decode cL_refuses 156 = .ok (.ifCond .eq 68, 3) := by decide +kernel
theorem dL_refuses_159 : decode cL_refuses 159 = .ok (.aload_n 0, 1) := by decide +kernel
theorem dL_refuses_160 : decode cL_refuses 160 = .ok (.sipush 501, 3) := by decide +kernel
theorem dL_refuses_163 : decode cL_refuses 163 = .ok (.iconst 1, 1) := by decide +kernel
theorem dL_refuses_164 : decode cL_refuses 164 = .ok (.invokestatic 128, 3) := by decide +kernel
theorem dL_refuses_167 : decode cL_refuses 167 = .ok (.ldc 16, 2) := by decide +kernel
theorem dL_refuses_169 : decode cL_refuses 169 = .ok (.if_icmp .ne 55, 3) := by decide +kernel
theorem dL_refuses_172 : decode cL_refuses 172 = .ok (.aload_n 0, 1) := by decide +kernel
theorem dL_refuses_173 : decode cL_refuses 173 = .ok (.bipush 6, 2) := by decide +kernel
theorem dL_refuses_175 : decode cL_refuses 175 = .ok (.bipush 13, 2) := by decide +kernel
theorem dL_refuses_177 : decode cL_refuses 177 = .ok (.invokestatic 131, 3) := by decide +kernel
theorem dL_refuses_180 : decode cL_refuses 180 = .ok (.ldc 16, 2) := by decide +kernel
theorem dL_refuses_182 : decode cL_refuses 182 = .ok (.if_icmp .ne 42, 3) := by decide +kernel
theorem dL_refuses_185 : decode cL_refuses 185 = .ok (.aload_n 0, 1) := by decide +kernel
theorem dL_refuses_186 : decode cL_refuses 186 = .ok (.iconst 0, 1) := by decide +kernel
theorem dL_refuses_187 : decode cL_refuses 187 = .ok (.bipush 13, 2) := by decide +kernel
theorem dL_refuses_189 : decode cL_refuses 189 = .ok (.invokestatic 131, 3) := by decide +kernel
theorem dL_refuses_192 : decode cL_refuses 192 = .ok (.ldc 19, 2) := by decide +kernel
theorem dL_refuses_194 : decode cL_refuses 194 = .ok (.if_icmp .ne 30, 3) := by decide +kernel
theorem dL_refuses_197 : decode cL_refuses 197 = .ok (.aload_n 0, 1) := by decide +kernel
theorem dL_refuses_198 : decode cL_refuses 198 = .ok (.iconst (-1), 1) := by decide +kernel
theorem dL_refuses_199 : decode cL_refuses 199 = .ok (.iconst 1, 1) := by decide +kernel
theorem dL_refuses_200 : decode cL_refuses 200 = .ok (.invokestatic 101, 3) := by decide +kernel
theorem dL_refuses_203 : decode cL_refuses 203 = .ok (.ldc 16, 2) := by decide +kernel
theorem dL_refuses_205 : decode cL_refuses 205 = .ok (.if_icmp .ne 19, 3) := by decide +kernel
theorem dL_refuses_208 : decode cL_refuses 208 = .ok (.aload_n 0, 1) := by decide +kernel
theorem dL_refuses_209 : decode cL_refuses 209 = .ok (.bipush 12, 2) := by decide +kernel
theorem dL_refuses_211 : decode cL_refuses 211 = .ok (.iconst 0, 1) := by decide +kernel
theorem dL_refuses_212 : decode cL_refuses 212 = .ok (.invokestatic 84, 3) := by decide +kernel
theorem dL_refuses_215 : decode cL_refuses 215 = .ok (.ldc 16, 2) := by decide +kernel
theorem dL_refuses_217 : decode cL_refuses 217 = .ok (.if_icmp .ne 7, 3) := by decide +kernel
theorem dL_refuses_220 : decode cL_refuses 220 = .ok (.iconst 1, 1) := by decide +kernel
theorem dL_refuses_221 : decode cL_refuses 221 = .ok (.goto 4, 3) := by decide +kernel
theorem dL_refuses_224 : decode cL_refuses 224 = .ok (.iconst 0, 1) := by decide +kernel
theorem dL_refuses_225 : decode cL_refuses 225 = .ok (.istore_n 3, 1) := by decide +kernel
theorem dL_refuses_226 : decode cL_refuses 226 = .ok (.iload_n 3, 1) := by decide +kernel
theorem dL_refuses_227 : decode cL_refuses 227 = .ok (.ifCond .eq 16, 3) := by decide +kernel
theorem dL_refuses_230 : decode cL_refuses 230 = .ok (.aload_n 0, 1) := by decide +kernel
theorem dL_refuses_231 : decode cL_refuses 231 = .ok (.invokevirtual 115, 3) := by decide +kernel
theorem dL_refuses_234 : decode cL_refuses 234 = .ok (.lload_n 1, 1) := by decide +kernel
theorem dL_refuses_235 : decode cL_refuses 235 = .ok (.lcmp, 1) := by decide +kernel
theorem dL_refuses_236 : decode cL_refuses 236 = .ok (.ifCond .ne 7, 3) := by decide +kernel
theorem dL_refuses_239 : decode cL_refuses 239 = .ok (.iconst 1, 1) := by decide +kernel
theorem dL_refuses_240 : decode cL_refuses 240 = .ok (.goto 4, 3) := by decide +kernel
theorem dL_refuses_243 : decode cL_refuses 243 = .ok (.iconst 0, 1) := by decide +kernel
theorem dL_refuses_244 : decode cL_refuses 244 = .ok (.ireturn, 1) := by decide +kernel

theorem dL_isWritten_1 : decode cL_isWritten 1 = .ok (.aload_n 1, 1) := by decide +kernel
theorem dL_isWritten_2 : decode cL_isWritten 2 = .ok (.iconst 2, 1) := by decide +kernel
theorem dL_isWritten_3 : decode cL_isWritten 3 = .ok (.iaload, 1) := by decide +kernel
theorem dL_isWritten_4 : decode cL_isWritten 4 = .ok (.if_icmp .lt 19, 3) := by decide +kernel
theorem dL_isWritten_7 : decode cL_isWritten 7 = .ok (.aload_n 0, 1) := by decide +kernel
theorem dL_isWritten_8 : decode cL_isWritten 8 = .ok (.iload_n 2, 1) := by decide +kernel
theorem dL_isWritten_9 : decode cL_isWritten 9 = .ok (.invokestatic 249, 3) := by decide +kernel
theorem dL_isWritten_12 : decode cL_isWritten 12 = .ok (.ldc 17, 2) := by decide +kernel
theorem dL_isWritten_14 : decode cL_isWritten 14 = .ok (.if_icmp .ne 7, 3) := by decide +kernel
theorem dL_isWritten_17 : decode cL_isWritten 17 = .ok (.iconst 1, 1) := by decide +kernel
theorem dL_isWritten_18 : decode cL_isWritten 18 = .ok (.goto 4, 3) := by decide +kernel
theorem dL_isWritten_21 : decode cL_isWritten 21 = .ok (.iconst 0, 1) := by decide +kernel
theorem dL_isWritten_22 : decode cL_isWritten 22 = .ok (.ireturn, 1) := by decide +kernel
theorem dL_isWritten_23 : decode cL_isWritten 23 = .ok (.new 251, 3) := by decide +kernel
theorem dL_isWritten_26 : decode cL_isWritten 26 = .ok (.dup, 1) := by decide +kernel
theorem dL_isWritten_27 : decode cL_isWritten 27 = .ok (.invokespecial 253, 3) := by decide +kernel
theorem dL_isWritten_30 : decode cL_isWritten 30 = .ok (.astore_n 3, 1) := by decide +kernel
theorem dL_isWritten_31 : decode cL_isWritten 31 = .ok (.iload_n 2, 1) := by decide +kernel
theorem dL_isWritten_32 : decode cL_isWritten 32 = .ok (.istore 4, 2) := by decide +kernel
theorem dL_isWritten_34 : decode cL_isWritten 34 = .ok (.iload 4, 2) := by decide +kernel
theorem dL_isWritten_36 : decode cL_isWritten 36 = .ok (.aload_n 1, 1) := by decide +kernel
theorem dL_isWritten_37 : decode cL_isWritten 37 = .ok (.iconst 2, 1) := by decide +kernel
theorem dL_isWritten_38 : decode cL_isWritten 38 = .ok (.iaload, 1) := by decide +kernel
theorem dL_isWritten_39 : decode cL_isWritten 39 = .ok (.if_icmp .ge 64, 3) := by decide +kernel
theorem dL_isWritten_42 : decode cL_isWritten 42 = .ok (.iload 4, 2) := by decide +kernel
theorem dL_isWritten_44 : decode cL_isWritten 44 = .ok (.iload_n 2, 1) := by decide +kernel
theorem dL_isWritten_45 : decode cL_isWritten 45 = .ok (.bipush 10, 2) := by decide +kernel
theorem dL_isWritten_47 : decode cL_isWritten 47 = .ok (.iadd, 1) := by decide +kernel
theorem dL_isWritten_48 : decode cL_isWritten 48 = .ok (.if_icmp .ge 55, 3) := by decide +kernel
theorem dL_isWritten_51 : decode cL_isWritten 51 = .ok (.aload_n 3, 1) := by decide +kernel
theorem dL_isWritten_52 : decode cL_isWritten 52 = .ok (.iload 4, 2) := by decide +kernel
theorem dL_isWritten_54 : decode cL_isWritten 54 = .ok (.iload_n 2, 1) := by decide +kernel
theorem dL_isWritten_55 : decode cL_isWritten 55 = .ok (.if_icmp .ne 8, 3) := by decide +kernel
theorem dL_isWritten_58 : decode cL_isWritten 58 = .ok (.ldc 254, 2) := by decide +kernel
theorem dL_isWritten_60 : decode cL_isWritten 60 = .ok (.goto 6, 3) := by decide +kernel
theorem dL_isWritten_63 : decode cL_isWritten 63 = .ok (.ldc_w 256, 3) := by decide +kernel
theorem dL_isWritten_66 : decode cL_isWritten 66 = .ok (.invokevirtual 258, 3) := by decide +kernel
theorem dL_isWritten_69 : decode cL_isWritten 69 = .ok (.aload_n 1, 1) := by decide +kernel
theorem dL_isWritten_70 : decode cL_isWritten 70 = .ok (.sipush 1020, 3) := by decide +kernel
theorem dL_isWritten_73 : decode cL_isWritten 73 = .ok (.iload 4, 2) := by decide +kernel
theorem dL_isWritten_75 : decode cL_isWritten 75 = .ok (.iadd, 1) := by decide +kernel
theorem dL_isWritten_76 : decode cL_isWritten 76 = .ok (.iaload, 1) := by decide +kernel
theorem dL_isWritten_77 : decode cL_isWritten 77 = .ok (.invokevirtual 262, 3) := by decide +kernel
theorem dL_isWritten_80 : decode cL_isWritten 80 = .ok (.bipush 47, 2) := by decide +kernel
theorem dL_isWritten_82 : decode cL_isWritten 82 = .ok (.invokevirtual 265, 3) := by decide +kernel
theorem dL_isWritten_85 : decode cL_isWritten 85 = .ok (.aload_n 1, 1) := by decide +kernel
theorem dL_isWritten_86 : decode cL_isWritten 86 = .ok (.sipush 1220, 3) := by decide +kernel
theorem dL_isWritten_89 : decode cL_isWritten 89 = .ok (.iload 4, 2) := by decide +kernel
theorem dL_isWritten_91 : decode cL_isWritten 91 = .ok (.iadd, 1) := by decide +kernel
theorem dL_isWritten_92 : decode cL_isWritten 92 = .ok (.iaload, 1) := by decide +kernel
theorem dL_isWritten_93 : decode cL_isWritten 93 = .ok (.invokevirtual 262, 3) := by decide +kernel
theorem dL_isWritten_96 : decode cL_isWritten 96 = .ok (.pop, 1) := by decide +kernel
theorem dL_isWritten_97 : decode cL_isWritten 97 = .ok (.iinc 4 1, 3) := by decide +kernel
theorem dL_isWritten_100 : decode cL_isWritten 100 = .ok (.goto (-66), 3) := by decide +kernel
theorem dL_isWritten_103 : decode cL_isWritten 103 = .ok (.aload_n 0, 1) := by decide +kernel
theorem dL_isWritten_104 : decode cL_isWritten 104 = .ok (.iload_n 2, 1) := by decide +kernel
theorem dL_isWritten_105 : decode cL_isWritten 105 = .ok (.invokestatic 249, 3) := by decide +kernel
theorem dL_isWritten_108 : decode cL_isWritten 108 = .ok (.aload_n 3, 1) := by decide +kernel
theorem dL_isWritten_109 : decode cL_isWritten 109 = .ok (.invokevirtual 268, 3) := by decide +kernel
theorem dL_isWritten_112 : decode cL_isWritten 112 = .ok (.if_icmp .ne 20, 3) := by decide +kernel
theorem dL_isWritten_115 : decode cL_isWritten 115 = .ok (.aload_n 0, 1) := by decide +kernel
theorem dL_isWritten_116 : decode cL_isWritten 116 = .ok (.aload_n 3, 1) := by decide +kernel
theorem dL_isWritten_117 : decode cL_isWritten 117 = .ok (.invokevirtual 268, 3) := by decide +kernel
theorem dL_isWritten_120 : decode cL_isWritten 120 = .ok (.invokestatic 271, 3) := by decide +kernel
theorem dL_isWritten_123 : decode cL_isWritten 123 = .ok (.ldc 17, 2) := by decide +kernel
theorem dL_isWritten_125 : decode cL_isWritten 125 = .ok (.if_icmp .ne 7, 3) := by decide +kernel
theorem dL_isWritten_128 : decode cL_isWritten 128 = .ok (.iconst 1, 1) := by decide +kernel
theorem dL_isWritten_129 : decode cL_isWritten 129 = .ok (.goto 4, 3) := by decide +kernel
theorem dL_isWritten_132 : decode cL_isWritten 132 = .ok (.iconst 0, 1) := by decide +kernel
theorem dL_isWritten_133 : decode cL_isWritten 133 = .ok (.istore 4, 2) := by decide +kernel
theorem dL_isWritten_135 : decode cL_isWritten 135 = .ok (.iconst 0, 1) := by decide +kernel
theorem dL_isWritten_136 : decode cL_isWritten 136 = .ok (.istore 5, 2) := by decide +kernel
theorem dL_isWritten_138 : decode cL_isWritten 138 = .ok (.iload 5, 2) := by decide +kernel
theorem dL_isWritten_140 : decode cL_isWritten 140 = .ok (.aload_n 3, 1) := by decide +kernel
theorem dL_isWritten_141 : decode cL_isWritten 141 = .ok (.invokevirtual 268, 3) := by decide +kernel
theorem dL_isWritten_144 : decode cL_isWritten 144 = .ok (.if_icmp .ge 34, 3) := by decide +kernel
theorem dL_isWritten_147 : decode cL_isWritten 147 = .ok (.iload 4, 2) := by decide +kernel
theorem dL_isWritten_149 : decode cL_isWritten 149 = .ok (.aload_n 0, 1) := by decide +kernel
theorem dL_isWritten_150 : decode cL_isWritten 150 = .ok (.iload 5, 2) := by decide +kernel
theorem dL_isWritten_152 : decode cL_isWritten 152 = .ok (.invokestatic 271, 3) := by decide +kernel
theorem dL_isWritten_155 : decode cL_isWritten 155 = .ok (.aload_n 3, 1) := by decide +kernel
theorem dL_isWritten_156 : decode cL_isWritten 156 = .ok (.iload 5, 2) := by decide +kernel
theorem dL_isWritten_158 : decode cL_isWritten 158 = .ok (.invokevirtual 273, 3) := by decide +kernel
theorem dL_isWritten_161 : decode cL_isWritten 161 = .ok (.if_icmp .ne 7, 3) := by decide +kernel
theorem dL_isWritten_164 : decode cL_isWritten 164 = .ok (.iconst 1, 1) := by decide +kernel
theorem dL_isWritten_165 : decode cL_isWritten 165 = .ok (.goto 4, 3) := by decide +kernel
theorem dL_isWritten_168 : decode cL_isWritten 168 = .ok (.iconst 0, 1) := by decide +kernel
theorem dL_isWritten_169 : decode cL_isWritten 169 = .ok (.iand, 1) := by decide +kernel
theorem dL_isWritten_170 : decode cL_isWritten 170 = .ok (.istore 4, 2) := by decide +kernel
theorem dL_isWritten_172 : decode cL_isWritten 172 = .ok (.iinc 5 1, 3) := by decide +kernel
theorem dL_isWritten_175 : decode cL_isWritten 175 = .ok (.goto (-37), 3) := by decide +kernel
theorem dL_isWritten_178 : decode cL_isWritten 178 = .ok (.iload 4, 2) := by decide +kernel
theorem dL_isWritten_180 : decode cL_isWritten 180 = .ok (.ireturn, 1) := by decide +kernel

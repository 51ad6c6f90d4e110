theorem dX9_init_0 : decode cX9_init 0 = .ok (.aload_n 0, 1) := by decide +kernel
theorem dX9_init_1 : decode cX9_init 1 = .ok (.invokespecial 1, 3) := by decide +kernel
theorem dX9_init_4 : decode cX9_init 4 = .ok (.aload_n 0, 1) := by decide +kernel
theorem dX9_init_5 : decode cX9_init 5 = .ok (.sipush 200, 3) := by decide +kernel
theorem dX9_init_8 : decode cX9_init 8 = .ok (.newarray .int, 2) := by decide +kernel
theorem dX9_init_10 : decode cX9_init 10 = .ok (.putfield 9, 3) := by decide +kernel
theorem dX9_init_13 : decode cX9_init 13 = .ok (.aload_n 0, 1) := by decide +kernel
theorem dX9_init_14 : decode cX9_init 14 = .ok (.sipush 200, 3) := by decide +kernel
theorem dX9_init_17 : decode cX9_init 17 = .ok (.newarray .int, 2) := by decide +kernel
theorem dX9_init_19 : decode cX9_init 19 = .ok (.putfield 13, 3) := by decide +kernel
theorem dX9_init_22 : decode cX9_init 22 = .ok (.aload_n 0, 1) := by decide +kernel
theorem dX9_init_23 : decode cX9_init 23 = .ok (.sipush 200, 3) := by decide +kernel
theorem dX9_init_26 : decode cX9_init 26 = .ok (.newarray .int, 2) := by decide +kernel
theorem dX9_init_28 : decode cX9_init 28 = .ok (.putfield 16, 3) := by decide +kernel
theorem dX9_init_31 : decode cX9_init 31 = .ok (.aload_n 0, 1) := by decide +kernel
theorem dX9_init_32 : decode cX9_init 32 = .ok (.sipush 200, 3) := by decide +kernel
theorem dX9_init_35 : decode cX9_init 35 = .ok (.newarray .int, 2) := by decide +kernel
theorem dX9_init_37 : decode cX9_init 37 = .ok (.putfield 19, 3) := by decide +kernel
theorem dX9_init_40 : decode cX9_init 40 = .ok (.aload_n 0, 1) := by decide +kernel
theorem dX9_init_41 : decode cX9_init 41 = .ok (.sipush 200, 3) := by decide +kernel
theorem dX9_init_44 : decode cX9_init 44 = .ok (.newarray .int, 2) := by decide +kernel
theorem dX9_init_46 : decode cX9_init 46 = .ok (.putfield 22, 3) := by decide +kernel
theorem dX9_init_49 : decode cX9_init 49 = .ok (.aload_n 0, 1) := by decide +kernel
theorem dX9_init_50 : decode cX9_init 50 = .ok (.sipush 200, 3) := by decide +kernel
theorem dX9_init_53 : decode cX9_init 53 = .ok (.newarray .int, 2) := by decide +kernel
theorem dX9_init_55 : decode cX9_init 55 = .ok (.putfield 25, 3) := by decide +kernel
theorem dX9_init_58 : decode cX9_init 58 = .ok (.aload_n 0, 1) := by decide +kernel
theorem dX9_init_59 : decode cX9_init 59 = .ok (.sipush 200, 3) := by decide +kernel
theorem dX9_init_62 : decode cX9_init 62 = .ok (.newarray .int, 2) := by decide +kernel
theorem dX9_init_64 : decode cX9_init 64 = .ok (.putfield 28, 3) := by decide +kernel
theorem dX9_init_67 : decode cX9_init 67 = .ok (.aload_n 0, 1) := by decide +kernel
theorem dX9_init_68 : decode cX9_init 68 = .ok (.sipush 200, 3) := by decide +kernel
theorem dX9_init_71 : decode cX9_init 71 = .ok (.newarray .int, 2) := by decide +kernel
theorem dX9_init_73 : decode cX9_init 73 = .ok (.putfield 31, 3) := by decide +kernel
theorem dX9_init_76 : decode cX9_init 76 = .ok (.aload_n 0, 1) := by decide +kernel
theorem dX9_init_77 : decode cX9_init 77 = .ok (.sipush 200, 3) := by decide +kernel
theorem dX9_init_80 : decode cX9_init 80 = .ok (.newarray .int, 2) := by decide +kernel
theorem dX9_init_82 : decode cX9_init 82 = .ok (.putfield 34, 3) := by decide +kernel
theorem dX9_init_85 : decode cX9_init 85 = .ok (.aload_n 0, 1) := by decide +kernel
theorem dX9_init_86 : decode cX9_init 86 = .ok (.bipush 36, 2) := by decide +kernel
theorem dX9_init_88 : decode cX9_init 88 = .ok (.newarray .int, 2) := by decide +kernel
theorem dX9_init_90 : decode cX9_init 90 = .ok (.putfield 37, 3) := by decide +kernel
theorem dX9_init_93 : decode cX9_init 93 = .ok (.aload_n 0, 1) := by decide +kernel
theorem dX9_init_94 : decode cX9_init 94 = .ok (.bipush 36, 2) := by decide +kernel
theorem dX9_init_96 : decode cX9_init 96 = .ok (.newarray .int, 2) := by decide +kernel
theorem dX9_init_98 : decode cX9_init 98 = .ok (.putfield 40, 3) := by decide +kernel
theorem dX9_init_101 : decode cX9_init 101 = .ok (.aload_n 0, 1) := by decide +kernel
theorem dX9_init_102 : decode cX9_init 102 = .ok (.iconst 3, 1) := by decide +kernel
theorem dX9_init_103 : decode cX9_init 103 = .ok (.newarray .int, 2) := by decide +kernel
theorem dX9_init_105 : decode cX9_init 105 = .ok (.putfield 43, 3) := by decide +kernel
theorem dX9_init_108 : decode cX9_init 108 = .ok (.aload_n 0, 1) := by decide +kernel
theorem dX9_init_109 : decode cX9_init 109 = .ok (.bipush 8, 2) := by decide +kernel
theorem dX9_init_111 : decode cX9_init 111 = .ok (.newarray .int, 2) := by decide +kernel
theorem dX9_init_113 : decode cX9_init 113 = .ok (.putfield 46, 3) := by decide +kernel
theorem dX9_init_116 : decode cX9_init 116 = .ok (.aload_n 0, 1) := by decide +kernel
theorem dX9_init_117 : decode cX9_init 117 = .ok (.bipush 8, 2) := by decide +kernel
theorem dX9_init_119 : decode cX9_init 119 = .ok (.newarray .int, 2) := by decide +kernel
theorem dX9_init_121 : decode cX9_init 121 = .ok (.putfield 49, 3) := by decide +kernel
theorem dX9_init_124 : decode cX9_init 124 = .ok (.aload_n 0, 1) := by decide +kernel
theorem dX9_init_125 : decode cX9_init 125 = .ok (.bipush 8, 2) := by decide +kernel
theorem dX9_init_127 : decode cX9_init 127 = .ok (.newarray .int, 2) := by decide +kernel
theorem dX9_init_129 : decode cX9_init 129 = .ok (.putfield 52, 3) := by decide +kernel
theorem dX9_init_132 : decode cX9_init 132 = .ok (.aload_n 0, 1) := by decide +kernel
theorem dX9_init_133 : decode cX9_init 133 = .ok (.bipush 8, 2) := by decide +kernel
theorem dX9_init_135 : decode cX9_init 135 = .ok (.newarray .int, 2) := by decide +kernel
theorem dX9_init_137 : decode cX9_init 137 = .ok (.putfield 55, 3) := by decide +kernel
theorem dX9_init_140 : decode cX9_init 140 = .ok (.aload_n 0, 1) := by decide +kernel
theorem dX9_init_141 : decode cX9_init 141 = .ok (.bipush 8, 2) := by decide +kernel
theorem dX9_init_143 : decode cX9_init 143 = .ok (.newarray .int, 2) := by decide +kernel
theorem dX9_init_145 : decode cX9_init 145 = .ok (.putfield 58, 3) := by decide +kernel
theorem dX9_init_148 : decode cX9_init 148 = .ok (.aload_n 0, 1) := by decide +kernel
theorem dX9_init_149 : decode cX9_init 149 = .ok (.bipush 40, 2) := by decide +kernel
theorem dX9_init_151 : decode cX9_init 151 = .ok (.newarray .char, 2) := by decide +kernel
theorem dX9_init_153 : decode cX9_init 153 = .ok (.putfield 61, 3) := by decide +kernel
theorem dX9_init_156 : decode cX9_init 156 = .ok (.aload_n 0, 1) := by decide +kernel
theorem dX9_init_157 : decode cX9_init 157 = .ok (.bipush 50, 2) := by decide +kernel
theorem dX9_init_159 : decode cX9_init 159 = .ok (.putfield 65, 3) := by decide +kernel
theorem dX9_init_162 : decode cX9_init 162 = .ok (.aload_n 0, 1) := by decide +kernel
theorem dX9_init_163 : decode cX9_init 163 = .ok (.bipush 100, 2) := by decide +kernel
theorem dX9_init_165 : decode cX9_init 165 = .ok (.putfield 69, 3) := by decide +kernel
theorem dX9_init_168 : decode cX9_init 168 = .ok (.return_, 1) := by decide +kernel
theorem dX9_thrown_0 : decode cX9_thrown 0 = .ok (.aload_n 0, 1) := by decide +kernel
theorem dX9_thrown_1 : decode cX9_thrown 1 = .ok (.getfield 72, 3) := by decide +kernel
theorem dX9_thrown_4 : decode cX9_thrown 4 = .ok (.ireturn, 1) := by decide +kernel
theorem dX9_isIn_0 : decode cX9_isIn 0 = .ok (.iload_n 0, 1) := by decide +kernel
theorem dX9_isIn_1 : decode cX9_isIn 1 = .ok (.iload_n 1, 1) := by decide +kernel
theorem dX9_isIn_2 : decode cX9_isIn 2 = .ok (.if_icmp .lt 12, 3) := by decide +kernel
theorem dX9_isIn_5 : decode cX9_isIn 5 = .ok (.iload_n 0, 1) := by decide +kernel
theorem dX9_isIn_6 : decode cX9_isIn 6 = .ok (.iload_n 2, 1) := by decide +kernel
theorem dX9_isIn_7 : decode cX9_isIn 7 = .ok (.if_icmp .gt 7, 3) := by decide +kernel
theorem dX9_isIn_10 : decode cX9_isIn 10 = .ok (.iconst 1, 1) := by decide +kernel
theorem dX9_isIn_11 : decode cX9_isIn 11 = .ok (.goto 4, 3) := by decide +kernel
theorem dX9_isIn_14 : decode cX9_isIn 14 = .ok (.iconst 0, 1) := by decide +kernel
theorem dX9_isIn_15 : decode cX9_isIn 15 = .ok (.ireturn, 1) := by decide +kernel
theorem dX9_isThrown_0 : decode cX9_isThrown 0 = .ok (.aload_n 0, 1) := by decide +kernel
theorem dX9_isThrown_1 : decode cX9_isThrown 1 = .ok (.iload_n 1, 1) := by decide +kernel
theorem dX9_isThrown_2 : decode cX9_isThrown 2 = .ok (.ifCond .eq 7, 3) := by decide +kernel
theorem dX9_isThrown_5 : decode cX9_isThrown 5 = .ok (.iload_n 2, 1) := by decide +kernel
theorem dX9_isThrown_6 : decode cX9_isThrown 6 = .ok (.goto 4, 3) := by decide +kernel
theorem dX9_isThrown_9 : decode cX9_isThrown 9 = .ok (.iconst 0, 1) := by decide +kernel
theorem dX9_isThrown_10 : decode cX9_isThrown 10 = .ok (.putfield 72, 3) := by decide +kernel
theorem dX9_isThrown_13 : decode cX9_isThrown 13 = .ok (.iload_n 1, 1) := by decide +kernel
theorem dX9_isThrown_14 : decode cX9_isThrown 14 = .ok (.ireturn, 1) := by decide +kernel
theorem dX9_across_0 : decode cX9_across 0 = .ok (.iload_n 0, 1) := by decide +kernel
theorem dX9_across_1 : decode cX9_across 1 = .ok (.ifCond .eq 8, 3) := by decide +kernel
theorem dX9_across_4 : decode cX9_across 4 = .ok (.iload_n 0, 1) := by decide +kernel
theorem dX9_across_5 : decode cX9_across 5 = .ok (.iconst 4, 1) := by decide +kernel
theorem dX9_across_6 : decode cX9_across 6 = .ok (.if_icmp .ne 7, 3) := by decide +kernel
theorem dX9_across_9 : decode cX9_across 9 = .ok (.iconst 0, 1) := by decide +kernel
theorem dX9_across_10 : decode cX9_across 10 = .ok (.goto 13, 3) := by decide +kernel
theorem dX9_across_13 : decode cX9_across 13 = .ok (.iload_n 0, 1) := by decide +kernel
theorem dX9_across_14 : decode cX9_across 14 = .ok (.iconst 4, 1) := by decide +kernel
theorem dX9_across_15 : decode cX9_across 15 = .ok (.if_icmp .ge 7, 3) := by decide +kernel
theorem dX9_across_18 : decode cX9_across 18 = .ok (.iconst 1, 1) := by decide +kernel
theorem dX9_across_19 : decode cX9_across 19 = .ok (.goto 4, 3) := by decide +kernel
theorem dX9_across_22 : decode cX9_across 22 = .ok (.iconst (-1), 1) := by decide +kernel
theorem dX9_across_23 : decode cX9_across 23 = .ok (.ireturn, 1) := by decide +kernel
theorem dX9_up_0 : decode cX9_up 0 = .ok (.iload_n 0, 1) := by decide +kernel
theorem dX9_up_1 : decode cX9_up 1 = .ok (.iconst 2, 1) := by decide +kernel
theorem dX9_up_2 : decode cX9_up 2 = .ok (.if_icmp .eq 9, 3) := by decide +kernel
theorem dX9_up_5 : decode cX9_up 5 = .ok (.iload_n 0, 1) := by decide +kernel
theorem dX9_up_6 : decode cX9_up 6 = .ok (.bipush 6, 2) := by decide +kernel
theorem dX9_up_8 : decode cX9_up 8 = .ok (.if_icmp .ne 7, 3) := by decide +kernel
theorem dX9_up_11 : decode cX9_up 11 = .ok (.iconst 0, 1) := by decide +kernel
theorem dX9_up_12 : decode cX9_up 12 = .ok (.goto 23, 3) := by decide +kernel
theorem dX9_up_15 : decode cX9_up 15 = .ok (.iload_n 0, 1) := by decide +kernel
theorem dX9_up_16 : decode cX9_up 16 = .ok (.iconst 3, 1) := by decide +kernel
theorem dX9_up_17 : decode cX9_up 17 = .ok (.if_icmp .eq 13, 3) := by decide +kernel
theorem dX9_up_20 : decode cX9_up 20 = .ok (.iload_n 0, 1) := by decide +kernel
theorem dX9_up_21 : decode cX9_up 21 = .ok (.iconst 4, 1) := by decide +kernel
theorem dX9_up_22 : decode cX9_up 22 = .ok (.if_icmp .eq 8, 3) := by decide +kernel
theorem dX9_up_25 : decode cX9_up 25 = .ok (.iload_n 0, 1) := by decide +kernel
theorem dX9_up_26 : decode cX9_up 26 = .ok (.iconst 5, 1) := by decide +kernel
theorem dX9_up_27 : decode cX9_up 27 = .ok (.if_icmp .ne 7, 3) := by decide +kernel
theorem dX9_up_30 : decode cX9_up 30 = .ok (.iconst (-1), 1) := by decide +kernel
theorem dX9_up_31 : decode cX9_up 31 = .ok (.goto 4, 3) := by decide +kernel
theorem dX9_up_34 : decode cX9_up 34 = .ok (.iconst 1, 1) := by decide +kernel
theorem dX9_up_35 : decode cX9_up 35 = .ok (.ireturn, 1) := by decide +kernel
set_option maxRecDepth 20000 in
theorem ggX9_addGround_X9_isIn : GoodIn wsX9_addGround wsX9_isIn := goodIn_r _ [7] (by decide +kernel) (by decide +kernel)
set_option maxRecDepth 20000 in
theorem gX9_addGround_X9_isIn : GoodIn wsX9_addGround (va_wsS RX9 75 yX9_isIn wsX9_isIn) := goodIn_app (goodIn_of _ (by decide +kernel)) ggX9_addGround_X9_isIn
set_option maxRecDepth 20000 in
theorem ggX9_addGround_X9_isThrown : GoodIn wsX9_addGround wsX9_isThrown := goodIn_r _ [11, 12, 13, 14, 15, 16, 17, 18, 19, 20, 21, 22, 23, 24, 25, 26, 27, 28, 29, 30, 31, 32, 33, 34, 35, 36, 37, 38, 39, 40, 41, 42] (by decide +kernel) (by decide +kernel)
set_option maxRecDepth 20000 in
theorem gX9_addGround_X9_isThrown : GoodIn wsX9_addGround (wsV RX9 79 RX9 yX9_isThrown wsX9_isThrown) := goodIn_app (goodIn_of _ (by decide +kernel)) ggX9_addGround_X9_isThrown
theorem dX9_addGround_0 : decode cX9_addGround 0 = .ok (.aload_n 0, 1) := by decide +kernel
theorem dX9_addGround_1 : decode cX9_addGround 1 = .ok (.iload_n 1, 1) := by decide +kernel
theorem dX9_addGround_2 : decode cX9_addGround 2 = .ok (.iconst 1, 1) := by decide +kernel
theorem dX9_addGround_3 : decode cX9_addGround 3 = .ok (.bipush 50, 2) := by decide +kernel
theorem dX9_addGround_5 : decode cX9_addGround 5 = .ok (.invokestatic 75, 3) := by decide +kernel
theorem dX9_addGround_8 : decode cX9_addGround 8 = .ok (.ifCond .eq 23, 3) := by decide +kernel
theorem dX9_addGround_11 : decode cX9_addGround 11 = .ok (.iload_n 2, 1) := by decide +kernel
theorem dX9_addGround_12 : decode cX9_addGround 12 = .ok (.iconst 0, 1) := by decide +kernel
theorem dX9_addGround_13 : decode cX9_addGround 13 = .ok (.bipush 100, 2) := by decide +kernel
theorem dX9_addGround_15 : decode cX9_addGround 15 = .ok (.invokestatic 75, 3) := by decide +kernel
theorem dX9_addGround_18 : decode cX9_addGround 18 = .ok (.ifCond .eq 13, 3) := by decide +kernel
theorem dX9_addGround_21 : decode cX9_addGround 21 = .ok (.iload_n 3, 1) := by decide +kernel
theorem dX9_addGround_22 : decode cX9_addGround 22 = .ok (.iconst 0, 1) := by decide +kernel
theorem dX9_addGround_23 : decode cX9_addGround 23 = .ok (.bipush 20, 2) := by decide +kernel
theorem dX9_addGround_25 : decode cX9_addGround 25 = .ok (.invokestatic 75, 3) := by decide +kernel
theorem dX9_addGround_28 : decode cX9_addGround 28 = .ok (.ifCond .ne 7, 3) := by decide +kernel
theorem dX9_addGround_31 : decode cX9_addGround 31 = .ok (.iconst 1, 1) := by decide +kernel
theorem dX9_addGround_32 : decode cX9_addGround 32 = .ok (.goto 4, 3) := by decide +kernel
theorem dX9_addGround_35 : decode cX9_addGround 35 = .ok (.iconst 0, 1) := by decide +kernel
theorem dX9_addGround_36 : decode cX9_addGround 36 = .ok (.iconst 1, 1) := by decide +kernel
theorem dX9_addGround_37 : decode cX9_addGround 37 = .ok (.invokevirtual 79, 3) := by decide +kernel
theorem dX9_addGround_40 : decode cX9_addGround 40 = .ok (.ifCond .ne 28, 3) := by decide +kernel
theorem dX9_addGround_43 : decode cX9_addGround 43 = .ok (.aload_n 0, 1) := by decide +kernel
theorem dX9_addGround_44 : decode cX9_addGround 44 = .ok (.aload_n 0, 1) := by decide +kernel
theorem dX9_addGround_45 : decode cX9_addGround 45 = .ok (.getfield 83, 3) := by decide +kernel
theorem dX9_addGround_48 : decode cX9_addGround 48 = .ok (.iload_n 1, 1) := by decide +kernel
theorem dX9_addGround_49 : decode cX9_addGround 49 = .ok (.iadd, 1) := by decide +kernel
theorem dX9_addGround_50 : decode cX9_addGround 50 = .ok (.sipush 200, 3) := by decide +kernel
theorem dX9_addGround_53 : decode cX9_addGround 53 = .ok (.if_icmp .le 7, 3) := by decide +kernel
theorem dX9_addGround_56 : decode cX9_addGround 56 = .ok (.iconst 1, 1) := by decide +kernel
theorem dX9_addGround_57 : decode cX9_addGround 57 = .ok (.goto 4, 3) := by decide +kernel
theorem dX9_addGround_60 : decode cX9_addGround 60 = .ok (.iconst 0, 1) := by decide +kernel
theorem dX9_addGround_61 : decode cX9_addGround 61 = .ok (.iconst 2, 1) := by decide +kernel
theorem dX9_addGround_62 : decode cX9_addGround 62 = .ok (.invokevirtual 79, 3) := by decide +kernel
theorem dX9_addGround_65 : decode cX9_addGround 65 = .ok (.ifCond .eq 5, 3) := by decide +kernel
theorem dX9_addGround_68 : decode cX9_addGround 68 = .ok (.iconst 0, 1) := by decide +kernel
theorem dX9_addGround_69 : decode cX9_addGround 69 = .ok (.ireturn, 1) := by decide +kernel
theorem dX9_addGround_70 : decode cX9_addGround 70 = .ok (.iconst 0, 1) := by decide +kernel
theorem dX9_addGround_71 : decode cX9_addGround 71 = .ok (.istore 4, 2) := by decide +kernel
theorem dX9_addGround_73 : decode cX9_addGround 73 = .ok (.iload 4, 2) := by decide +kernel
theorem dX9_addGround_75 : decode cX9_addGround 75 = .ok (.iload_n 1, 1) := by decide +kernel
theorem dX9_addGround_76 : decode cX9_addGround 76 = .ok (.if_icmp .ge 39, 3) := by decide +kernel
theorem dX9_addGround_79 : decode cX9_addGround 79 = .ok (.aload_n 0, 1) := by decide +kernel
theorem dX9_addGround_80 : decode cX9_addGround 80 = .ok (.getfield 9, 3) := by decide +kernel
theorem dX9_addGround_83 : decode cX9_addGround 83 = .ok (.aload_n 0, 1) := by decide +kernel
theorem dX9_addGround_84 : decode cX9_addGround 84 = .ok (.getfield 83, 3) := by decide +kernel
theorem dX9_addGround_87 : decode cX9_addGround 87 = .ok (.iload_n 2, 1) := by decide +kernel
theorem dX9_addGround_88 : decode cX9_addGround 88 = .ok (.iastore, 1) := by decide +kernel
theorem dX9_addGround_89 : decode cX9_addGround 89 = .ok (.aload_n 0, 1) := by decide +kernel
theorem dX9_addGround_90 : decode cX9_addGround 90 = .ok (.getfield 13, 3) := by decide +kernel
theorem dX9_addGround_93 : decode cX9_addGround 93 = .ok (.aload_n 0, 1) := by decide +kernel
theorem dX9_addGround_94 : decode cX9_addGround 94 = .ok (.getfield 83, 3) := by decide +kernel
theorem dX9_addGround_97 : decode cX9_addGround 97 = .ok (.iload_n 3, 1) := by decide +kernel
theorem dX9_addGround_98 : decode cX9_addGround 98 = .ok (.iastore, 1) := by decide +kernel
theorem dX9_addGround_99 : decode cX9_addGround 99 = .ok (.aload_n 0, 1) := by decide +kernel
theorem dX9_addGround_100 : decode cX9_addGround 100 = .ok (.dup, 1) := by decide +kernel
theorem dX9_addGround_101 : decode cX9_addGround 101 = .ok (.getfield 83, 3) := by decide +kernel
theorem dX9_addGround_104 : decode cX9_addGround 104 = .ok (.iconst 1, 1) := by decide +kernel
theorem dX9_addGround_105 : decode cX9_addGround 105 = .ok (.iadd, 1) := by decide +kernel
theorem dX9_addGround_106 : decode cX9_addGround 106 = .ok (.putfield 83, 3) := by decide +kernel
theorem dX9_addGround_109 : decode cX9_addGround 109 = .ok (.iinc 4 1, 3) := by decide +kernel
theorem dX9_addGround_112 : decode cX9_addGround 112 = .ok (.goto (-39), 3) := by decide +kernel
theorem dX9_addGround_115 : decode cX9_addGround 115 = .ok (.aload_n 0, 1) := by decide +kernel
theorem dX9_addGround_116 : decode cX9_addGround 116 = .ok (.getfield 83, 3) := by decide +kernel
theorem dX9_addGround_119 : decode cX9_addGround 119 = .ok (.ireturn, 1) := by decide +kernel
set_option maxRecDepth 20000 in
theorem ggX9_addCurve_X9_isIn : GoodIn wsX9_addCurve wsX9_isIn := goodIn_r _ [7] (by decide +kernel) (by decide +kernel)
set_option maxRecDepth 20000 in
theorem gX9_addCurve_X9_isIn : GoodIn wsX9_addCurve (va_wsS RX9 75 yX9_isIn wsX9_isIn) := goodIn_app (goodIn_of _ (by decide +kernel)) ggX9_addCurve_X9_isIn
set_option maxRecDepth 20000 in
theorem ggX9_addCurve_X9_isThrown : GoodIn wsX9_addCurve wsX9_isThrown := goodIn_r _ [11, 12, 13, 14, 15, 16, 17, 18, 19, 20, 21, 22, 23, 24, 25, 26, 27, 28, 29, 30, 31, 32, 33, 34, 35, 36, 37, 38, 39, 40, 41, 42] (by decide +kernel) (by decide +kernel)
set_option maxRecDepth 20000 in
theorem gX9_addCurve_X9_isThrown : GoodIn wsX9_addCurve (wsV RX9 79 RX9 yX9_isThrown wsX9_isThrown) := goodIn_app (goodIn_of _ (by decide +kernel)) ggX9_addCurve_X9_isThrown
theorem dX9_addCurve_0 : decode cX9_addCurve 0 = .ok (.aload_n 0, 1) := by decide +kernel
theorem dX9_addCurve_1 : decode cX9_addCurve 1 = .ok (.iload_n 1, 1) := by decide +kernel
theorem dX9_addCurve_2 : decode cX9_addCurve 2 = .ok (.iconst 1, 1) := by decide +kernel
theorem dX9_addCurve_3 : decode cX9_addCurve 3 = .ok (.bipush 50, 2) := by decide +kernel
theorem dX9_addCurve_5 : decode cX9_addCurve 5 = .ok (.invokestatic 75, 3) := by decide +kernel
theorem dX9_addCurve_8 : decode cX9_addCurve 8 = .ok (.ifCond .eq 23, 3) := by decide +kernel
theorem dX9_addCurve_11 : decode cX9_addCurve 11 = .ok (.iload_n 2, 1) := by decide +kernel
theorem dX9_addCurve_12 : decode cX9_addCurve 12 = .ok (.bipush (-5), 2) := by decide +kernel
theorem dX9_addCurve_14 : decode cX9_addCurve 14 = .ok (.iconst 5, 1) := by decide +kernel
theorem dX9_addCurve_15 : decode cX9_addCurve 15 = .ok (.invokestatic 75, 3) := by decide +kernel
theorem dX9_addCurve_18 : decode cX9_addCurve 18 = .ok (.ifCond .eq 13, 3) := by decide +kernel
theorem dX9_addCurve_21 : decode cX9_addCurve 21 = .ok (.iload_n 3, 1) := by decide +kernel
theorem dX9_addCurve_22 : decode cX9_addCurve 22 = .ok (.bipush (-5), 2) := by decide +kernel
theorem dX9_addCurve_24 : decode cX9_addCurve 24 = .ok (.iconst 5, 1) := by decide +kernel
theorem dX9_addCurve_25 : decode cX9_addCurve 25 = .ok (.invokestatic 75, 3) := by decide +kernel
theorem dX9_addCurve_28 : decode cX9_addCurve 28 = .ok (.ifCond .ne 7, 3) := by decide +kernel
theorem dX9_addCurve_31 : decode cX9_addCurve 31 = .ok (.iconst 1, 1) := by decide +kernel
theorem dX9_addCurve_32 : decode cX9_addCurve 32 = .ok (.goto 4, 3) := by decide +kernel
theorem dX9_addCurve_35 : decode cX9_addCurve 35 = .ok (.iconst 0, 1) := by decide +kernel
theorem dX9_addCurve_36 : decode cX9_addCurve 36 = .ok (.iconst 1, 1) := by decide +kernel
theorem dX9_addCurve_37 : decode cX9_addCurve 37 = .ok (.invokevirtual 79, 3) := by decide +kernel
theorem dX9_addCurve_40 : decode cX9_addCurve 40 = .ok (.ifCond .ne 28, 3) := by decide +kernel
theorem dX9_addCurve_43 : decode cX9_addCurve 43 = .ok (.aload_n 0, 1) := by decide +kernel
theorem dX9_addCurve_44 : decode cX9_addCurve 44 = .ok (.aload_n 0, 1) := by decide +kernel
theorem dX9_addCurve_45 : decode cX9_addCurve 45 = .ok (.getfield 86, 3) := by decide +kernel
theorem dX9_addCurve_48 : decode cX9_addCurve 48 = .ok (.iload_n 1, 1) := by decide +kernel
theorem dX9_addCurve_49 : decode cX9_addCurve 49 = .ok (.iadd, 1) := by decide +kernel
theorem dX9_addCurve_50 : decode cX9_addCurve 50 = .ok (.sipush 200, 3) := by decide +kernel
theorem dX9_addCurve_53 : decode cX9_addCurve 53 = .ok (.if_icmp .le 7, 3) := by decide +kernel
theorem dX9_addCurve_56 : decode cX9_addCurve 56 = .ok (.iconst 1, 1) := by decide +kernel
theorem dX9_addCurve_57 : decode cX9_addCurve 57 = .ok (.goto 4, 3) := by decide +kernel
theorem dX9_addCurve_60 : decode cX9_addCurve 60 = .ok (.iconst 0, 1) := by decide +kernel
theorem dX9_addCurve_61 : decode cX9_addCurve 61 = .ok (.iconst 2, 1) := by decide +kernel
theorem dX9_addCurve_62 : decode cX9_addCurve 62 = .ok (.invokevirtual 79, 3) := by decide +kernel
theorem dX9_addCurve_65 : decode cX9_addCurve 65 = .ok (.ifCond .eq 5, 3) := by decide +kernel
theorem dX9_addCurve_68 : decode cX9_addCurve 68 = .ok (.iconst 0, 1) := by decide +kernel
theorem dX9_addCurve_69 : decode cX9_addCurve 69 = .ok (.ireturn, 1) := by decide +kernel
theorem dX9_addCurve_70 : decode cX9_addCurve 70 = .ok (.iconst 0, 1) := by decide +kernel
theorem dX9_addCurve_71 : decode cX9_addCurve 71 = .ok (.istore 4, 2) := by decide +kernel
theorem dX9_addCurve_73 : decode cX9_addCurve 73 = .ok (.iload 4, 2) := by decide +kernel
theorem dX9_addCurve_75 : decode cX9_addCurve 75 = .ok (.iload_n 1, 1) := by decide +kernel
theorem dX9_addCurve_76 : decode cX9_addCurve 76 = .ok (.if_icmp .ge 39, 3) := by decide +kernel
theorem dX9_addCurve_79 : decode cX9_addCurve 79 = .ok (.aload_n 0, 1) := by decide +kernel
theorem dX9_addCurve_80 : decode cX9_addCurve 80 = .ok (.getfield 16, 3) := by decide +kernel
theorem dX9_addCurve_83 : decode cX9_addCurve 83 = .ok (.aload_n 0, 1) := by decide +kernel
theorem dX9_addCurve_84 : decode cX9_addCurve 84 = .ok (.getfield 86, 3) := by decide +kernel
theorem dX9_addCurve_87 : decode cX9_addCurve 87 = .ok (.iload_n 2, 1) := by decide +kernel
theorem dX9_addCurve_88 : decode cX9_addCurve 88 = .ok (.iastore, 1) := by decide +kernel
theorem dX9_addCurve_89 : decode cX9_addCurve 89 = .ok (.aload_n 0, 1) := by decide +kernel
theorem dX9_addCurve_90 : decode cX9_addCurve 90 = .ok (.getfield 19, 3) := by decide +kernel
theorem dX9_addCurve_93 : decode cX9_addCurve 93 = .ok (.aload_n 0, 1) := by decide +kernel
theorem dX9_addCurve_94 : decode cX9_addCurve 94 = .ok (.getfield 86, 3) := by decide +kernel
theorem dX9_addCurve_97 : decode cX9_addCurve 97 = .ok (.iload_n 3, 1) := by decide +kernel
theorem dX9_addCurve_98 : decode cX9_addCurve 98 = .ok (.iastore, 1) := by decide +kernel
theorem dX9_addCurve_99 : decode cX9_addCurve 99 = .ok (.aload_n 0, 1) := by decide +kernel
theorem dX9_addCurve_100 : decode cX9_addCurve 100 = .ok (.dup, 1) := by decide +kernel
theorem dX9_addCurve_101 : decode cX9_addCurve 101 = .ok (.getfield 86, 3) := by decide +kernel
theorem dX9_addCurve_104 : decode cX9_addCurve 104 = .ok (.iconst 1, 1) := by decide +kernel
theorem dX9_addCurve_105 : decode cX9_addCurve 105 = .ok (.iadd, 1) := by decide +kernel
theorem dX9_addCurve_106 : decode cX9_addCurve 106 = .ok (.putfield 86, 3) := by decide +kernel
theorem dX9_addCurve_109 : decode cX9_addCurve 109 = .ok (.iinc 4 1, 3) := by decide +kernel
theorem dX9_addCurve_112 : decode cX9_addCurve 112 = .ok (.goto (-39), 3) := by decide +kernel
theorem dX9_addCurve_115 : decode cX9_addCurve 115 = .ok (.aload_n 0, 1) := by decide +kernel
theorem dX9_addCurve_116 : decode cX9_addCurve 116 = .ok (.getfield 86, 3) := by decide +kernel
theorem dX9_addCurve_119 : decode cX9_addCurve 119 = .ok (.ireturn, 1) := by decide +kernel
set_option maxRecDepth 20000 in
theorem ggX9_isNoGround_X9_isIn : GoodIn wsX9_isNoGround wsX9_isIn := goodIn_r _ [5] (by decide +kernel) (by decide +kernel)
set_option maxRecDepth 20000 in
theorem gX9_isNoGround_X9_isIn : GoodIn wsX9_isNoGround (va_wsS RX9 75 yX9_isIn wsX9_isIn) := goodIn_app (goodIn_of _ (by decide +kernel)) ggX9_isNoGround_X9_isIn
set_option maxRecDepth 20000 in
theorem ggX9_isNoGround_X9_isThrown : GoodIn wsX9_isNoGround wsX9_isThrown := goodIn_r _ [9, 10, 11, 12, 13, 14, 15, 16, 17, 18, 19, 20, 21, 22, 23, 24, 25, 26, 27, 28, 29, 30, 31, 32, 33, 34, 35, 36, 37, 38, 39, 40] (by decide +kernel) (by decide +kernel)
set_option maxRecDepth 20000 in
theorem gX9_isNoGround_X9_isThrown : GoodIn wsX9_isNoGround (wsV RX9 79 RX9 yX9_isThrown wsX9_isThrown) := goodIn_app (goodIn_of _ (by decide +kernel)) ggX9_isNoGround_X9_isThrown
theorem dX9_isNoGround_0 : decode cX9_isNoGround 0 = .ok (.aload_n 0, 1) := by decide +kernel
theorem dX9_isNoGround_1 : decode cX9_isNoGround 1 = .ok (.iload_n 1, 1) := by decide +kernel
theorem dX9_isNoGround_2 : decode cX9_isNoGround 2 = .ok (.iconst 0, 1) := by decide +kernel
theorem dX9_isNoGround_3 : decode cX9_isNoGround 3 = .ok (.aload_n 0, 1) := by decide +kernel
theorem dX9_isNoGround_4 : decode cX9_isNoGround 4 = .ok (.getfield 83, 3) := by decide +kernel
theorem dX9_isNoGround_7 : decode cX9_isNoGround 7 = .ok (.iconst 1, 1) := by decide +kernel
theorem dX9_isNoGround_8 : decode cX9_isNoGround 8 = .ok (.isub, 1) := by decide +kernel
theorem dX9_isNoGround_9 : decode cX9_isNoGround 9 = .ok (.invokestatic 75, 3) := by decide +kernel
theorem dX9_isNoGround_12 : decode cX9_isNoGround 12 = .ok (.ifCond .ne 7, 3) := by decide +kernel
theorem dX9_isNoGround_15 : decode cX9_isNoGround 15 = .ok (.iconst 1, 1) := by decide +kernel
theorem dX9_isNoGround_16 : decode cX9_isNoGround 16 = .ok (.goto 4, 3) := by decide +kernel
theorem dX9_isNoGround_19 : decode cX9_isNoGround 19 = .ok (.iconst 0, 1) := by decide +kernel
theorem dX9_isNoGround_20 : decode cX9_isNoGround 20 = .ok (.iconst 1, 1) := by decide +kernel
theorem dX9_isNoGround_21 : decode cX9_isNoGround 21 = .ok (.invokevirtual 79, 3) := by decide +kernel
theorem dX9_isNoGround_24 : decode cX9_isNoGround 24 = .ok (.ireturn, 1) := by decide +kernel
set_option maxRecDepth 20000 in
theorem ggX9_needAt_X9_isNoGround : GoodIn wsX9_needAt wsX9_isNoGround := goodIn_r _ [6, 7, 8, 9, 5, 10, 11, 12, 13, 14, 15, 16, 17, 18, 19, 20, 21, 22, 23, 24, 25, 26, 27, 28, 29, 30, 31, 32, 33, 34, 35, 36, 37, 38, 39, 40, 41, 42, 43, 44, 45] (by decide +kernel) (by decide +kernel)
set_option maxRecDepth 20000 in
theorem gX9_needAt_X9_isNoGround : GoodIn wsX9_needAt (wsV RX9 89 RX9 yX9_isNoGround wsX9_isNoGround) := goodIn_app (goodIn_of _ (by decide +kernel)) ggX9_needAt_X9_isNoGround
theorem dX9_needAt_0 : decode cX9_needAt 0 = .ok (.aload_n 0, 1) := by decide +kernel
theorem dX9_needAt_1 : decode cX9_needAt 1 = .ok (.iload_n 1, 1) := by decide +kernel
theorem dX9_needAt_2 : decode cX9_needAt 2 = .ok (.invokevirtual 89, 3) := by decide +kernel
theorem dX9_needAt_5 : decode cX9_needAt 5 = .ok (.ifCond .eq 7, 3) := by decide +kernel
theorem dX9_needAt_8 : decode cX9_needAt 8 = .ok (.iconst 0, 1) := by decide +kernel
theorem dX9_needAt_9 : decode cX9_needAt 9 = .ok (.goto 9, 3) := by decide +kernel
theorem dX9_needAt_12 : decode cX9_needAt 12 = .ok (.aload_n 0, 1) := by decide +kernel
theorem dX9_needAt_13 : decode cX9_needAt 13 = .ok (.getfield 9, 3) := by decide +kernel
theorem dX9_needAt_16 : decode cX9_needAt 16 = .ok (.iload_n 1, 1) := by decide +kernel
theorem dX9_needAt_17 : decode cX9_needAt 17 = .ok (.iaload, 1) := by decide +kernel
theorem dX9_needAt_18 : decode cX9_needAt 18 = .ok (.ireturn, 1) := by decide +kernel
set_option maxRecDepth 20000 in
theorem ggX9_weaknessAt_X9_isNoGround : GoodIn wsX9_weaknessAt wsX9_isNoGround := goodIn_r _ [6, 7, 8, 9, 5, 10, 11, 12, 13, 14, 15, 16, 17, 18, 19, 20, 21, 22, 23, 24, 25, 26, 27, 28, 29, 30, 31, 32, 33, 34, 35, 36, 37, 38, 39, 40, 41, 42, 43, 44, 45] (by decide +kernel) (by decide +kernel)
set_option maxRecDepth 20000 in
theorem gX9_weaknessAt_X9_isNoGround : GoodIn wsX9_weaknessAt (wsV RX9 89 RX9 yX9_isNoGround wsX9_isNoGround) := goodIn_app (goodIn_of _ (by decide +kernel)) ggX9_weaknessAt_X9_isNoGround
theorem dX9_weaknessAt_0 : decode cX9_weaknessAt 0 = .ok (.aload_n 0, 1) := by decide +kernel
theorem dX9_weaknessAt_1 : decode cX9_weaknessAt 1 = .ok (.iload_n 1, 1) := by decide +kernel
theorem dX9_weaknessAt_2 : decode cX9_weaknessAt 2 = .ok (.invokevirtual 89, 3) := by decide +kernel
theorem dX9_weaknessAt_5 : decode cX9_weaknessAt 5 = .ok (.ifCond .eq 7, 3) := by decide +kernel
theorem dX9_weaknessAt_8 : decode cX9_weaknessAt 8 = .ok (.iconst 0, 1) := by decide +kernel
theorem dX9_weaknessAt_9 : decode cX9_weaknessAt 9 = .ok (.goto 9, 3) := by decide +kernel
theorem dX9_weaknessAt_12 : decode cX9_weaknessAt 12 = .ok (.aload_n 0, 1) := by decide +kernel
theorem dX9_weaknessAt_13 : decode cX9_weaknessAt 13 = .ok (.getfield 13, 3) := by decide +kernel
theorem dX9_weaknessAt_16 : decode cX9_weaknessAt 16 = .ok (.iload_n 1, 1) := by decide +kernel
theorem dX9_weaknessAt_17 : decode cX9_weaknessAt 17 = .ok (.iaload, 1) := by decide +kernel
theorem dX9_weaknessAt_18 : decode cX9_weaknessAt 18 = .ok (.ireturn, 1) := by decide +kernel
set_option maxRecDepth 20000 in
theorem ggX9_addHouse_X9_isIn : GoodIn wsX9_addHouse wsX9_isIn := goodIn_r _ [10] (by decide +kernel) (by decide +kernel)
set_option maxRecDepth 20000 in
theorem gX9_addHouse_X9_isIn : GoodIn wsX9_addHouse (va_wsS RX9 75 yX9_isIn wsX9_isIn) := goodIn_app (goodIn_of _ (by decide +kernel)) ggX9_addHouse_X9_isIn
set_option maxRecDepth 20000 in
theorem ggX9_addHouse_X9_isThrown : GoodIn wsX9_addHouse wsX9_isThrown := goodIn_r _ [14, 15, 16, 17, 18, 19, 20, 21, 22, 23, 24, 25, 26, 27, 28, 29, 30, 31, 32, 33, 34, 35, 36, 37, 38, 39, 40, 41, 42, 43, 44, 45] (by decide +kernel) (by decide +kernel)
set_option maxRecDepth 20000 in
theorem gX9_addHouse_X9_isThrown : GoodIn wsX9_addHouse (wsV RX9 79 RX9 yX9_isThrown wsX9_isThrown) := goodIn_app (goodIn_of _ (by decide +kernel)) ggX9_addHouse_X9_isThrown
theorem dX9_addHouse_0 : decode cX9_addHouse 0 = .ok (.aload_n 0, 1) := by decide +kernel
theorem dX9_addHouse_1 : decode cX9_addHouse 1 = .ok (.iload_n 1, 1) := by decide +kernel
theorem dX9_addHouse_2 : decode cX9_addHouse 2 = .ok (.iconst 0, 1) := by decide +kernel
theorem dX9_addHouse_3 : decode cX9_addHouse 3 = .ok (.aload_n 0, 1) := by decide +kernel
theorem dX9_addHouse_4 : decode cX9_addHouse 4 = .ok (.getfield 83, 3) := by decide +kernel
theorem dX9_addHouse_7 : decode cX9_addHouse 7 = .ok (.iconst 1, 1) := by decide +kernel
theorem dX9_addHouse_8 : decode cX9_addHouse 8 = .ok (.isub, 1) := by decide +kernel
theorem dX9_addHouse_9 : decode cX9_addHouse 9 = .ok (.invokestatic 75, 3) := by decide +kernel
theorem dX9_addHouse_12 : decode cX9_addHouse 12 = .ok (.ifCond .eq 17, 3) := by decide +kernel
theorem dX9_addHouse_15 : decode cX9_addHouse 15 = .ok (.iload_n 2, 1) := by decide +kernel
theorem dX9_addHouse_16 : decode cX9_addHouse 16 = .ok (.iconst 0, 1) := by decide +kernel
theorem dX9_addHouse_17 : decode cX9_addHouse 17 = .ok (.aload_n 0, 1) := by decide +kernel
theorem dX9_addHouse_18 : decode cX9_addHouse 18 = .ok (.getfield 83, 3) := by decide +kernel
theorem dX9_addHouse_21 : decode cX9_addHouse 21 = .ok (.iconst 1, 1) := by decide +kernel
theorem dX9_addHouse_22 : decode cX9_addHouse 22 = .ok (.isub, 1) := by decide +kernel
theorem dX9_addHouse_23 : decode cX9_addHouse 23 = .ok (.invokestatic 75, 3) := by decide +kernel
theorem dX9_addHouse_26 : decode cX9_addHouse 26 = .ok (.ifCond .ne 7, 3) := by decide +kernel
theorem dX9_addHouse_29 : decode cX9_addHouse 29 = .ok (.iconst 1, 1) := by decide +kernel
theorem dX9_addHouse_30 : decode cX9_addHouse 30 = .ok (.goto 4, 3) := by decide +kernel
theorem dX9_addHouse_33 : decode cX9_addHouse 33 = .ok (.iconst 0, 1) := by decide +kernel
theorem dX9_addHouse_34 : decode cX9_addHouse 34 = .ok (.iconst 1, 1) := by decide +kernel
theorem dX9_addHouse_35 : decode cX9_addHouse 35 = .ok (.invokevirtual 79, 3) := by decide +kernel
theorem dX9_addHouse_38 : decode cX9_addHouse 38 = .ok (.ifCond .ne 64, 3) := by decide +kernel
theorem dX9_addHouse_41 : decode cX9_addHouse 41 = .ok (.aload_n 0, 1) := by decide +kernel
theorem dX9_addHouse_42 : decode cX9_addHouse 42 = .ok (.iload_n 2, 1) := by decide +kernel
theorem dX9_addHouse_43 : decode cX9_addHouse 43 = .ok (.iload_n 1, 1) := by decide +kernel
theorem dX9_addHouse_44 : decode cX9_addHouse 44 = .ok (.if_icmp .lt 24, 3) := by decide +kernel
theorem dX9_addHouse_47 : decode cX9_addHouse 47 = .ok (.iload_n 3, 1) := by decide +kernel
theorem dX9_addHouse_48 : decode cX9_addHouse 48 = .ok (.iconst 0, 1) := by decide +kernel
theorem dX9_addHouse_49 : decode cX9_addHouse 49 = .ok (.bipush 100, 2) := by decide +kernel
theorem dX9_addHouse_51 : decode cX9_addHouse 51 = .ok (.invokestatic 75, 3) := by decide +kernel
theorem dX9_addHouse_54 : decode cX9_addHouse 54 = .ok (.ifCond .eq 14, 3) := by decide +kernel
theorem dX9_addHouse_57 : decode cX9_addHouse 57 = .ok (.iload 4, 2) := by decide +kernel
theorem dX9_addHouse_59 : decode cX9_addHouse 59 = .ok (.iconst 1, 1) := by decide +kernel
theorem dX9_addHouse_60 : decode cX9_addHouse 60 = .ok (.bipush 50, 2) := by decide +kernel
theorem dX9_addHouse_62 : decode cX9_addHouse 62 = .ok (.invokestatic 75, 3) := by decide +kernel
theorem dX9_addHouse_65 : decode cX9_addHouse 65 = .ok (.ifCond .ne 7, 3) := by decide +kernel
theorem dX9_addHouse_68 : decode cX9_addHouse 68 = .ok (.iconst 1, 1) := by decide +kernel
theorem dX9_addHouse_69 : decode cX9_addHouse 69 = .ok (.goto 4, 3) := by decide +kernel
theorem dX9_addHouse_72 : decode cX9_addHouse 72 = .ok (.iconst 0, 1) := by decide +kernel
theorem dX9_addHouse_73 : decode cX9_addHouse 73 = .ok (.iconst 2, 1) := by decide +kernel
theorem dX9_addHouse_74 : decode cX9_addHouse 74 = .ok (.invokevirtual 79, 3) := by decide +kernel
theorem dX9_addHouse_77 : decode cX9_addHouse 77 = .ok (.ifCond .ne 25, 3) := by decide +kernel
theorem dX9_addHouse_80 : decode cX9_addHouse 80 = .ok (.aload_n 0, 1) := by decide +kernel
theorem dX9_addHouse_81 : decode cX9_addHouse 81 = .ok (.aload_n 0, 1) := by decide +kernel
theorem dX9_addHouse_82 : decode cX9_addHouse 82 = .ok (.getfield 93, 3) := by decide +kernel
theorem dX9_addHouse_85 : decode cX9_addHouse 85 = .ok (.bipush 8, 2) := by decide +kernel
theorem dX9_addHouse_87 : decode cX9_addHouse 87 = .ok (.if_icmp .ne 7, 3) := by decide +kernel
theorem dX9_addHouse_90 : decode cX9_addHouse 90 = .ok (.iconst 1, 1) := by decide +kernel
theorem dX9_addHouse_91 : decode cX9_addHouse 91 = .ok (.goto 4, 3) := by decide +kernel
theorem dX9_addHouse_94 : decode cX9_addHouse 94 = .ok (.iconst 0, 1) := by decide +kernel
theorem dX9_addHouse_95 : decode cX9_addHouse 95 = .ok (.iconst 3, 1) := by decide +kernel
theorem dX9_addHouse_96 : decode cX9_addHouse 96 = .ok (.invokevirtual 79, 3) := by decide +kernel
theorem dX9_addHouse_99 : decode cX9_addHouse 99 = .ok (.ifCond .eq 5, 3) := by decide +kernel
theorem dX9_addHouse_102 : decode cX9_addHouse 102 = .ok (.iconst 0, 1) := by decide +kernel
theorem dX9_addHouse_103 : decode cX9_addHouse 103 = .ok (.ireturn, 1) := by decide +kernel
theorem dX9_addHouse_104 : decode cX9_addHouse 104 = .ok (.aload_n 0, 1) := by decide +kernel
theorem dX9_addHouse_105 : decode cX9_addHouse 105 = .ok (.getfield 46, 3) := by decide +kernel
theorem dX9_addHouse_108 : decode cX9_addHouse 108 = .ok (.aload_n 0, 1) := by decide +kernel
theorem dX9_addHouse_109 : decode cX9_addHouse 109 = .ok (.getfield 93, 3) := by decide +kernel
theorem dX9_addHouse_112 : decode cX9_addHouse 112 = .ok (.iload_n 1, 1) := by decide +kernel
theorem dX9_addHouse_113 : decode cX9_addHouse 113 = .ok (.iastore, 1) := by decide +kernel
theorem dX9_addHouse_114 : decode cX9_addHouse 114 = .ok (.aload_n 0, 1) := by decide +kernel
theorem dX9_addHouse_115 : decode cX9_addHouse 115 = .ok (.getfield 49, 3) := by decide +kernel
theorem dX9_addHouse_118 : decode cX9_addHouse 118 = .ok (.aload_n 0, 1) := by decide +kernel
theorem dX9_addHouse_119 : decode cX9_addHouse 119 = .ok (.getfield 93, 3) := by decide +kernel
theorem dX9_addHouse_122 : decode cX9_addHouse 122 = .ok (.iload_n 2, 1) := by decide +kernel
theorem dX9_addHouse_123 : decode cX9_addHouse 123 = .ok (.iastore, 1) := by decide +kernel
theorem dX9_addHouse_124 : decode cX9_addHouse 124 = .ok (.aload_n 0, 1) := by decide +kernel
theorem dX9_addHouse_125 : decode cX9_addHouse 125 = .ok (.getfield 52, 3) := by decide +kernel
theorem dX9_addHouse_128 : decode cX9_addHouse 128 = .ok (.aload_n 0, 1) := by decide +kernel
theorem dX9_addHouse_129 : decode cX9_addHouse 129 = .ok (.getfield 93, 3) := by decide +kernel
theorem dX9_addHouse_132 : decode cX9_addHouse 132 = .ok (.iload_n 3, 1) := by decide +kernel
theorem dX9_addHouse_133 : decode cX9_addHouse 133 = .ok (.iastore, 1) := by decide +kernel
theorem dX9_addHouse_134 : decode cX9_addHouse 134 = .ok (.aload_n 0, 1) := by decide +kernel
theorem dX9_addHouse_135 : decode cX9_addHouse 135 = .ok (.getfield 55, 3) := by decide +kernel
theorem dX9_addHouse_138 : decode cX9_addHouse 138 = .ok (.aload_n 0, 1) := by decide +kernel
theorem dX9_addHouse_139 : decode cX9_addHouse 139 = .ok (.getfield 93, 3) := by decide +kernel
theorem dX9_addHouse_142 : decode cX9_addHouse 142 = .ok (.iload 4, 2) := by decide +kernel
theorem dX9_addHouse_144 : decode cX9_addHouse 144 = .ok (.iastore, 1) := by decide +kernel
theorem dX9_addHouse_145 : decode cX9_addHouse 145 = .ok (.aload_n 0, 1) := by decide +kernel
theorem dX9_addHouse_146 : decode cX9_addHouse 146 = .ok (.dup, 1) := by decide +kernel
theorem dX9_addHouse_147 : decode cX9_addHouse 147 = .ok (.getfield 93, 3) := by decide +kernel
theorem dX9_addHouse_150 : decode cX9_addHouse 150 = .ok (.iconst 1, 1) := by decide +kernel
theorem dX9_addHouse_151 : decode cX9_addHouse 151 = .ok (.iadd, 1) := by decide +kernel
theorem dX9_addHouse_152 : decode cX9_addHouse 152 = .ok (.putfield 93, 3) := by decide +kernel
theorem dX9_addHouse_155 : decode cX9_addHouse 155 = .ok (.aload_n 0, 1) := by decide +kernel
theorem dX9_addHouse_156 : decode cX9_addHouse 156 = .ok (.getfield 93, 3) := by decide +kernel
theorem dX9_addHouse_159 : decode cX9_addHouse 159 = .ok (.iconst 1, 1) := by decide +kernel
theorem dX9_addHouse_160 : decode cX9_addHouse 160 = .ok (.isub, 1) := by decide +kernel
theorem dX9_addHouse_161 : decode cX9_addHouse 161 = .ok (.ireturn, 1) := by decide +kernel
set_option maxRecDepth 20000 in
theorem ggX9_isNoStack_X9_isIn : GoodIn wsX9_isNoStack wsX9_isIn := goodIn_r _ [4] (by decide +kernel) (by decide +kernel)
set_option maxRecDepth 20000 in
theorem gX9_isNoStack_X9_isIn : GoodIn wsX9_isNoStack (va_wsS RX9 75 yX9_isIn wsX9_isIn) := goodIn_app (goodIn_of _ (by decide +kernel)) ggX9_isNoStack_X9_isIn
set_option maxRecDepth 20000 in
theorem ggX9_isNoStack_X9_isThrown : GoodIn wsX9_isNoStack wsX9_isThrown := goodIn_r _ [8, 9, 10, 11, 12, 13, 14, 15, 16, 17, 18, 19, 20, 21, 22, 23, 24, 25, 26, 27, 28, 29, 30, 31, 32, 33, 34, 35, 36, 37, 38, 39] (by decide +kernel) (by decide +kernel)
set_option maxRecDepth 20000 in
theorem gX9_isNoStack_X9_isThrown : GoodIn wsX9_isNoStack (wsV RX9 79 RX9 yX9_isThrown wsX9_isThrown) := goodIn_app (goodIn_of _ (by decide +kernel)) ggX9_isNoStack_X9_isThrown
theorem dX9_isNoStack_0 : decode cX9_isNoStack 0 = .ok (.aload_n 0, 1) := by decide +kernel
theorem dX9_isNoStack_1 : decode cX9_isNoStack 1 = .ok (.iload_n 1, 1) := by decide +kernel
theorem dX9_isNoStack_2 : decode cX9_isNoStack 2 = .ok (.iconst 0, 1) := by decide +kernel
theorem dX9_isNoStack_3 : decode cX9_isNoStack 3 = .ok (.iconst 2, 1) := by decide +kernel
theorem dX9_isNoStack_4 : decode cX9_isNoStack 4 = .ok (.invokestatic 75, 3) := by decide +kernel
theorem dX9_isNoStack_7 : decode cX9_isNoStack 7 = .ok (.ifCond .ne 7, 3) := by decide +kernel
theorem dX9_isNoStack_10 : decode cX9_isNoStack 10 = .ok (.iconst 1, 1) := by decide +kernel
theorem dX9_isNoStack_11 : decode cX9_isNoStack 11 = .ok (.goto 4, 3) := by decide +kernel
theorem dX9_isNoStack_14 : decode cX9_isNoStack 14 = .ok (.iconst 0, 1) := by decide +kernel
theorem dX9_isNoStack_15 : decode cX9_isNoStack 15 = .ok (.iconst 1, 1) := by decide +kernel
theorem dX9_isNoStack_16 : decode cX9_isNoStack 16 = .ok (.invokevirtual 79, 3) := by decide +kernel
theorem dX9_isNoStack_19 : decode cX9_isNoStack 19 = .ok (.ireturn, 1) := by decide +kernel
theorem dX9_top_0 : decode cX9_top 0 = .ok (.bipush 12, 2) := by decide +kernel
theorem dX9_top_2 : decode cX9_top 2 = .ok (.iload_n 1, 1) := by decide +kernel
theorem dX9_top_3 : decode cX9_top 3 = .ok (.imul, 1) := by decide +kernel
theorem dX9_top_4 : decode cX9_top 4 = .ok (.aload_n 0, 1) := by decide +kernel
theorem dX9_top_5 : decode cX9_top 5 = .ok (.getfield 43, 3) := by decide +kernel
theorem dX9_top_8 : decode cX9_top 8 = .ok (.iload_n 1, 1) := by decide +kernel
theorem dX9_top_9 : decode cX9_top 9 = .ok (.iaload, 1) := by decide +kernel
theorem dX9_top_10 : decode cX9_top 10 = .ok (.iadd, 1) := by decide +kernel
theorem dX9_top_11 : decode cX9_top 11 = .ok (.iconst 1, 1) := by decide +kernel
theorem dX9_top_12 : decode cX9_top 12 = .ok (.isub, 1) := by decide +kernel
theorem dX9_top_13 : decode cX9_top 13 = .ok (.ireturn, 1) := by decide +kernel
set_option maxRecDepth 20000 in
theorem ggX9_cast_X9_isNoStack : GoodIn wsX9_cast wsX9_isNoStack := goodIn_r _ [9, 10, 11, 8, 12, 13, 14, 15, 16, 17, 22, 23, 24, 25, 26, 27, 28, 29, 30, 31, 32, 33, 34, 35, 36, 37, 38, 39, 40, 41, 42, 43, 44, 45, 46, 47, 48, 49, 50, 51] (by decide +kernel) (by decide +kernel)
set_option maxRecDepth 20000 in
theorem gX9_cast_X9_isNoStack : GoodIn wsX9_cast (wsV RX9 96 RX9 yX9_isNoStack wsX9_isNoStack) := goodIn_app (goodIn_of _ (by decide +kernel)) ggX9_cast_X9_isNoStack
set_option maxRecDepth 20000 in
theorem ggX9_cast_X9_isIn : GoodIn wsX9_cast wsX9_isIn := goodIn_r _ [12] (by decide +kernel) (by decide +kernel)
set_option maxRecDepth 20000 in
theorem gX9_cast_X9_isIn : GoodIn wsX9_cast (va_wsS RX9 75 yX9_isIn wsX9_isIn) := goodIn_app (goodIn_of _ (by decide +kernel)) ggX9_cast_X9_isIn
set_option maxRecDepth 20000 in
theorem ggX9_cast_X9_isThrown : GoodIn wsX9_cast wsX9_isThrown := goodIn_r _ [16, 17, 22, 23, 24, 25, 26, 27, 28, 29, 30, 31, 32, 33, 34, 35, 36, 37, 38, 39, 40, 41, 42, 43, 44, 45, 46, 47, 48, 49, 50, 51] (by decide +kernel) (by decide +kernel)
set_option maxRecDepth 20000 in
theorem gX9_cast_X9_isThrown : GoodIn wsX9_cast (wsV RX9 79 RX9 yX9_isThrown wsX9_isThrown) := goodIn_app (goodIn_of _ (by decide +kernel)) ggX9_cast_X9_isThrown
set_option maxRecDepth 20000 in
theorem ggX9_cast_X9_top : GoodIn wsX9_cast wsX9_top := goodIn_ca (goodIn_r _ [21, 1, 22, 23, 24, 25, 26, 27, 28, 29, 30, 31, 32, 33, 34, 35, 36, 37, 38, 39, 40, 41, 42, 43, 44, 45, 46, 47, 48, 49, 50, 51] (by decide +kernel) (by decide +kernel)) (goodIn_sub (fun _ h => List.mem_cons_of_mem _ (List.mem_append_right _ h)) (by decide +kernel))
set_option maxRecDepth 20000 in
theorem gX9_cast_X9_top : GoodIn wsX9_cast (wsV RX9 99 RX9 yX9_top wsX9_top) := goodIn_app (goodIn_of _ (by decide +kernel)) ggX9_cast_X9_top
theorem dX9_cast_0 : decode cX9_cast 0 = .ok (.aload_n 0, 1) := by decide +kernel
theorem dX9_cast_1 : decode cX9_cast 1 = .ok (.iload_n 1, 1) := by decide +kernel
theorem dX9_cast_2 : decode cX9_cast 2 = .ok (.invokevirtual 96, 3) := by decide +kernel
theorem dX9_cast_5 : decode cX9_cast 5 = .ok (.ifCond .ne 50, 3) := by decide +kernel
theorem dX9_cast_8 : decode cX9_cast 8 = .ok (.aload_n 0, 1) := by decide +kernel
theorem dX9_cast_9 : decode cX9_cast 9 = .ok (.iload_n 2, 1) := by decide +kernel
theorem dX9_cast_10 : decode cX9_cast 10 = .ok (.iconst 0, 1) := by decide +kernel
theorem dX9_cast_11 : decode cX9_cast 11 = .ok (.bipush 9, 2) := by decide +kernel
theorem dX9_cast_13 : decode cX9_cast 13 = .ok (.invokestatic 75, 3) := by decide +kernel
theorem dX9_cast_16 : decode cX9_cast 16 = .ok (.ifCond .ne 7, 3) := by decide +kernel
theorem dX9_cast_19 : decode cX9_cast 19 = .ok (.iconst 1, 1) := by decide +kernel
theorem dX9_cast_20 : decode cX9_cast 20 = .ok (.goto 4, 3) := by decide +kernel
theorem dX9_cast_23 : decode cX9_cast 23 = .ok (.iconst 0, 1) := by decide +kernel
theorem dX9_cast_24 : decode cX9_cast 24 = .ok (.iconst 2, 1) := by decide +kernel
theorem dX9_cast_25 : decode cX9_cast 25 = .ok (.invokevirtual 79, 3) := by decide +kernel
theorem dX9_cast_28 : decode cX9_cast 28 = .ok (.ifCond .ne 27, 3) := by decide +kernel
theorem dX9_cast_31 : decode cX9_cast 31 = .ok (.aload_n 0, 1) := by decide +kernel
theorem dX9_cast_32 : decode cX9_cast 32 = .ok (.aload_n 0, 1) := by decide +kernel
theorem dX9_cast_33 : decode cX9_cast 33 = .ok (.getfield 43, 3) := by decide +kernel
theorem dX9_cast_36 : decode cX9_cast 36 = .ok (.iload_n 1, 1) := by decide +kernel
theorem dX9_cast_37 : decode cX9_cast 37 = .ok (.iaload, 1) := by decide +kernel
theorem dX9_cast_38 : decode cX9_cast 38 = .ok (.bipush 12, 2) := by decide +kernel
theorem dX9_cast_40 : decode cX9_cast 40 = .ok (.if_icmp .ne 7, 3) := by decide +kernel
theorem dX9_cast_43 : decode cX9_cast 43 = .ok (.iconst 1, 1) := by decide +kernel
theorem dX9_cast_44 : decode cX9_cast 44 = .ok (.goto 4, 3) := by decide +kernel
theorem dX9_cast_47 : decode cX9_cast 47 = .ok (.iconst 0, 1) := by decide +kernel
theorem dX9_cast_48 : decode cX9_cast 48 = .ok (.iconst 3, 1) := by decide +kernel
theorem dX9_cast_49 : decode cX9_cast 49 = .ok (.invokevirtual 79, 3) := by decide +kernel
theorem dX9_cast_52 : decode cX9_cast 52 = .ok (.ifCond .eq 5, 3) := by decide +kernel
theorem dX9_cast_55 : decode cX9_cast 55 = .ok (.iconst 0, 1) := by decide +kernel
theorem dX9_cast_56 : decode cX9_cast 56 = .ok (.ireturn, 1) := by decide +kernel
theorem dX9_cast_57 : decode cX9_cast 57 = .ok (.aload_n 0, 1) := by decide +kernel
theorem dX9_cast_58 : decode cX9_cast 58 = .ok (.getfield 43, 3) := by decide +kernel
theorem dX9_cast_61 : decode cX9_cast 61 = .ok (.iload_n 1, 1) := by decide +kernel
theorem dX9_cast_62 : decode cX9_cast 62 = .ok (.dup2, 1) := by decide +kernel
theorem dX9_cast_63 : decode cX9_cast 63 = .ok (.iaload, 1) := by decide +kernel
theorem dX9_cast_64 : decode cX9_cast 64 = .ok (.iconst 1, 1) := by decide +kernel
theorem dX9_cast_65 : decode cX9_cast 65 = .ok (.iadd, 1) := by decide +kernel
theorem dX9_cast_66 : decode cX9_cast 66 = .ok (.iastore, 1) := by decide +kernel
theorem dX9_cast_67 : decode cX9_cast 67 = .ok (.aload_n 0, 1) := by decide +kernel
theorem dX9_cast_68 : decode cX9_cast 68 = .ok (.getfield 37, 3) := by decide +kernel
theorem dX9_cast_71 : decode cX9_cast 71 = .ok (.aload_n 0, 1) := by decide +kernel
theorem dX9_cast_72 : decode cX9_cast 72 = .ok (.iload_n 1, 1) := by decide +kernel
theorem dX9_cast_73 : decode cX9_cast 73 = .ok (.invokevirtual 99, 3) := by decide +kernel
theorem dX9_cast_76 : decode cX9_cast 76 = .ok (.iload_n 2, 1) := by decide +kernel
theorem dX9_cast_77 : decode cX9_cast 77 = .ok (.iastore, 1) := by decide +kernel
theorem dX9_cast_78 : decode cX9_cast 78 = .ok (.aload_n 0, 1) := by decide +kernel
theorem dX9_cast_79 : decode cX9_cast 79 = .ok (.getfield 40, 3) := by decide +kernel
theorem dX9_cast_82 : decode cX9_cast 82 = .ok (.aload_n 0, 1) := by decide +kernel
theorem dX9_cast_83 : decode cX9_cast 83 = .ok (.iload_n 1, 1) := by decide +kernel
theorem dX9_cast_84 : decode cX9_cast 84 = .ok (.invokevirtual 99, 3) := by decide +kernel
theorem dX9_cast_87 : decode cX9_cast 87 = .ok (.aload_n 0, 1) := by decide +kernel
theorem dX9_cast_88 : decode cX9_cast 88 = .ok (.getfield 103, 3) := by decide +kernel
theorem dX9_cast_91 : decode cX9_cast 91 = .ok (.iastore, 1) := by decide +kernel
theorem dX9_cast_92 : decode cX9_cast 92 = .ok (.aload_n 0, 1) := by decide +kernel
theorem dX9_cast_93 : decode cX9_cast 93 = .ok (.getfield 43, 3) := by decide +kernel
theorem dX9_cast_96 : decode cX9_cast 96 = .ok (.iload_n 1, 1) := by decide +kernel
theorem dX9_cast_97 : decode cX9_cast 97 = .ok (.iaload, 1) := by decide +kernel
theorem dX9_cast_98 : decode cX9_cast 98 = .ok (.ireturn, 1) := by decide +kernel
set_option maxRecDepth 20000 in
theorem ggX9_heightOf_X9_isNoStack : GoodIn wsX9_heightOf wsX9_isNoStack := goodIn_r _ [6, 7, 8, 5, 9, 10, 11, 12, 13, 14, 15, 16, 17, 18, 19, 20, 21, 22, 23, 24, 25, 26, 27, 28, 29, 30, 31, 32, 33, 34, 35, 36, 37, 38, 39, 40, 41, 42, 43, 44] (by decide +kernel) (by decide +kernel)
set_option maxRecDepth 20000 in
theorem gX9_heightOf_X9_isNoStack : GoodIn wsX9_heightOf (wsV RX9 96 RX9 yX9_isNoStack wsX9_isNoStack) := goodIn_app (goodIn_of _ (by decide +kernel)) ggX9_heightOf_X9_isNoStack
theorem dX9_heightOf_0 : decode cX9_heightOf 0 = .ok (.aload_n 0, 1) := by decide +kernel
theorem dX9_heightOf_1 : decode cX9_heightOf 1 = .ok (.iload_n 1, 1) := by decide +kernel
theorem dX9_heightOf_2 : decode cX9_heightOf 2 = .ok (.invokevirtual 96, 3) := by decide +kernel
theorem dX9_heightOf_5 : decode cX9_heightOf 5 = .ok (.ifCond .eq 7, 3) := by decide +kernel
theorem dX9_heightOf_8 : decode cX9_heightOf 8 = .ok (.iconst 0, 1) := by decide +kernel
theorem dX9_heightOf_9 : decode cX9_heightOf 9 = .ok (.goto 9, 3) := by decide +kernel
theorem dX9_heightOf_12 : decode cX9_heightOf 12 = .ok (.aload_n 0, 1) := by decide +kernel
theorem dX9_heightOf_13 : decode cX9_heightOf 13 = .ok (.getfield 43, 3) := by decide +kernel
theorem dX9_heightOf_16 : decode cX9_heightOf 16 = .ok (.iload_n 1, 1) := by decide +kernel
theorem dX9_heightOf_17 : decode cX9_heightOf 17 = .ok (.iaload, 1) := by decide +kernel
theorem dX9_heightOf_18 : decode cX9_heightOf 18 = .ok (.ireturn, 1) := by decide +kernel
set_option maxRecDepth 20000 in
theorem ggX9_taperAt_X9_isNoStack : GoodIn wsX9_taperAt wsX9_isNoStack := goodIn_r _ [7, 8, 9, 6, 10, 11, 12, 13, 14, 15, 16, 17, 18, 19, 20, 21, 22, 23, 24, 25, 26, 27, 28, 29, 30, 31, 32, 33, 34, 35, 36, 37, 38, 39, 40, 41, 42, 43, 44, 45] (by decide +kernel) (by decide +kernel)
set_option maxRecDepth 20000 in
theorem gX9_taperAt_X9_isNoStack : GoodIn wsX9_taperAt (wsV RX9 96 RX9 yX9_isNoStack wsX9_isNoStack) := goodIn_app (goodIn_of _ (by decide +kernel)) ggX9_taperAt_X9_isNoStack
set_option maxRecDepth 20000 in
theorem ggX9_taperAt_X9_isIn : GoodIn wsX9_taperAt wsX9_isIn := goodIn_r _ [10] (by decide +kernel) (by decide +kernel)
set_option maxRecDepth 20000 in
theorem gX9_taperAt_X9_isIn : GoodIn wsX9_taperAt (va_wsS RX9 75 yX9_isIn wsX9_isIn) := goodIn_app (goodIn_of _ (by decide +kernel)) ggX9_taperAt_X9_isIn
set_option maxRecDepth 20000 in
theorem ggX9_taperAt_X9_isThrown : GoodIn wsX9_taperAt wsX9_isThrown := goodIn_r _ [14, 15, 16, 17, 18, 19, 20, 21, 22, 23, 24, 25, 26, 27, 28, 29, 30, 31, 32, 33, 34, 35, 36, 37, 38, 39, 40, 41, 42, 43, 44, 45] (by decide +kernel) (by decide +kernel)
set_option maxRecDepth 20000 in
theorem gX9_taperAt_X9_isThrown : GoodIn wsX9_taperAt (wsV RX9 79 RX9 yX9_isThrown wsX9_isThrown) := goodIn_app (goodIn_of _ (by decide +kernel)) ggX9_taperAt_X9_isThrown
theorem dX9_taperAt_0 : decode cX9_taperAt 0 = .ok (.aload_n 0, 1) := by decide +kernel
theorem dX9_taperAt_1 : decode cX9_taperAt 1 = .ok (.iload_n 1, 1) := by decide +kernel
theorem dX9_taperAt_2 : decode cX9_taperAt 2 = .ok (.invokevirtual 96, 3) := by decide +kernel
theorem dX9_taperAt_5 : decode cX9_taperAt 5 = .ok (.ifCond .ne 32, 3) := by decide +kernel
theorem dX9_taperAt_8 : decode cX9_taperAt 8 = .ok (.aload_n 0, 1) := by decide +kernel
theorem dX9_taperAt_9 : decode cX9_taperAt 9 = .ok (.iload_n 2, 1) := by decide +kernel
theorem dX9_taperAt_10 : decode cX9_taperAt 10 = .ok (.iconst 0, 1) := by decide +kernel
theorem dX9_taperAt_11 : decode cX9_taperAt 11 = .ok (.aload_n 0, 1) := by decide +kernel
theorem dX9_taperAt_12 : decode cX9_taperAt 12 = .ok (.getfield 43, 3) := by decide +kernel
theorem dX9_taperAt_15 : decode cX9_taperAt 15 = .ok (.iload_n 1, 1) := by decide +kernel
theorem dX9_taperAt_16 : decode cX9_taperAt 16 = .ok (.iaload, 1) := by decide +kernel
theorem dX9_taperAt_17 : decode cX9_taperAt 17 = .ok (.iconst 1, 1) := by decide +kernel
theorem dX9_taperAt_18 : decode cX9_taperAt 18 = .ok (.isub, 1) := by decide +kernel
theorem dX9_taperAt_19 : decode cX9_taperAt 19 = .ok (.invokestatic 75, 3) := by decide +kernel
theorem dX9_taperAt_22 : decode cX9_taperAt 22 = .ok (.ifCond .ne 7, 3) := by decide +kernel
theorem dX9_taperAt_25 : decode cX9_taperAt 25 = .ok (.iconst 1, 1) := by decide +kernel
theorem dX9_taperAt_26 : decode cX9_taperAt 26 = .ok (.goto 4, 3) := by decide +kernel
theorem dX9_taperAt_29 : decode cX9_taperAt 29 = .ok (.iconst 0, 1) := by decide +kernel
theorem dX9_taperAt_30 : decode cX9_taperAt 30 = .ok (.iconst 2, 1) := by decide +kernel
theorem dX9_taperAt_31 : decode cX9_taperAt 31 = .ok (.invokevirtual 79, 3) := by decide +kernel
theorem dX9_taperAt_34 : decode cX9_taperAt 34 = .ok (.ifCond .eq 7, 3) := by decide +kernel
theorem dX9_taperAt_37 : decode cX9_taperAt 37 = .ok (.iconst 0, 1) := by decide +kernel
theorem dX9_taperAt_38 : decode cX9_taperAt 38 = .ok (.goto 14, 3) := by decide +kernel
theorem dX9_taperAt_41 : decode cX9_taperAt 41 = .ok (.aload_n 0, 1) := by decide +kernel
theorem dX9_taperAt_42 : decode cX9_taperAt 42 = .ok (.getfield 37, 3) := by decide +kernel
theorem dX9_taperAt_45 : decode cX9_taperAt 45 = .ok (.bipush 12, 2) := by decide +kernel
theorem dX9_taperAt_47 : decode cX9_taperAt 47 = .ok (.iload_n 1, 1) := by decide +kernel
theorem dX9_taperAt_48 : decode cX9_taperAt 48 = .ok (.imul, 1) := by decide +kernel
theorem dX9_taperAt_49 : decode cX9_taperAt 49 = .ok (.iload_n 2, 1) := by decide +kernel
theorem dX9_taperAt_50 : decode cX9_taperAt 50 = .ok (.iadd, 1) := by decide +kernel
theorem dX9_taperAt_51 : decode cX9_taperAt 51 = .ok (.iaload, 1) := by decide +kernel
theorem dX9_taperAt_52 : decode cX9_taperAt 52 = .ok (.ireturn, 1) := by decide +kernel
theorem dX9_toCure_0 : decode cX9_toCure 0 = .ok (.iconst 0, 1) := by decide +kernel
theorem dX9_toCure_1 : decode cX9_toCure 1 = .ok (.bipush 24, 2) := by decide +kernel
theorem dX9_toCure_3 : decode cX9_toCure 3 = .ok (.aload_n 0, 1) := by decide +kernel
theorem dX9_toCure_4 : decode cX9_toCure 4 = .ok (.getfield 40, 3) := by decide +kernel
theorem dX9_toCure_7 : decode cX9_toCure 7 = .ok (.iload_n 1, 1) := by decide +kernel
theorem dX9_toCure_8 : decode cX9_toCure 8 = .ok (.iaload, 1) := by decide +kernel
theorem dX9_toCure_9 : decode cX9_toCure 9 = .ok (.iadd, 1) := by decide +kernel
theorem dX9_toCure_10 : decode cX9_toCure 10 = .ok (.aload_n 0, 1) := by decide +kernel
theorem dX9_toCure_11 : decode cX9_toCure 11 = .ok (.getfield 103, 3) := by decide +kernel
theorem dX9_toCure_14 : decode cX9_toCure 14 = .ok (.isub, 1) := by decide +kernel
theorem dX9_toCure_15 : decode cX9_toCure 15 = .ok (.invokestatic 106, 3) := by decide +kernel
theorem dX9_toCure_18 : decode cX9_toCure 18 = .ok (.ireturn, 1) := by decide +kernel
set_option maxRecDepth 20000 in
theorem ggX9_isEmpty_X9_isNoStack : GoodIn wsX9_isEmpty wsX9_isNoStack := goodIn_r _ [6, 7, 8, 5, 9, 10, 11, 12, 13, 14, 15, 16, 17, 18, 19, 20, 21, 22, 23, 24, 25, 26, 27, 28, 29, 30, 31, 32, 33, 34, 35, 36, 37, 38, 39, 40, 41, 42, 43, 44] (by decide +kernel) (by decide +kernel)
set_option maxRecDepth 20000 in
theorem gX9_isEmpty_X9_isNoStack : GoodIn wsX9_isEmpty (wsV RX9 96 RX9 yX9_isNoStack wsX9_isNoStack) := goodIn_app (goodIn_of _ (by decide +kernel)) ggX9_isEmpty_X9_isNoStack
set_option maxRecDepth 20000 in
theorem ggX9_isEmpty_X9_isThrown : GoodIn wsX9_isEmpty wsX9_isThrown := goodIn_r _ [13, 14, 15, 16, 17, 18, 19, 20, 21, 22, 23, 24, 25, 26, 27, 28, 29, 30, 31, 32, 33, 34, 35, 36, 37, 38, 39, 40, 41, 42, 43, 44] (by decide +kernel) (by decide +kernel)
set_option maxRecDepth 20000 in
theorem gX9_isEmpty_X9_isThrown : GoodIn wsX9_isEmpty (wsV RX9 79 RX9 yX9_isThrown wsX9_isThrown) := goodIn_app (goodIn_of _ (by decide +kernel)) ggX9_isEmpty_X9_isThrown
theorem dX9_isEmpty_0 : decode cX9_isEmpty 0 = .ok (.aload_n 0, 1) := by decide +kernel
theorem dX9_isEmpty_1 : decode cX9_isEmpty 1 = .ok (.iload_n 1, 1) := by decide +kernel
theorem dX9_isEmpty_2 : decode cX9_isEmpty 2 = .ok (.invokevirtual 96, 3) := by decide +kernel
theorem dX9_isEmpty_5 : decode cX9_isEmpty 5 = .ok (.ifCond .ne 25, 3) := by decide +kernel
theorem dX9_isEmpty_8 : decode cX9_isEmpty 8 = .ok (.aload_n 0, 1) := by decide +kernel
theorem dX9_isEmpty_9 : decode cX9_isEmpty 9 = .ok (.aload_n 0, 1) := by decide +kernel
theorem dX9_isEmpty_10 : decode cX9_isEmpty 10 = .ok (.getfield 43, 3) := by decide +kernel
theorem dX9_isEmpty_13 : decode cX9_isEmpty 13 = .ok (.iload_n 1, 1) := by decide +kernel
theorem dX9_isEmpty_14 : decode cX9_isEmpty 14 = .ok (.iaload, 1) := by decide +kernel
theorem dX9_isEmpty_15 : decode cX9_isEmpty 15 = .ok (.ifCond .ne 7, 3) := by decide +kernel
theorem dX9_isEmpty_18 : decode cX9_isEmpty 18 = .ok (.iconst 1, 1) := by decide +kernel
theorem dX9_isEmpty_19 : decode cX9_isEmpty 19 = .ok (.goto 4, 3) := by decide +kernel
theorem dX9_isEmpty_22 : decode cX9_isEmpty 22 = .ok (.iconst 0, 1) := by decide +kernel
theorem dX9_isEmpty_23 : decode cX9_isEmpty 23 = .ok (.iconst 2, 1) := by decide +kernel
theorem dX9_isEmpty_24 : decode cX9_isEmpty 24 = .ok (.invokevirtual 79, 3) := by decide +kernel
theorem dX9_isEmpty_27 : decode cX9_isEmpty 27 = .ok (.ifCond .eq 7, 3) := by decide +kernel
theorem dX9_isEmpty_30 : decode cX9_isEmpty 30 = .ok (.iconst 1, 1) := by decide +kernel
theorem dX9_isEmpty_31 : decode cX9_isEmpty 31 = .ok (.goto 4, 3) := by decide +kernel
theorem dX9_isEmpty_34 : decode cX9_isEmpty 34 = .ok (.iconst 0, 1) := by decide +kernel
theorem dX9_isEmpty_35 : decode cX9_isEmpty 35 = .ok (.ireturn, 1) := by decide +kernel
set_option maxRecDepth 20000 in
theorem ggX9_hoursToCure_X9_isEmpty : GoodIn wsX9_hoursToCure wsX9_isEmpty := goodIn_ca (goodIn_r _ [5, 6, 7, 8, 9, 4, 10, 11, 12, 13, 14, 15, 16, 17, 18, 33, 34, 35, 36, 37, 38, 39, 40, 41, 42, 43, 44, 45, 46, 47, 48, 49, 50, 51, 52, 53, 54, 55, 56, 57, 58, 59, 60, 61, 62] (by decide +kernel) (by decide +kernel)) (goodIn_sub (fun _ h => List.mem_cons_of_mem _ (List.mem_append_right _ h)) (by decide +kernel))
set_option maxRecDepth 20000 in
theorem gX9_hoursToCure_X9_isEmpty : GoodIn wsX9_hoursToCure (wsV RX9 112 RX9 yX9_isEmpty wsX9_isEmpty) := goodIn_app (goodIn_of _ (by decide +kernel)) ggX9_hoursToCure_X9_isEmpty
set_option maxRecDepth 20000 in
theorem ggX9_hoursToCure_X9_top : GoodIn wsX9_hoursToCure wsX9_top := goodIn_ca (goodIn_r _ [22, 6, 33, 34, 35, 36, 37, 38, 39, 40, 41, 42, 43, 44, 45, 46, 47, 48, 49, 50, 51, 52, 53, 54, 55, 56, 57, 58, 59, 60, 61, 62] (by decide +kernel) (by decide +kernel)) (goodIn_sub (fun _ h => List.mem_cons_of_mem _ (List.mem_append_right _ h)) (by decide +kernel))
set_option maxRecDepth 20000 in
theorem gX9_hoursToCure_X9_top : GoodIn wsX9_hoursToCure (wsV RX9 99 RX9 yX9_top wsX9_top) := goodIn_app (goodIn_of _ (by decide +kernel)) ggX9_hoursToCure_X9_top
set_option maxRecDepth 20000 in
theorem ggX9_hoursToCure_X9_toCure : GoodIn wsX9_hoursToCure wsX9_toCure := goodIn_ca (goodIn_r _ [26, 27, 28, 29, 30, 31, 32, 33, 34, 35, 36, 37, 38, 39, 40, 41, 42, 43, 44, 45, 46, 47, 48, 49, 50, 51, 52, 53, 54, 55, 56, 57, 58, 59, 60, 61, 62] (by decide +kernel) (by decide +kernel)) (goodIn_sub (fun _ h => List.mem_cons_of_mem _ (List.mem_append_right _ h)) (by decide +kernel))
set_option maxRecDepth 20000 in
theorem gX9_hoursToCure_X9_toCure : GoodIn wsX9_hoursToCure (wsV RX9 115 RX9 yX9_toCure wsX9_toCure) := goodIn_app (goodIn_of _ (by decide +kernel)) ggX9_hoursToCure_X9_toCure
theorem dX9_hoursToCure_0 : decode cX9_hoursToCure 0 = .ok (.aload_n 0, 1) := by decide +kernel
theorem dX9_hoursToCure_1 : decode cX9_hoursToCure 1 = .ok (.iload_n 1, 1) := by decide +kernel
theorem dX9_hoursToCure_2 : decode cX9_hoursToCure 2 = .ok (.invokevirtual 112, 3) := by decide +kernel
theorem dX9_hoursToCure_5 : decode cX9_hoursToCure 5 = .ok (.ifCond .eq 7, 3) := by decide +kernel
theorem dX9_hoursToCure_8 : decode cX9_hoursToCure 8 = .ok (.iconst 0, 1) := by decide +kernel
theorem dX9_hoursToCure_9 : decode cX9_hoursToCure 9 = .ok (.goto 12, 3) := by decide +kernel
theorem dX9_hoursToCure_12 : decode cX9_hoursToCure 12 = .ok (.aload_n 0, 1) := by decide +kernel
theorem dX9_hoursToCure_13 : decode cX9_hoursToCure 13 = .ok (.aload_n 0, 1) := by decide +kernel
theorem dX9_hoursToCure_14 : decode cX9_hoursToCure 14 = .ok (.iload_n 1, 1) := by decide +kernel
theorem dX9_hoursToCure_15 : decode cX9_hoursToCure 15 = .ok (.invokevirtual 99, 3) := by decide +kernel
theorem dX9_hoursToCure_18 : decode cX9_hoursToCure 18 = .ok (.invokevirtual 115, 3) := by decide +kernel
theorem dX9_hoursToCure_21 : decode cX9_hoursToCure 21 = .ok (.ireturn, 1) := by decide +kernel
set_option maxRecDepth 20000 in
theorem ggX9_restack_X9_isIn : GoodIn wsX9_restack wsX9_isIn := goodIn_r _ [7] (by decide +kernel) (by decide +kernel)
set_option maxRecDepth 20000 in
theorem gX9_restack_X9_isIn : GoodIn wsX9_restack (va_wsS RX9 75 yX9_isIn wsX9_isIn) := goodIn_app (goodIn_of _ (by decide +kernel)) ggX9_restack_X9_isIn
set_option maxRecDepth 20000 in
theorem ggX9_restack_X9_isThrown : GoodIn wsX9_restack wsX9_isThrown := goodIn_r _ [11, 12, 17, 18, 19, 20, 21, 22, 23, 24, 25, 26, 27, 28, 29, 30, 31, 32, 33, 34, 35, 36, 37, 38, 39, 40, 41, 42, 43, 44, 45, 46] (by decide +kernel) (by decide +kernel)
set_option maxRecDepth 20000 in
theorem gX9_restack_X9_isThrown : GoodIn wsX9_restack (wsV RX9 79 RX9 yX9_isThrown wsX9_isThrown) := goodIn_app (goodIn_of _ (by decide +kernel)) ggX9_restack_X9_isThrown
set_option maxRecDepth 20000 in
theorem ggX9_restack_X9_top : GoodIn wsX9_restack wsX9_top := goodIn_ca (goodIn_r _ [16, 1, 17, 18, 19, 20, 21, 22, 23, 24, 25, 26, 27, 28, 29, 30, 31, 32, 33, 34, 35, 36, 37, 38, 39, 40, 41, 42, 43, 44, 45, 46] (by decide +kernel) (by decide +kernel)) (goodIn_sub (fun _ h => List.mem_cons_of_mem _ (List.mem_append_right _ h)) (by decide +kernel))
set_option maxRecDepth 20000 in
theorem gX9_restack_X9_top : GoodIn wsX9_restack (wsV RX9 99 RX9 yX9_top wsX9_top) := goodIn_app (goodIn_of _ (by decide +kernel)) ggX9_restack_X9_top
theorem dX9_restack_0 : decode cX9_restack 0 = .ok (.aload_n 0, 1) := by decide +kernel
theorem dX9_restack_1 : decode cX9_restack 1 = .ok (.iload_n 1, 1) := by decide +kernel
theorem dX9_restack_2 : decode cX9_restack 2 = .ok (.iconst 0, 1) := by decide +kernel
theorem dX9_restack_3 : decode cX9_restack 3 = .ok (.iconst 2, 1) := by decide +kernel
theorem dX9_restack_4 : decode cX9_restack 4 = .ok (.invokestatic 75, 3) := by decide +kernel
theorem dX9_restack_7 : decode cX9_restack 7 = .ok (.ifCond .eq 12, 3) := by decide +kernel
theorem dX9_restack_10 : decode cX9_restack 10 = .ok (.iload_n 2, 1) := by decide +kernel
theorem dX9_restack_11 : decode cX9_restack 11 = .ok (.iconst 0, 1) := by decide +kernel
theorem dX9_restack_12 : decode cX9_restack 12 = .ok (.iconst 2, 1) := by decide +kernel
theorem dX9_restack_13 : decode cX9_restack 13 = .ok (.invokestatic 75, 3) := by decide +kernel
theorem dX9_restack_16 : decode cX9_restack 16 = .ok (.ifCond .ne 7, 3) := by decide +kernel
theorem dX9_restack_19 : decode cX9_restack 19 = .ok (.iconst 1, 1) := by decide +kernel
theorem dX9_restack_20 : decode cX9_restack 20 = .ok (.goto 4, 3) := by decide +kernel
theorem dX9_restack_23 : decode cX9_restack 23 = .ok (.iconst 0, 1) := by decide +kernel
theorem dX9_restack_24 : decode cX9_restack 24 = .ok (.iconst 1, 1) := by decide +kernel
theorem dX9_restack_25 : decode cX9_restack 25 = .ok (.invokevirtual 79, 3) := by decide +kernel
theorem dX9_restack_28 : decode cX9_restack 28 = .ok (.ifCond .ne 54, 3) := by decide +kernel
theorem dX9_restack_31 : decode cX9_restack 31 = .ok (.aload_n 0, 1) := by decide +kernel
theorem dX9_restack_32 : decode cX9_restack 32 = .ok (.aload_n 0, 1) := by decide +kernel
theorem dX9_restack_33 : decode cX9_restack 33 = .ok (.getfield 43, 3) := by decide +kernel
theorem dX9_restack_36 : decode cX9_restack 36 = .ok (.iload_n 1, 1) := by decide +kernel
theorem dX9_restack_37 : decode cX9_restack 37 = .ok (.iaload, 1) := by decide +kernel
theorem dX9_restack_38 : decode cX9_restack 38 = .ok (.ifCond .ne 7, 3) := by decide +kernel
theorem dX9_restack_41 : decode cX9_restack 41 = .ok (.iconst 1, 1) := by decide +kernel
theorem dX9_restack_42 : decode cX9_restack 42 = .ok (.goto 4, 3) := by decide +kernel
theorem dX9_restack_45 : decode cX9_restack 45 = .ok (.iconst 0, 1) := by decide +kernel
theorem dX9_restack_46 : decode cX9_restack 46 = .ok (.iconst 2, 1) := by decide +kernel
theorem dX9_restack_47 : decode cX9_restack 47 = .ok (.invokevirtual 79, 3) := by decide +kernel
theorem dX9_restack_50 : decode cX9_restack 50 = .ok (.ifCond .ne 32, 3) := by decide +kernel
theorem dX9_restack_53 : decode cX9_restack 53 = .ok (.aload_n 0, 1) := by decide +kernel
theorem dX9_restack_54 : decode cX9_restack 54 = .ok (.iload_n 1, 1) := by decide +kernel
theorem dX9_restack_55 : decode cX9_restack 55 = .ok (.iload_n 2, 1) := by decide +kernel
theorem dX9_restack_56 : decode cX9_restack 56 = .ok (.if_icmp .eq 18, 3) := by decide +kernel
theorem dX9_restack_59 : decode cX9_restack 59 = .ok (.aload_n 0, 1) := by decide +kernel
theorem dX9_restack_60 : decode cX9_restack 60 = .ok (.getfield 43, 3) := by decide +kernel
theorem dX9_restack_63 : decode cX9_restack 63 = .ok (.iload_n 2, 1) := by decide +kernel
theorem dX9_restack_64 : decode cX9_restack 64 = .ok (.iaload, 1) := by decide +kernel
theorem dX9_restack_65 : decode cX9_restack 65 = .ok (.bipush 12, 2) := by decide +kernel
theorem dX9_restack_67 : decode cX9_restack 67 = .ok (.if_icmp .ne 7, 3) := by decide +kernel
theorem dX9_restack_70 : decode cX9_restack 70 = .ok (.iconst 1, 1) := by decide +kernel
theorem dX9_restack_71 : decode cX9_restack 71 = .ok (.goto 4, 3) := by decide +kernel
theorem dX9_restack_74 : decode cX9_restack 74 = .ok (.iconst 0, 1) := by decide +kernel
theorem dX9_restack_75 : decode cX9_restack 75 = .ok (.iconst 3, 1) := by decide +kernel
theorem dX9_restack_76 : decode cX9_restack 76 = .ok (.invokevirtual 79, 3) := by decide +kernel
theorem dX9_restack_79 : decode cX9_restack 79 = .ok (.ifCond .eq 5, 3) := by decide +kernel
theorem dX9_restack_82 : decode cX9_restack 82 = .ok (.iconst 0, 1) := by decide +kernel
theorem dX9_restack_83 : decode cX9_restack 83 = .ok (.ireturn, 1) := by decide +kernel
theorem dX9_restack_84 : decode cX9_restack 84 = .ok (.aload_n 0, 1) := by decide +kernel
theorem dX9_restack_85 : decode cX9_restack 85 = .ok (.getfield 37, 3) := by decide +kernel
theorem dX9_restack_88 : decode cX9_restack 88 = .ok (.aload_n 0, 1) := by decide +kernel
theorem dX9_restack_89 : decode cX9_restack 89 = .ok (.iload_n 1, 1) := by decide +kernel
theorem dX9_restack_90 : decode cX9_restack 90 = .ok (.invokevirtual 99, 3) := by decide +kernel
theorem dX9_restack_93 : decode cX9_restack 93 = .ok (.iaload, 1) := by decide +kernel
theorem dX9_restack_94 : decode cX9_restack 94 = .ok (.istore_n 3, 1) := by decide +kernel
theorem dX9_restack_95 : decode cX9_restack 95 = .ok (.aload_n 0, 1) := by decide +kernel
theorem dX9_restack_96 : decode cX9_restack 96 = .ok (.getfield 40, 3) := by decide +kernel
theorem dX9_restack_99 : decode cX9_restack 99 = .ok (.aload_n 0, 1) := by decide +kernel
theorem dX9_restack_100 : decode cX9_restack 100 = .ok (.iload_n 1, 1) := by decide +kernel
theorem dX9_restack_101 : decode cX9_restack 101 = .ok (.invokevirtual 99, 3) := by decide +kernel
theorem dX9_restack_104 : decode cX9_restack 104 = .ok (.iaload, 1) := by decide +kernel
theorem dX9_restack_105 : decode cX9_restack 105 = .ok (.istore 4, 2) := by decide +kernel
theorem dX9_restack_107 : decode cX9_restack 107 = .ok (.aload_n 0, 1) := by decide +kernel
theorem dX9_restack_108 : decode cX9_restack 108 = .ok (.getfield 43, 3) := by decide +kernel
theorem dX9_restack_111 : decode cX9_restack 111 = .ok (.iload_n 1, 1) := by decide +kernel
theorem dX9_restack_112 : decode cX9_restack 112 = .ok (.dup2, 1) := by decide +kernel
theorem dX9_restack_113 : decode cX9_restack 113 = .ok (.iaload, 1) := by decide +kernel
theorem dX9_restack_114 : decode cX9_restack 114 = .ok (.iconst 1, 1) := by decide +kernel
theorem dX9_restack_115 : decode cX9_restack 115 = .ok (.isub, 1) := by decide +kernel
theorem dX9_restack_116 : decode cX9_restack 116 = .ok (.iastore, 1) := by decide +kernel
theorem dX9_restack_117 : decode cX9_restack 117 = .ok (.aload_n 0, 1) := by decide +kernel
theorem dX9_restack_118 : decode cX9_restack 118 = .ok (.getfield 43, 3) := by decide +kernel
theorem dX9_restack_121 : decode cX9_restack 121 = .ok (.iload_n 2, 1) := by decide +kernel
theorem dX9_restack_122 : decode cX9_restack 122 = .ok (.dup2, 1) := by decide +kernel
theorem dX9_restack_123 : decode cX9_restack 123 = .ok (.iaload, 1) := by decide +kernel
theorem dX9_restack_124 : decode cX9_restack 124 = .ok (.iconst 1, 1) := by decide +kernel
theorem dX9_restack_125 : decode cX9_restack 125 = .ok (.iadd, 1) := by decide +kernel
theorem dX9_restack_126 : decode cX9_restack 126 = .ok (.iastore, 1) := by decide +kernel
theorem dX9_restack_127 : decode cX9_restack 127 = .ok (.aload_n 0, 1) := by decide +kernel
theorem dX9_restack_128 : decode cX9_restack 128 = .ok (.getfield 37, 3) := by decide +kernel
theorem dX9_restack_131 : decode cX9_restack 131 = .ok (.aload_n 0, 1) := by decide +kernel
theorem dX9_restack_132 : decode cX9_restack 132 = .ok (.iload_n 2, 1) := by decide +kernel
theorem dX9_restack_133 : decode cX9_restack 133 = .ok (.invokevirtual 99, 3) := by decide +kernel
theorem dX9_restack_136 : decode cX9_restack 136 = .ok (.iload_n 3, 1) := by decide +kernel
theorem dX9_restack_137 : decode cX9_restack 137 = .ok (.iastore, 1) := by decide +kernel
theorem dX9_restack_138 : decode cX9_restack 138 = .ok (.aload_n 0, 1) := by decide +kernel
theorem dX9_restack_139 : decode cX9_restack 139 = .ok (.getfield 40, 3) := by decide +kernel
theorem dX9_restack_142 : decode cX9_restack 142 = .ok (.aload_n 0, 1) := by decide +kernel
theorem dX9_restack_143 : decode cX9_restack 143 = .ok (.iload_n 2, 1) := by decide +kernel
theorem dX9_restack_144 : decode cX9_restack 144 = .ok (.invokevirtual 99, 3) := by decide +kernel
theorem dX9_restack_147 : decode cX9_restack 147 = .ok (.iload 4, 2) := by decide +kernel
theorem dX9_restack_149 : decode cX9_restack 149 = .ok (.iastore, 1) := by decide +kernel
theorem dX9_restack_150 : decode cX9_restack 150 = .ok (.aload_n 0, 1) := by decide +kernel
theorem dX9_restack_151 : decode cX9_restack 151 = .ok (.getfield 43, 3) := by decide +kernel
theorem dX9_restack_154 : decode cX9_restack 154 = .ok (.iload_n 2, 1) := by decide +kernel
theorem dX9_restack_155 : decode cX9_restack 155 = .ok (.iaload, 1) := by decide +kernel
theorem dX9_restack_156 : decode cX9_restack 156 = .ok (.ireturn, 1) := by decide +kernel
set_option maxRecDepth 20000 in
theorem ggX9_curedShare_X9_toCure : GoodIn wsX9_curedShare wsX9_toCure := goodIn_ca (goodIn_r _ [6, 7, 8, 9, 10, 11, 12, 18, 19, 20, 21, 22, 23, 24, 25, 26, 27, 28, 29, 30, 31, 32, 33, 34, 35, 36, 37, 38, 39, 40, 41, 42, 43, 44, 45, 46, 47] (by decide +kernel) (by decide +kernel)) (goodIn_sub (fun _ h => List.mem_cons_of_mem _ (List.mem_append_right _ h)) (by decide +kernel))
set_option maxRecDepth 20000 in
theorem gX9_curedShare_X9_toCure : GoodIn wsX9_curedShare (wsV RX9 115 RX9 yX9_toCure wsX9_toCure) := goodIn_app (goodIn_of _ (by decide +kernel)) ggX9_curedShare_X9_toCure
set_option maxRecDepth 20000 in
theorem ggX9_curedShare_X9_isThrown : GoodIn wsX9_curedShare wsX9_isThrown := goodIn_r _ [16, 17, 18, 19, 20, 21, 22, 23, 24, 25, 26, 27, 28, 29, 30, 31, 32, 33, 34, 35, 36, 37, 38, 39, 40, 41, 42, 43, 44, 45, 46, 47] (by decide +kernel) (by decide +kernel)
set_option maxRecDepth 20000 in
theorem gX9_curedShare_X9_isThrown : GoodIn wsX9_curedShare (wsV RX9 79 RX9 yX9_isThrown wsX9_isThrown) := goodIn_app (goodIn_of _ (by decide +kernel)) ggX9_curedShare_X9_isThrown
theorem dX9_curedShare_0 : decode cX9_curedShare 0 = .ok (.iconst 0, 1) := by decide +kernel
theorem dX9_curedShare_1 : decode cX9_curedShare 1 = .ok (.istore_n 1, 1) := by decide +kernel
theorem dX9_curedShare_2 : decode cX9_curedShare 2 = .ok (.iconst 0, 1) := by decide +kernel
theorem dX9_curedShare_3 : decode cX9_curedShare 3 = .ok (.istore_n 2, 1) := by decide +kernel
theorem dX9_curedShare_4 : decode cX9_curedShare 4 = .ok (.iconst 0, 1) := by decide +kernel
theorem dX9_curedShare_5 : decode cX9_curedShare 5 = .ok (.istore_n 3, 1) := by decide +kernel
theorem dX9_curedShare_6 : decode cX9_curedShare 6 = .ok (.iload_n 3, 1) := by decide +kernel
theorem dX9_curedShare_7 : decode cX9_curedShare 7 = .ok (.bipush 36, 2) := by decide +kernel
theorem dX9_curedShare_9 : decode cX9_curedShare 9 = .ok (.if_icmp .ge 66, 3) := by decide +kernel
theorem dX9_curedShare_12 : decode cX9_curedShare 12 = .ok (.iload_n 3, 1) := by decide +kernel
theorem dX9_curedShare_13 : decode cX9_curedShare 13 = .ok (.bipush 12, 2) := by decide +kernel
theorem dX9_curedShare_15 : decode cX9_curedShare 15 = .ok (.irem, 1) := by decide +kernel
theorem dX9_curedShare_16 : decode cX9_curedShare 16 = .ok (.aload_n 0, 1) := by decide +kernel
theorem dX9_curedShare_17 : decode cX9_curedShare 17 = .ok (.getfield 43, 3) := by decide +kernel
theorem dX9_curedShare_20 : decode cX9_curedShare 20 = .ok (.iload_n 3, 1) := by decide +kernel
theorem dX9_curedShare_21 : decode cX9_curedShare 21 = .ok (.bipush 12, 2) := by decide +kernel
theorem dX9_curedShare_23 : decode cX9_curedShare 23 = .ok (.idiv, 1) := by decide +kernel
theorem dX9_curedShare_24 : decode cX9_curedShare 24 = .ok (.iaload, 1) := by decide +kernel
theorem dX9_curedShare_25 : decode cX9_curedShare 25 = .ok (.if_icmp .ge 7, 3) := by decide +kernel
theorem dX9_curedShare_28 : decode cX9_curedShare 28 = .ok (.iconst 1, 1) := by decide +kernel
theorem dX9_curedShare_29 : decode cX9_curedShare 29 = .ok (.goto 4, 3) := by decide +kernel
theorem dX9_curedShare_32 : decode cX9_curedShare 32 = .ok (.iconst 0, 1) := by decide +kernel
theorem dX9_curedShare_33 : decode cX9_curedShare 33 = .ok (.istore 4, 2) := by decide +kernel
theorem dX9_curedShare_35 : decode cX9_curedShare 35 = .ok (.iload_n 2, 1) := by decide +kernel
theorem dX9_curedShare_36 : decode cX9_curedShare 36 = .ok (.iload 4, 2) := by decide +kernel
theorem dX9_curedShare_38 : decode cX9_curedShare 38 = .ok (.ifCond .eq 7, 3) := by decide +kernel
theorem dX9_curedShare_41 : decode cX9_curedShare 41 = .ok (.iconst 1, 1) := by decide +kernel
theorem dX9_curedShare_42 : decode cX9_curedShare 42 = .ok (.goto 4, 3) := by decide +kernel
theorem dX9_curedShare_45 : decode cX9_curedShare 45 = .ok (.iconst 0, 1) := by decide +kernel
theorem dX9_curedShare_46 : decode cX9_curedShare 46 = .ok (.iadd, 1) := by decide +kernel
theorem dX9_curedShare_47 : decode cX9_curedShare 47 = .ok (.istore_n 2, 1) := by decide +kernel
theorem dX9_curedShare_48 : decode cX9_curedShare 48 = .ok (.iload_n 1, 1) := by decide +kernel
theorem dX9_curedShare_49 : decode cX9_curedShare 49 = .ok (.iload 4, 2) := by decide +kernel
theorem dX9_curedShare_51 : decode cX9_curedShare 51 = .ok (.ifCond .eq 15, 3) := by decide +kernel
theorem dX9_curedShare_54 : decode cX9_curedShare 54 = .ok (.aload_n 0, 1) := by decide +kernel
theorem dX9_curedShare_55 : decode cX9_curedShare 55 = .ok (.iload_n 3, 1) := by decide +kernel
theorem dX9_curedShare_56 : decode cX9_curedShare 56 = .ok (.invokevirtual 115, 3) := by decide +kernel
theorem dX9_curedShare_59 : decode cX9_curedShare 59 = .ok (.ifCond .ne 7, 3) := by decide +kernel
theorem dX9_curedShare_62 : decode cX9_curedShare 62 = .ok (.iconst 1, 1) := by decide +kernel
theorem dX9_curedShare_63 : decode cX9_curedShare 63 = .ok (.goto 4, 3) := by decide +kernel
theorem dX9_curedShare_66 : decode cX9_curedShare 66 = .ok (.iconst 0, 1) := by decide +kernel
theorem dX9_curedShare_67 : decode cX9_curedShare 67 = .ok (.iadd, 1) := by decide +kernel
theorem dX9_curedShare_68 : decode cX9_curedShare 68 = .ok (.istore_n 1, 1) := by decide +kernel
theorem dX9_curedShare_69 : decode cX9_curedShare 69 = .ok (.iinc 3 1, 3) := by decide +kernel
theorem dX9_curedShare_72 : decode cX9_curedShare 72 = .ok (.goto (-66), 3) := by decide +kernel
theorem dX9_curedShare_75 : decode cX9_curedShare 75 = .ok (.aload_n 0, 1) := by decide +kernel
theorem dX9_curedShare_76 : decode cX9_curedShare 76 = .ok (.iload_n 2, 1) := by decide +kernel
theorem dX9_curedShare_77 : decode cX9_curedShare 77 = .ok (.ifCond .ne 7, 3) := by decide +kernel
theorem dX9_curedShare_80 : decode cX9_curedShare 80 = .ok (.iconst 1, 1) := by decide +kernel
theorem dX9_curedShare_81 : decode cX9_curedShare 81 = .ok (.goto 4, 3) := by decide +kernel
theorem dX9_curedShare_84 : decode cX9_curedShare 84 = .ok (.iconst 0, 1) := by decide +kernel
theorem dX9_curedShare_85 : decode cX9_curedShare 85 = .ok (.iconst 1, 1) := by decide +kernel
theorem dX9_curedShare_86 : decode cX9_curedShare 86 = .ok (.invokevirtual 79, 3) := by decide +kernel
theorem dX9_curedShare_89 : decode cX9_curedShare 89 = .ok (.ifCond .eq 7, 3) := by decide +kernel
theorem dX9_curedShare_92 : decode cX9_curedShare 92 = .ok (.fconst 0, 1) := by decide +kernel
theorem dX9_curedShare_93 : decode cX9_curedShare 93 = .ok (.goto 8, 3) := by decide +kernel
theorem dX9_curedShare_96 : decode cX9_curedShare 96 = .ok (.iload_n 1, 1) := by decide +kernel
theorem dX9_curedShare_97 : decode cX9_curedShare 97 = .ok (.i2f, 1) := by decide +kernel
theorem dX9_curedShare_98 : decode cX9_curedShare 98 = .ok (.iload_n 2, 1) := by decide +kernel
theorem dX9_curedShare_99 : decode cX9_curedShare 99 = .ok (.i2f, 1) := by decide +kernel
theorem dX9_curedShare_100 : decode cX9_curedShare 100 = .ok (.fdiv, 1) := by decide +kernel
theorem dX9_curedShare_101 : decode cX9_curedShare 101 = .ok (.freturn, 1) := by decide +kernel
set_option maxRecDepth 20000 in
theorem ggX9_setPressure_X9_isIn : GoodIn wsX9_setPressure wsX9_isIn := goodIn_r _ [5] (by decide +kernel) (by decide +kernel)
set_option maxRecDepth 20000 in
theorem gX9_setPressure_X9_isIn : GoodIn wsX9_setPressure (va_wsS RX9 75 yX9_isIn wsX9_isIn) := goodIn_app (goodIn_of _ (by decide +kernel)) ggX9_setPressure_X9_isIn
set_option maxRecDepth 20000 in
theorem ggX9_setPressure_X9_isThrown : GoodIn wsX9_setPressure wsX9_isThrown := goodIn_r _ [9, 10, 11, 12, 13, 14, 15, 16, 17, 18, 19, 20, 21, 22, 23, 24, 25, 26, 27, 28, 29, 30, 31, 32, 33, 34, 35, 36, 37, 38, 39, 40] (by decide +kernel) (by decide +kernel)
set_option maxRecDepth 20000 in
theorem gX9_setPressure_X9_isThrown : GoodIn wsX9_setPressure (wsV RX9 79 RX9 yX9_isThrown wsX9_isThrown) := goodIn_app (goodIn_of _ (by decide +kernel)) ggX9_setPressure_X9_isThrown
theorem dX9_setPressure_0 : decode cX9_setPressure 0 = .ok (.aload_n 0, 1) := by decide +kernel
theorem dX9_setPressure_1 : decode cX9_setPressure 1 = .ok (.iload_n 1, 1) := by decide +kernel
theorem dX9_setPressure_2 : decode cX9_setPressure 2 = .ok (.iconst 0, 1) := by decide +kernel
theorem dX9_setPressure_3 : decode cX9_setPressure 3 = .ok (.bipush 100, 2) := by decide +kernel
theorem dX9_setPressure_5 : decode cX9_setPressure 5 = .ok (.invokestatic 75, 3) := by decide +kernel
theorem dX9_setPressure_8 : decode cX9_setPressure 8 = .ok (.ifCond .ne 7, 3) := by decide +kernel
theorem dX9_setPressure_11 : decode cX9_setPressure 11 = .ok (.iconst 1, 1) := by decide +kernel
theorem dX9_setPressure_12 : decode cX9_setPressure 12 = .ok (.goto 4, 3) := by decide +kernel
theorem dX9_setPressure_15 : decode cX9_setPressure 15 = .ok (.iconst 0, 1) := by decide +kernel
theorem dX9_setPressure_16 : decode cX9_setPressure 16 = .ok (.iconst 1, 1) := by decide +kernel
theorem dX9_setPressure_17 : decode cX9_setPressure 17 = .ok (.invokevirtual 79, 3) := by decide +kernel
theorem dX9_setPressure_20 : decode cX9_setPressure 20 = .ok (.ifCond .eq 5, 3) := by decide +kernel
theorem dX9_setPressure_23 : decode cX9_setPressure 23 = .ok (.iconst 0, 1) := by decide +kernel
theorem dX9_setPressure_24 : decode cX9_setPressure 24 = .ok (.ireturn, 1) := by decide +kernel
theorem dX9_setPressure_25 : decode cX9_setPressure 25 = .ok (.aload_n 0, 1) := by decide +kernel
theorem dX9_setPressure_26 : decode cX9_setPressure 26 = .ok (.getfield 65, 3) := by decide +kernel
theorem dX9_setPressure_29 : decode cX9_setPressure 29 = .ok (.istore_n 2, 1) := by decide +kernel
theorem dX9_setPressure_30 : decode cX9_setPressure 30 = .ok (.aload_n 0, 1) := by decide +kernel
theorem dX9_setPressure_31 : decode cX9_setPressure 31 = .ok (.iload_n 1, 1) := by decide +kernel
theorem dX9_setPressure_32 : decode cX9_setPressure 32 = .ok (.putfield 65, 3) := by decide +kernel
theorem dX9_setPressure_35 : decode cX9_setPressure 35 = .ok (.iload_n 2, 1) := by decide +kernel
theorem dX9_setPressure_36 : decode cX9_setPressure 36 = .ok (.ireturn, 1) := by decide +kernel
set_option maxRecDepth 20000 in
theorem ggX9_addSlurry_X9_isIn : GoodIn wsX9_addSlurry wsX9_isIn := goodIn_r _ [5] (by decide +kernel) (by decide +kernel)
set_option maxRecDepth 20000 in
theorem gX9_addSlurry_X9_isIn : GoodIn wsX9_addSlurry (va_wsS RX9 75 yX9_isIn wsX9_isIn) := goodIn_app (goodIn_of _ (by decide +kernel)) ggX9_addSlurry_X9_isIn
set_option maxRecDepth 20000 in
theorem ggX9_addSlurry_X9_isThrown : GoodIn wsX9_addSlurry wsX9_isThrown := goodIn_r _ [9, 10, 11, 12, 13, 14, 15, 16, 17, 18, 19, 20, 21, 22, 23, 24, 25, 26, 27, 28, 29, 30, 31, 32, 33, 34, 35, 36, 37, 38, 39, 40] (by decide +kernel) (by decide +kernel)
set_option maxRecDepth 20000 in
theorem gX9_addSlurry_X9_isThrown : GoodIn wsX9_addSlurry (wsV RX9 79 RX9 yX9_isThrown wsX9_isThrown) := goodIn_app (goodIn_of _ (by decide +kernel)) ggX9_addSlurry_X9_isThrown
theorem dX9_addSlurry_0 : decode cX9_addSlurry 0 = .ok (.aload_n 0, 1) := by decide +kernel
theorem dX9_addSlurry_1 : decode cX9_addSlurry 1 = .ok (.iload_n 1, 1) := by decide +kernel
theorem dX9_addSlurry_2 : decode cX9_addSlurry 2 = .ok (.iconst 1, 1) := by decide +kernel
theorem dX9_addSlurry_3 : decode cX9_addSlurry 3 = .ok (.sipush 500, 3) := by decide +kernel
theorem dX9_addSlurry_6 : decode cX9_addSlurry 6 = .ok (.invokestatic 75, 3) := by decide +kernel
theorem dX9_addSlurry_9 : decode cX9_addSlurry 9 = .ok (.ifCond .ne 7, 3) := by decide +kernel
theorem dX9_addSlurry_12 : decode cX9_addSlurry 12 = .ok (.iconst 1, 1) := by decide +kernel
theorem dX9_addSlurry_13 : decode cX9_addSlurry 13 = .ok (.goto 4, 3) := by decide +kernel
theorem dX9_addSlurry_16 : decode cX9_addSlurry 16 = .ok (.iconst 0, 1) := by decide +kernel
theorem dX9_addSlurry_17 : decode cX9_addSlurry 17 = .ok (.iconst 1, 1) := by decide +kernel
theorem dX9_addSlurry_18 : decode cX9_addSlurry 18 = .ok (.invokevirtual 79, 3) := by decide +kernel
theorem dX9_addSlurry_21 : decode cX9_addSlurry 21 = .ok (.ifCond .ne 28, 3) := by decide +kernel
theorem dX9_addSlurry_24 : decode cX9_addSlurry 24 = .ok (.aload_n 0, 1) := by decide +kernel
theorem dX9_addSlurry_25 : decode cX9_addSlurry 25 = .ok (.aload_n 0, 1) := by decide +kernel
theorem dX9_addSlurry_26 : decode cX9_addSlurry 26 = .ok (.getfield 118, 3) := by decide +kernel
theorem dX9_addSlurry_29 : decode cX9_addSlurry 29 = .ok (.iload_n 1, 1) := by decide +kernel
theorem dX9_addSlurry_30 : decode cX9_addSlurry 30 = .ok (.iadd, 1) := by decide +kernel
theorem dX9_addSlurry_31 : decode cX9_addSlurry 31 = .ok (.sipush 1000, 3) := by decide +kernel
theorem dX9_addSlurry_34 : decode cX9_addSlurry 34 = .ok (.if_icmp .le 7, 3) := by decide +kernel
theorem dX9_addSlurry_37 : decode cX9_addSlurry 37 = .ok (.iconst 1, 1) := by decide +kernel
theorem dX9_addSlurry_38 : decode cX9_addSlurry 38 = .ok (.goto 4, 3) := by decide +kernel
theorem dX9_addSlurry_41 : decode cX9_addSlurry 41 = .ok (.iconst 0, 1) := by decide +kernel
theorem dX9_addSlurry_42 : decode cX9_addSlurry 42 = .ok (.iconst 2, 1) := by decide +kernel
theorem dX9_addSlurry_43 : decode cX9_addSlurry 43 = .ok (.invokevirtual 79, 3) := by decide +kernel
theorem dX9_addSlurry_46 : decode cX9_addSlurry 46 = .ok (.ifCond .eq 5, 3) := by decide +kernel
theorem dX9_addSlurry_49 : decode cX9_addSlurry 49 = .ok (.iconst 0, 1) := by decide +kernel
theorem dX9_addSlurry_50 : decode cX9_addSlurry 50 = .ok (.ireturn, 1) := by decide +kernel
theorem dX9_addSlurry_51 : decode cX9_addSlurry 51 = .ok (.aload_n 0, 1) := by decide +kernel
theorem dX9_addSlurry_52 : decode cX9_addSlurry 52 = .ok (.dup, 1) := by decide +kernel
theorem dX9_addSlurry_53 : decode cX9_addSlurry 53 = .ok (.getfield 118, 3) := by decide +kernel
theorem dX9_addSlurry_56 : decode cX9_addSlurry 56 = .ok (.iload_n 1, 1) := by decide +kernel
theorem dX9_addSlurry_57 : decode cX9_addSlurry 57 = .ok (.iadd, 1) := by decide +kernel
theorem dX9_addSlurry_58 : decode cX9_addSlurry 58 = .ok (.putfield 118, 3) := by decide +kernel
theorem dX9_addSlurry_61 : decode cX9_addSlurry 61 = .ok (.aload_n 0, 1) := by decide +kernel
theorem dX9_addSlurry_62 : decode cX9_addSlurry 62 = .ok (.getfield 118, 3) := by decide +kernel
theorem dX9_addSlurry_65 : decode cX9_addSlurry 65 = .ok (.ireturn, 1) := by decide +kernel
theorem dX9_slurry_0 : decode cX9_slurry 0 = .ok (.aload_n 0, 1) := by decide +kernel
theorem dX9_slurry_1 : decode cX9_slurry 1 = .ok (.iconst 0, 1) := by decide +kernel
theorem dX9_slurry_2 : decode cX9_slurry 2 = .ok (.putfield 72, 3) := by decide +kernel
theorem dX9_slurry_5 : decode cX9_slurry 5 = .ok (.aload_n 0, 1) := by decide +kernel
theorem dX9_slurry_6 : decode cX9_slurry 6 = .ok (.getfield 118, 3) := by decide +kernel
theorem dX9_slurry_9 : decode cX9_slurry 9 = .ok (.ireturn, 1) := by decide +kernel
theorem dX9_takes_0 : decode cX9_takes 0 = .ok (.bipush 10, 2) := by decide +kernel
theorem dX9_takes_2 : decode cX9_takes 2 = .ok (.aload_n 0, 1) := by decide +kernel
theorem dX9_takes_3 : decode cX9_takes 3 = .ok (.getfield 13, 3) := by decide +kernel
theorem dX9_takes_6 : decode cX9_takes 6 = .ok (.aload_n 0, 1) := by decide +kernel
theorem dX9_takes_7 : decode cX9_takes 7 = .ok (.getfield 121, 3) := by decide +kernel
theorem dX9_takes_10 : decode cX9_takes 10 = .ok (.iaload, 1) := by decide +kernel
theorem dX9_takes_11 : decode cX9_takes 11 = .ok (.iadd, 1) := by decide +kernel
theorem dX9_takes_12 : decode cX9_takes 12 = .ok (.iconst 0, 1) := by decide +kernel
theorem dX9_takes_13 : decode cX9_takes 13 = .ok (.aload_n 0, 1) := by decide +kernel
theorem dX9_takes_14 : decode cX9_takes 14 = .ok (.getfield 65, 3) := by decide +kernel
theorem dX9_takes_17 : decode cX9_takes 17 = .ok (.aload_n 0, 1) := by decide +kernel
theorem dX9_takes_18 : decode cX9_takes 18 = .ok (.getfield 9, 3) := by decide +kernel
theorem dX9_takes_21 : decode cX9_takes 21 = .ok (.aload_n 0, 1) := by decide +kernel
theorem dX9_takes_22 : decode cX9_takes 22 = .ok (.getfield 121, 3) := by decide +kernel
theorem dX9_takes_25 : decode cX9_takes 25 = .ok (.iaload, 1) := by decide +kernel
theorem dX9_takes_26 : decode cX9_takes 26 = .ok (.isub, 1) := by decide +kernel
theorem dX9_takes_27 : decode cX9_takes 27 = .ok (.bipush 20, 2) := by decide +kernel
theorem dX9_takes_29 : decode cX9_takes 29 = .ok (.isub, 1) := by decide +kernel
theorem dX9_takes_30 : decode cX9_takes 30 = .ok (.invokestatic 106, 3) := by decide +kernel
theorem dX9_takes_33 : decode cX9_takes 33 = .ok (.iadd, 1) := by decide +kernel
theorem dX9_takes_34 : decode cX9_takes 34 = .ok (.ireturn, 1) := by decide +kernel
set_option maxRecDepth 20000 in
theorem ggX9_slurryFor_X9_isThrown : GoodIn wsX9_slurryFor wsX9_isThrown := goodIn_r _ [7, 8, 20, 21, 22, 23, 24, 25, 26, 27, 28, 29, 30, 31, 32, 33, 34, 35, 36, 37, 38, 39, 40, 41, 42, 43, 44, 45, 46, 47, 48, 49] (by decide +kernel) (by decide +kernel)
set_option maxRecDepth 20000 in
theorem gX9_slurryFor_X9_isThrown : GoodIn wsX9_slurryFor (wsV RX9 79 RX9 yX9_isThrown wsX9_isThrown) := goodIn_app (goodIn_of _ (by decide +kernel)) ggX9_slurryFor_X9_isThrown
set_option maxRecDepth 20000 in
theorem ggX9_slurryFor_X9_takes : GoodIn wsX9_slurryFor wsX9_takes := goodIn_ca (goodIn_r _ [12, 13, 1, 14, 15, 16, 17, 18, 19, 20, 21, 22, 23, 24, 25, 26, 27, 28, 29, 30, 31, 32, 33, 34, 35, 36, 37, 38, 39, 40, 41, 42, 43, 44, 45, 46, 47, 48, 49] (by decide +kernel) (by decide +kernel)) (goodIn_sub (fun _ h => List.mem_cons_of_mem _ (List.mem_append_right _ h)) (by decide +kernel))
set_option maxRecDepth 20000 in
theorem gX9_slurryFor_X9_takes : GoodIn wsX9_slurryFor (wsV RX9 124 RX9 yX9_takes wsX9_takes) := goodIn_app (goodIn_of _ (by decide +kernel)) ggX9_slurryFor_X9_takes
theorem dX9_slurryFor_0 : decode cX9_slurryFor 0 = .ok (.aload_n 0, 1) := by decide +kernel
theorem dX9_slurryFor_1 : decode cX9_slurryFor 1 = .ok (.aload_n 0, 1) := by decide +kernel
theorem dX9_slurryFor_2 : decode cX9_slurryFor 2 = .ok (.getfield 121, 3) := by decide +kernel
theorem dX9_slurryFor_5 : decode cX9_slurryFor 5 = .ok (.aload_n 0, 1) := by decide +kernel
theorem dX9_slurryFor_6 : decode cX9_slurryFor 6 = .ok (.getfield 83, 3) := by decide +kernel
theorem dX9_slurryFor_9 : decode cX9_slurryFor 9 = .ok (.if_icmp .lt 7, 3) := by decide +kernel
theorem dX9_slurryFor_12 : decode cX9_slurryFor 12 = .ok (.iconst 1, 1) := by decide +kernel
theorem dX9_slurryFor_13 : decode cX9_slurryFor 13 = .ok (.goto 4, 3) := by decide +kernel
theorem dX9_slurryFor_16 : decode cX9_slurryFor 16 = .ok (.iconst 0, 1) := by decide +kernel
theorem dX9_slurryFor_17 : decode cX9_slurryFor 17 = .ok (.iconst 1, 1) := by decide +kernel
theorem dX9_slurryFor_18 : decode cX9_slurryFor 18 = .ok (.invokevirtual 79, 3) := by decide +kernel
theorem dX9_slurryFor_21 : decode cX9_slurryFor 21 = .ok (.ifCond .eq 7, 3) := by decide +kernel
theorem dX9_slurryFor_24 : decode cX9_slurryFor 24 = .ok (.iconst 0, 1) := by decide +kernel
theorem dX9_slurryFor_25 : decode cX9_slurryFor 25 = .ok (.goto 7, 3) := by decide +kernel
theorem dX9_slurryFor_28 : decode cX9_slurryFor 28 = .ok (.aload_n 0, 1) := by decide +kernel
theorem dX9_slurryFor_29 : decode cX9_slurryFor 29 = .ok (.invokevirtual 124, 3) := by decide +kernel
theorem dX9_slurryFor_32 : decode cX9_slurryFor 32 = .ok (.ireturn, 1) := by decide +kernel
set_option maxRecDepth 20000 in
theorem ggX9_setTolerance_X9_isIn : GoodIn wsX9_setTolerance wsX9_isIn := goodIn_r _ [5] (by decide +kernel) (by decide +kernel)
set_option maxRecDepth 20000 in
theorem gX9_setTolerance_X9_isIn : GoodIn wsX9_setTolerance (va_wsS RX9 75 yX9_isIn wsX9_isIn) := goodIn_app (goodIn_of _ (by decide +kernel)) ggX9_setTolerance_X9_isIn
set_option maxRecDepth 20000 in
theorem ggX9_setTolerance_X9_isThrown : GoodIn wsX9_setTolerance wsX9_isThrown := goodIn_r _ [9, 10, 11, 12, 13, 14, 15, 16, 17, 18, 19, 20, 21, 22, 23, 24, 25, 26, 27, 28, 29, 30, 31, 32, 33, 34, 35, 36, 37, 38, 39, 40] (by decide +kernel) (by decide +kernel)
set_option maxRecDepth 20000 in
theorem gX9_setTolerance_X9_isThrown : GoodIn wsX9_setTolerance (wsV RX9 79 RX9 yX9_isThrown wsX9_isThrown) := goodIn_app (goodIn_of _ (by decide +kernel)) ggX9_setTolerance_X9_isThrown
theorem dX9_setTolerance_0 : decode cX9_setTolerance 0 = .ok (.aload_n 0, 1) := by decide +kernel
theorem dX9_setTolerance_1 : decode cX9_setTolerance 1 = .ok (.iload_n 1, 1) := by decide +kernel
theorem dX9_setTolerance_2 : decode cX9_setTolerance 2 = .ok (.iconst 0, 1) := by decide +kernel
theorem dX9_setTolerance_3 : decode cX9_setTolerance 3 = .ok (.sipush 9999, 3) := by decide +kernel
theorem dX9_setTolerance_6 : decode cX9_setTolerance 6 = .ok (.invokestatic 75, 3) := by decide +kernel
theorem dX9_setTolerance_9 : decode cX9_setTolerance 9 = .ok (.ifCond .ne 7, 3) := by decide +kernel
theorem dX9_setTolerance_12 : decode cX9_setTolerance 12 = .ok (.iconst 1, 1) := by decide +kernel
theorem dX9_setTolerance_13 : decode cX9_setTolerance 13 = .ok (.goto 4, 3) := by decide +kernel
theorem dX9_setTolerance_16 : decode cX9_setTolerance 16 = .ok (.iconst 0, 1) := by decide +kernel
theorem dX9_setTolerance_17 : decode cX9_setTolerance 17 = .ok (.iconst 1, 1) := by decide +kernel
theorem dX9_setTolerance_18 : decode cX9_setTolerance 18 = .ok (.invokevirtual 79, 3) := by decide +kernel
theorem dX9_setTolerance_21 : decode cX9_setTolerance 21 = .ok (.ifCond .eq 5, 3) := by decide +kernel
theorem dX9_setTolerance_24 : decode cX9_setTolerance 24 = .ok (.iconst 0, 1) := by decide +kernel
theorem dX9_setTolerance_25 : decode cX9_setTolerance 25 = .ok (.ireturn, 1) := by decide +kernel
theorem dX9_setTolerance_26 : decode cX9_setTolerance 26 = .ok (.aload_n 0, 1) := by decide +kernel
theorem dX9_setTolerance_27 : decode cX9_setTolerance 27 = .ok (.getfield 69, 3) := by decide +kernel
theorem dX9_setTolerance_30 : decode cX9_setTolerance 30 = .ok (.istore_n 2, 1) := by decide +kernel
theorem dX9_setTolerance_31 : decode cX9_setTolerance 31 = .ok (.aload_n 0, 1) := by decide +kernel
theorem dX9_setTolerance_32 : decode cX9_setTolerance 32 = .ok (.iload_n 1, 1) := by decide +kernel
theorem dX9_setTolerance_33 : decode cX9_setTolerance 33 = .ok (.putfield 69, 3) := by decide +kernel
theorem dX9_setTolerance_36 : decode cX9_setTolerance 36 = .ok (.iload_n 2, 1) := by decide +kernel
theorem dX9_setTolerance_37 : decode cX9_setTolerance 37 = .ok (.ireturn, 1) := by decide +kernel
theorem dX9_planned_0 : decode cX9_planned 0 = .ok (.iconst 0, 1) := by decide +kernel
theorem dX9_planned_1 : decode cX9_planned 1 = .ok (.istore_n 3, 1) := by decide +kernel
theorem dX9_planned_2 : decode cX9_planned 2 = .ok (.iconst 0, 1) := by decide +kernel
theorem dX9_planned_3 : decode cX9_planned 3 = .ok (.istore 4, 2) := by decide +kernel
theorem dX9_planned_5 : decode cX9_planned 5 = .ok (.iconst 0, 1) := by decide +kernel
theorem dX9_planned_6 : decode cX9_planned 6 = .ok (.istore 5, 2) := by decide +kernel
theorem dX9_planned_8 : decode cX9_planned 8 = .ok (.iload 5, 2) := by decide +kernel
theorem dX9_planned_10 : decode cX9_planned 10 = .ok (.iload_n 1, 1) := by decide +kernel
theorem dX9_planned_11 : decode cX9_planned 11 = .ok (.if_icmp .gt 35, 3) := by decide +kernel
theorem dX9_planned_14 : decode cX9_planned 14 = .ok (.iload_n 3, 1) := by decide +kernel
theorem dX9_planned_15 : decode cX9_planned 15 = .ok (.iload 5, 2) := by decide +kernel
theorem dX9_planned_17 : decode cX9_planned 17 = .ok (.aload_n 0, 1) := by decide +kernel
theorem dX9_planned_18 : decode cX9_planned 18 = .ok (.getfield 86, 3) := by decide +kernel
theorem dX9_planned_21 : decode cX9_planned 21 = .ok (.if_icmp .ge 10, 3) := by decide +kernel
theorem dX9_planned_24 : decode cX9_planned 24 = .ok (.aload_n 2, 1) := by decide +kernel
theorem dX9_planned_25 : decode cX9_planned 25 = .ok (.iload 5, 2) := by decide +kernel
theorem dX9_planned_27 : decode cX9_planned 27 = .ok (.iaload, 1) := by decide +kernel
theorem dX9_planned_28 : decode cX9_planned 28 = .ok (.goto 4, 3) := by decide +kernel
theorem dX9_planned_31 : decode cX9_planned 31 = .ok (.iconst 0, 1) := by decide +kernel
theorem dX9_planned_32 : decode cX9_planned 32 = .ok (.iadd, 1) := by decide +kernel
theorem dX9_planned_33 : decode cX9_planned 33 = .ok (.istore_n 3, 1) := by decide +kernel
theorem dX9_planned_34 : decode cX9_planned 34 = .ok (.iload 4, 2) := by decide +kernel
theorem dX9_planned_36 : decode cX9_planned 36 = .ok (.iload_n 3, 1) := by decide +kernel
theorem dX9_planned_37 : decode cX9_planned 37 = .ok (.iadd, 1) := by decide +kernel
theorem dX9_planned_38 : decode cX9_planned 38 = .ok (.istore 4, 2) := by decide +kernel
theorem dX9_planned_40 : decode cX9_planned 40 = .ok (.iinc 5 1, 3) := by decide +kernel
theorem dX9_planned_43 : decode cX9_planned 43 = .ok (.goto (-35), 3) := by decide +kernel
theorem dX9_planned_46 : decode cX9_planned 46 = .ok (.iload 4, 2) := by decide +kernel
theorem dX9_planned_48 : decode cX9_planned 48 = .ok (.ireturn, 1) := by decide +kernel
set_option maxRecDepth 20000 in
theorem ggX9_apart_X9_planned : GoodIn wsX9_apart wsX9_planned := goodIn_ca (goodIn_r _ [11, 12, 13, 14, 15, 16, 17, 18, 19, 20, 21, 22, 23, 24, 25, 26, 27, 28, 29, 30, 31, 32, 33, 34, 35, 36, 37, 38, 39, 40, 41, 42] (by decide +kernel) (by decide +kernel)) (goodIn_sub (fun _ h => List.mem_cons_of_mem _ (List.mem_append_right _ h)) (by decide +kernel))
set_option maxRecDepth 20000 in
theorem gX9_apart_X9_planned : GoodIn wsX9_apart (wsV RX9 128 RX9 yX9_planned wsX9_planned) := goodIn_app (goodIn_of _ (by decide +kernel)) ggX9_apart_X9_planned
theorem dX9_apart_0 : decode cX9_apart 0 = .ok (.iload_n 2, 1) := by decide +kernel
theorem dX9_apart_1 : decode cX9_apart 1 = .ok (.aload_n 0, 1) := by decide +kernel
theorem dX9_apart_2 : decode cX9_apart 2 = .ok (.iload_n 1, 1) := by decide +kernel
theorem dX9_apart_3 : decode cX9_apart 3 = .ok (.aload_n 0, 1) := by decide +kernel
theorem dX9_apart_4 : decode cX9_apart 4 = .ok (.getfield 16, 3) := by decide +kernel
theorem dX9_apart_7 : decode cX9_apart 7 = .ok (.invokevirtual 128, 3) := by decide +kernel
theorem dX9_apart_10 : decode cX9_apart 10 = .ok (.isub, 1) := by decide +kernel
theorem dX9_apart_11 : decode cX9_apart 11 = .ok (.invokestatic 132, 3) := by decide +kernel
theorem dX9_apart_14 : decode cX9_apart 14 = .ok (.iload_n 3, 1) := by decide +kernel
theorem dX9_apart_15 : decode cX9_apart 15 = .ok (.aload_n 0, 1) := by decide +kernel
theorem dX9_apart_16 : decode cX9_apart 16 = .ok (.iload_n 1, 1) := by decide +kernel
theorem dX9_apart_17 : decode cX9_apart 17 = .ok (.aload_n 0, 1) := by decide +kernel
theorem dX9_apart_18 : decode cX9_apart 18 = .ok (.getfield 19, 3) := by decide +kernel
theorem dX9_apart_21 : decode cX9_apart 21 = .ok (.invokevirtual 128, 3) := by decide +kernel
theorem dX9_apart_24 : decode cX9_apart 24 = .ok (.isub, 1) := by decide +kernel
theorem dX9_apart_25 : decode cX9_apart 25 = .ok (.invokestatic 132, 3) := by decide +kernel
theorem dX9_apart_28 : decode cX9_apart 28 = .ok (.iadd, 1) := by decide +kernel
theorem dX9_apart_29 : decode cX9_apart 29 = .ok (.ireturn, 1) := by decide +kernel
theorem dX9_lastX_0 : decode cX9_lastX 0 = .ok (.aload_n 0, 1) := by decide +kernel
theorem dX9_lastX_1 : decode cX9_lastX 1 = .ok (.getfield 121, 3) := by decide +kernel
theorem dX9_lastX_4 : decode cX9_lastX 4 = .ok (.ifCond .ne 7, 3) := by decide +kernel
theorem dX9_lastX_7 : decode cX9_lastX 7 = .ok (.iconst 0, 1) := by decide +kernel
theorem dX9_lastX_8 : decode cX9_lastX 8 = .ok (.goto 14, 3) := by decide +kernel
theorem dX9_lastX_11 : decode cX9_lastX 11 = .ok (.aload_n 0, 1) := by decide +kernel
theorem dX9_lastX_12 : decode cX9_lastX 12 = .ok (.getfield 31, 3) := by decide +kernel
theorem dX9_lastX_15 : decode cX9_lastX 15 = .ok (.aload_n 0, 1) := by decide +kernel
theorem dX9_lastX_16 : decode cX9_lastX 16 = .ok (.getfield 121, 3) := by decide +kernel
theorem dX9_lastX_19 : decode cX9_lastX 19 = .ok (.iconst 1, 1) := by decide +kernel
theorem dX9_lastX_20 : decode cX9_lastX 20 = .ok (.isub, 1) := by decide +kernel
theorem dX9_lastX_21 : decode cX9_lastX 21 = .ok (.iaload, 1) := by decide +kernel
theorem dX9_lastX_22 : decode cX9_lastX 22 = .ok (.ireturn, 1) := by decide +kernel
theorem dX9_lastY_0 : decode cX9_lastY 0 = .ok (.aload_n 0, 1) := by decide +kernel
theorem dX9_lastY_1 : decode cX9_lastY 1 = .ok (.getfield 121, 3) := by decide +kernel
theorem dX9_lastY_4 : decode cX9_lastY 4 = .ok (.ifCond .ne 7, 3) := by decide +kernel
theorem dX9_lastY_7 : decode cX9_lastY 7 = .ok (.iconst 0, 1) := by decide +kernel
theorem dX9_lastY_8 : decode cX9_lastY 8 = .ok (.goto 14, 3) := by decide +kernel
theorem dX9_lastY_11 : decode cX9_lastY 11 = .ok (.aload_n 0, 1) := by decide +kernel
theorem dX9_lastY_12 : decode cX9_lastY 12 = .ok (.getfield 34, 3) := by decide +kernel
theorem dX9_lastY_15 : decode cX9_lastY 15 = .ok (.aload_n 0, 1) := by decide +kernel
theorem dX9_lastY_16 : decode cX9_lastY 16 = .ok (.getfield 121, 3) := by decide +kernel
theorem dX9_lastY_19 : decode cX9_lastY 19 = .ok (.iconst 1, 1) := by decide +kernel
theorem dX9_lastY_20 : decode cX9_lastY 20 = .ok (.isub, 1) := by decide +kernel
theorem dX9_lastY_21 : decode cX9_lastY 21 = .ok (.iaload, 1) := by decide +kernel
theorem dX9_lastY_22 : decode cX9_lastY 22 = .ok (.ireturn, 1) := by decide +kernel
set_option maxRecDepth 20000 in
theorem ggX9_deviation_X9_lastX : GoodIn wsX9_deviation wsX9_lastX := goodIn_ca (goodIn_r _ [8, 1, 9, 36, 37, 38, 39, 40, 41, 42, 43, 44, 45, 46, 47, 48, 49, 50, 51, 52, 53, 54, 55, 56, 57, 58, 59, 60, 61, 62, 63, 64, 65] (by decide +kernel) (by decide +kernel)) (goodIn_sub (fun _ h => List.mem_cons_of_mem _ (List.mem_append_right _ h)) (by decide +kernel))
set_option maxRecDepth 20000 in
theorem gX9_deviation_X9_lastX : GoodIn wsX9_deviation (wsV RX9 135 RX9 yX9_lastX wsX9_lastX) := goodIn_app (goodIn_of _ (by decide +kernel)) ggX9_deviation_X9_lastX
set_option maxRecDepth 20000 in
theorem ggX9_deviation_X9_across : GoodIn wsX9_deviation wsX9_across := goodIn_r _ [12] (by decide +kernel) (by decide +kernel)
set_option maxRecDepth 20000 in
theorem gX9_deviation_X9_across : GoodIn wsX9_deviation (va_wsS RX9 141 yX9_across wsX9_across) := goodIn_app (goodIn_of _ (by decide +kernel)) ggX9_deviation_X9_across
set_option maxRecDepth 20000 in
theorem ggX9_deviation_X9_lastY : GoodIn wsX9_deviation wsX9_lastY := goodIn_ca (goodIn_r _ [16, 1, 17, 36, 37, 38, 39, 40, 41, 42, 43, 44, 45, 46, 47, 48, 49, 50, 51, 52, 53, 54, 55, 56, 57, 58, 59, 60, 61, 62, 63, 64, 65] (by decide +kernel) (by decide +kernel)) (goodIn_sub (fun _ h => List.mem_cons_of_mem _ (List.mem_append_right _ h)) (by decide +kernel))
set_option maxRecDepth 20000 in
theorem gX9_deviation_X9_lastY : GoodIn wsX9_deviation (wsV RX9 144 RX9 yX9_lastY wsX9_lastY) := goodIn_app (goodIn_of _ (by decide +kernel)) ggX9_deviation_X9_lastY
set_option maxRecDepth 20000 in
theorem ggX9_deviation_X9_up : GoodIn wsX9_deviation wsX9_up := goodIn_r _ [20] (by decide +kernel) (by decide +kernel)
set_option maxRecDepth 20000 in
theorem gX9_deviation_X9_up : GoodIn wsX9_deviation (va_wsS RX9 150 yX9_up wsX9_up) := goodIn_app (goodIn_of _ (by decide +kernel)) ggX9_deviation_X9_up
set_option maxRecDepth 20000 in
theorem ggX9_deviation_X9_apart : GoodIn wsX9_deviation wsX9_apart := goodIn_ca (goodIn_r _ [24, 25, 26, 27, 28, 29, 30, 31, 32, 33, 7, 34, 35, 36, 37, 38, 39, 40, 41, 42, 43, 44, 45, 46, 47, 48, 49, 50, 51, 52, 53, 54, 55, 56, 57, 58, 59, 60, 61, 62, 63, 64, 65] (by decide +kernel) (by decide +kernel)) (goodIn_sub (fun _ h => List.mem_cons_of_mem _ (List.mem_append_right _ h)) (by decide +kernel))
set_option maxRecDepth 20000 in
theorem gX9_deviation_X9_apart : GoodIn wsX9_deviation (wsV RX9 153 RX9 yX9_apart wsX9_apart) := goodIn_app (goodIn_of _ (by decide +kernel)) ggX9_deviation_X9_apart
theorem dX9_deviation_0 : decode cX9_deviation 0 = .ok (.aload_n 0, 1) := by decide +kernel
theorem dX9_deviation_1 : decode cX9_deviation 1 = .ok (.aload_n 0, 1) := by decide +kernel
theorem dX9_deviation_2 : decode cX9_deviation 2 = .ok (.getfield 121, 3) := by decide +kernel
theorem dX9_deviation_5 : decode cX9_deviation 5 = .ok (.aload_n 0, 1) := by decide +kernel
theorem dX9_deviation_6 : decode cX9_deviation 6 = .ok (.invokevirtual 135, 3) := by decide +kernel
theorem dX9_deviation_9 : decode cX9_deviation 9 = .ok (.aload_n 0, 1) := by decide +kernel
theorem dX9_deviation_10 : decode cX9_deviation 10 = .ok (.getfield 138, 3) := by decide +kernel
theorem dX9_deviation_13 : decode cX9_deviation 13 = .ok (.iadd, 1) := by decide +kernel
theorem dX9_deviation_14 : decode cX9_deviation 14 = .ok (.iload_n 1, 1) := by decide +kernel
theorem dX9_deviation_15 : decode cX9_deviation 15 = .ok (.iload_n 2, 1) := by decide +kernel
theorem dX9_deviation_16 : decode cX9_deviation 16 = .ok (.invokestatic 141, 3) := by decide +kernel
theorem dX9_deviation_19 : decode cX9_deviation 19 = .ok (.imul, 1) := by decide +kernel
theorem dX9_deviation_20 : decode cX9_deviation 20 = .ok (.iadd, 1) := by decide +kernel
theorem dX9_deviation_21 : decode cX9_deviation 21 = .ok (.aload_n 0, 1) := by decide +kernel
theorem dX9_deviation_22 : decode cX9_deviation 22 = .ok (.invokevirtual 144, 3) := by decide +kernel
theorem dX9_deviation_25 : decode cX9_deviation 25 = .ok (.aload_n 0, 1) := by decide +kernel
theorem dX9_deviation_26 : decode cX9_deviation 26 = .ok (.getfield 147, 3) := by decide +kernel
theorem dX9_deviation_29 : decode cX9_deviation 29 = .ok (.iadd, 1) := by decide +kernel
theorem dX9_deviation_30 : decode cX9_deviation 30 = .ok (.iload_n 1, 1) := by decide +kernel
theorem dX9_deviation_31 : decode cX9_deviation 31 = .ok (.iload_n 2, 1) := by decide +kernel
theorem dX9_deviation_32 : decode cX9_deviation 32 = .ok (.invokestatic 150, 3) := by decide +kernel
theorem dX9_deviation_35 : decode cX9_deviation 35 = .ok (.imul, 1) := by decide +kernel
theorem dX9_deviation_36 : decode cX9_deviation 36 = .ok (.iadd, 1) := by decide +kernel
theorem dX9_deviation_37 : decode cX9_deviation 37 = .ok (.invokevirtual 153, 3) := by decide +kernel
theorem dX9_deviation_40 : decode cX9_deviation 40 = .ok (.ireturn, 1) := by decide +kernel
theorem dX9_fits_0 : decode cX9_fits 0 = .ok (.iload_n 0, 1) := by decide +kernel
theorem dX9_fits_1 : decode cX9_fits 1 = .ok (.ifCond .lt 18, 3) := by decide +kernel
theorem dX9_fits_4 : decode cX9_fits 4 = .ok (.iload_n 0, 1) := by decide +kernel
theorem dX9_fits_5 : decode cX9_fits 5 = .ok (.iload_n 1, 1) := by decide +kernel
theorem dX9_fits_6 : decode cX9_fits 6 = .ok (.if_icmp .eq 17, 3) := by decide +kernel
theorem dX9_fits_9 : decode cX9_fits 9 = .ok (.iload_n 0, 1) := by decide +kernel
theorem dX9_fits_10 : decode cX9_fits 10 = .ok (.iload_n 1, 1) := by decide +kernel
theorem dX9_fits_11 : decode cX9_fits 11 = .ok (.isub, 1) := by decide +kernel
theorem dX9_fits_12 : decode cX9_fits 12 = .ok (.invokestatic 132, 3) := by decide +kernel
theorem dX9_fits_15 : decode cX9_fits 15 = .ok (.iconst 4, 1) := by decide +kernel
theorem dX9_fits_16 : decode cX9_fits 16 = .ok (.if_icmp .eq 7, 3) := by decide +kernel
theorem dX9_fits_19 : decode cX9_fits 19 = .ok (.iconst 1, 1) := by decide +kernel
theorem dX9_fits_20 : decode cX9_fits 20 = .ok (.goto 4, 3) := by decide +kernel
theorem dX9_fits_23 : decode cX9_fits 23 = .ok (.iconst 0, 1) := by decide +kernel
theorem dX9_fits_24 : decode cX9_fits 24 = .ok (.ireturn, 1) := by decide +kernel
theorem dX9_before_0 : decode cX9_before 0 = .ok (.aload_n 0, 1) := by decide +kernel
theorem dX9_before_1 : decode cX9_before 1 = .ok (.getfield 121, 3) := by decide +kernel
theorem dX9_before_4 : decode cX9_before 4 = .ok (.ifCond .ne 7, 3) := by decide +kernel
theorem dX9_before_7 : decode cX9_before 7 = .ok (.iconst (-1), 1) := by decide +kernel
theorem dX9_before_8 : decode cX9_before 8 = .ok (.goto 14, 3) := by decide +kernel
theorem dX9_before_11 : decode cX9_before 11 = .ok (.aload_n 0, 1) := by decide +kernel
theorem dX9_before_12 : decode cX9_before 12 = .ok (.getfield 25, 3) := by decide +kernel
theorem dX9_before_15 : decode cX9_before 15 = .ok (.aload_n 0, 1) := by decide +kernel
theorem dX9_before_16 : decode cX9_before 16 = .ok (.getfield 121, 3) := by decide +kernel
theorem dX9_before_19 : decode cX9_before 19 = .ok (.iconst 1, 1) := by decide +kernel
theorem dX9_before_20 : decode cX9_before 20 = .ok (.isub, 1) := by decide +kernel
theorem dX9_before_21 : decode cX9_before 21 = .ok (.iaload, 1) := by decide +kernel
theorem dX9_before_22 : decode cX9_before 22 = .ok (.ireturn, 1) := by decide +kernel
set_option maxRecDepth 20000 in
theorem ggX9_reason_X9_top : GoodIn wsX9_reason wsX9_top := goodIn_ca (goodIn_r _ [11, 1, 73, 74, 75, 76, 77, 78, 79, 80, 81, 82, 83, 84, 85, 86, 87, 88, 89, 90, 91, 92, 93, 94, 95, 96, 97, 98, 99, 100, 101, 102] (by decide +kernel) (by decide +kernel)) (goodIn_sub (fun _ h => List.mem_cons_of_mem _ (List.mem_append_right _ h)) (by decide +kernel))
set_option maxRecDepth 20000 in
theorem gX9_reason_X9_top : GoodIn wsX9_reason (wsV RX9 99 RX9 yX9_top wsX9_top) := goodIn_app (goodIn_of _ (by decide +kernel)) ggX9_reason_X9_top
set_option maxRecDepth 20000 in
theorem ggX9_reason_X9_toCure : GoodIn wsX9_reason wsX9_toCure := goodIn_ca (goodIn_r _ [15, 16, 17, 18, 19, 20, 21, 73, 74, 75, 76, 77, 78, 79, 80, 81, 82, 83, 84, 85, 86, 87, 88, 89, 90, 91, 92, 93, 94, 95, 96, 97, 98, 99, 100, 101, 102] (by decide +kernel) (by decide +kernel)) (goodIn_sub (fun _ h => List.mem_cons_of_mem _ (List.mem_append_right _ h)) (by decide +kernel))
set_option maxRecDepth 20000 in
theorem gX9_reason_X9_toCure : GoodIn wsX9_reason (wsV RX9 115 RX9 yX9_toCure wsX9_toCure) := goodIn_app (goodIn_of _ (by decide +kernel)) ggX9_reason_X9_toCure
set_option maxRecDepth 20000 in
theorem ggX9_reason_X9_before : GoodIn wsX9_reason wsX9_before := goodIn_ca (goodIn_r _ [25, 2, 26, 73, 74, 75, 76, 77, 78, 79, 80, 81, 82, 83, 84, 85, 86, 87, 88, 89, 90, 91, 92, 93, 94, 95, 96, 97, 98, 99, 100, 101, 102] (by decide +kernel) (by decide +kernel)) (goodIn_sub (fun _ h => List.mem_cons_of_mem _ (List.mem_append_right _ h)) (by decide +kernel))
set_option maxRecDepth 20000 in
theorem gX9_reason_X9_before : GoodIn wsX9_reason (wsV RX9 157 RX9 yX9_before wsX9_before) := goodIn_app (goodIn_of _ (by decide +kernel)) ggX9_reason_X9_before
set_option maxRecDepth 20000 in
theorem ggX9_reason_X9_fits : GoodIn wsX9_reason wsX9_fits := goodIn_r _ [29, 30, 31, 20, 32] (by decide +kernel) (by decide +kernel)
set_option maxRecDepth 20000 in
theorem gX9_reason_X9_fits : GoodIn wsX9_reason (va_wsS RX9 160 yX9_fits wsX9_fits) := goodIn_app (goodIn_of _ (by decide +kernel)) ggX9_reason_X9_fits
set_option maxRecDepth 20000 in
theorem ggX9_reason_X9_takes : GoodIn wsX9_reason wsX9_takes := goodIn_ca (goodIn_r _ [36, 37, 2, 38, 39, 18, 19, 20, 21, 73, 74, 75, 76, 77, 78, 79, 80, 81, 82, 83, 84, 85, 86, 87, 88, 89, 90, 91, 92, 93, 94, 95, 96, 97, 98, 99, 100, 101, 102] (by decide +kernel) (by decide +kernel)) (goodIn_sub (fun _ h => List.mem_cons_of_mem _ (List.mem_append_right _ h)) (by decide +kernel))
set_option maxRecDepth 20000 in
theorem gX9_reason_X9_takes : GoodIn wsX9_reason (wsV RX9 124 RX9 yX9_takes wsX9_takes) := goodIn_app (goodIn_of _ (by decide +kernel)) ggX9_reason_X9_takes
set_option maxRecDepth 20000 in
theorem ggX9_reason_X9_deviation : GoodIn wsX9_reason wsX9_deviation := goodIn_ca (goodIn_r _ [43, 2, 44, 45, 46, 47, 48, 10, 49, 50, 51, 52, 53, 54, 55, 56, 57, 58, 59, 60, 61, 62, 63, 64, 65, 66, 30, 31, 20, 32, 67, 68, 69, 70, 71, 72, 73, 74, 75, 76, 77, 78, 79, 80, 81, 82, 83, 84, 85, 86, 87, 88, 89, 90, 91, 92, 93, 94, 95, 96, 97, 98, 99, 100, 101, 102] (by decide +kernel) (by decide +kernel)) (goodIn_sub (fun _ h => List.mem_cons_of_mem _ (List.mem_append_right _ h)) (by decide +kernel))
set_option maxRecDepth 20000 in
theorem gX9_reason_X9_deviation : GoodIn wsX9_reason (wsV RX9 164 RX9 yX9_deviation wsX9_deviation) := goodIn_app (goodIn_of _ (by decide +kernel)) ggX9_reason_X9_deviation
theorem dX9_reason_0 : decode cX9_reason 0 = .ok (.aload_n 0, 1) := by decide +kernel
theorem dX9_reason_1 : decode cX9_reason 1 = .ok (.getfield 43, 3) := by decide +kernel
theorem dX9_reason_4 : decode cX9_reason 4 = .ok (.iload_n 1, 1) := by decide +kernel
theorem dX9_reason_5 : decode cX9_reason 5 = .ok (.iaload, 1) := by decide +kernel
theorem dX9_reason_6 : decode cX9_reason 6 = .ok (.ifCond .ne 7, 3) := by decide +kernel
theorem dX9_reason_9 : decode cX9_reason 9 = .ok (.iconst 1, 1) := by decide +kernel
theorem dX9_reason_10 : decode cX9_reason 10 = .ok (.goto 4, 3) := by decide +kernel
theorem dX9_reason_13 : decode cX9_reason 13 = .ok (.iconst 0, 1) := by decide +kernel
theorem dX9_reason_14 : decode cX9_reason 14 = .ok (.istore_n 3, 1) := by decide +kernel
theorem dX9_reason_15 : decode cX9_reason 15 = .ok (.aload_n 0, 1) := by decide +kernel
theorem dX9_reason_16 : decode cX9_reason 16 = .ok (.getfield 121, 3) := by decide +kernel
theorem dX9_reason_19 : decode cX9_reason 19 = .ok (.aload_n 0, 1) := by decide +kernel
theorem dX9_reason_20 : decode cX9_reason 20 = .ok (.getfield 83, 3) := by decide +kernel
theorem dX9_reason_23 : decode cX9_reason 23 = .ok (.if_icmp .ge 7, 3) := by decide +kernel
theorem dX9_reason_26 : decode cX9_reason 26 = .ok (.iload_n 3, 1) := by decide +kernel
theorem dX9_reason_27 : decode cX9_reason 27 = .ok (.ifCond .eq 22, 3) := by decide +kernel
theorem dX9_reason_30 : decode cX9_reason 30 = .ok (.aload_n 0, 1) := by decide +kernel
theorem dX9_reason_31 : decode cX9_reason 31 = .ok (.getfield 121, 3) := by decide +kernel
theorem dX9_reason_34 : decode cX9_reason 34 = .ok (.aload_n 0, 1) := by decide +kernel
theorem dX9_reason_35 : decode cX9_reason 35 = .ok (.getfield 83, 3) := by decide +kernel
theorem dX9_reason_38 : decode cX9_reason 38 = .ok (.if_icmp .lt 8, 3) := by decide +kernel
theorem dX9_reason_41 : decode cX9_reason 41 = .ok (.bipush 103, 2) := by decide +kernel
theorem dX9_reason_43 : decode cX9_reason 43 = .ok (.goto 5, 3) := by decide +kernel
theorem dX9_reason_46 : decode cX9_reason 46 = .ok (.bipush 101, 2) := by decide +kernel
theorem dX9_reason_48 : decode cX9_reason 48 = .ok (.ireturn, 1) := by decide +kernel
theorem dX9_reason_49 : decode cX9_reason 49 = .ok (.aload_n 0, 1) := by decide +kernel
theorem dX9_reason_50 : decode cX9_reason 50 = .ok (.aload_n 0, 1) := by decide +kernel
theorem dX9_reason_51 : decode cX9_reason 51 = .ok (.iload_n 1, 1) := by decide +kernel
theorem dX9_reason_52 : decode cX9_reason 52 = .ok (.invokevirtual 99, 3) := by decide +kernel
theorem dX9_reason_55 : decode cX9_reason 55 = .ok (.invokevirtual 115, 3) := by decide +kernel
theorem dX9_reason_58 : decode cX9_reason 58 = .ok (.ifCond .gt 14, 3) := by decide +kernel
theorem dX9_reason_61 : decode cX9_reason 61 = .ok (.aload_n 0, 1) := by decide +kernel
theorem dX9_reason_62 : decode cX9_reason 62 = .ok (.invokevirtual 157, 3) := by decide +kernel
theorem dX9_reason_65 : decode cX9_reason 65 = .ok (.iload_n 2, 1) := by decide +kernel
theorem dX9_reason_66 : decode cX9_reason 66 = .ok (.invokestatic 160, 3) := by decide +kernel
theorem dX9_reason_69 : decode cX9_reason 69 = .ok (.ifCond .ne 23, 3) := by decide +kernel
theorem dX9_reason_72 : decode cX9_reason 72 = .ok (.aload_n 0, 1) := by decide +kernel
theorem dX9_reason_73 : decode cX9_reason 73 = .ok (.aload_n 0, 1) := by decide +kernel
theorem dX9_reason_74 : decode cX9_reason 74 = .ok (.iload_n 1, 1) := by decide +kernel
theorem dX9_reason_75 : decode cX9_reason 75 = .ok (.invokevirtual 99, 3) := by decide +kernel
theorem dX9_reason_78 : decode cX9_reason 78 = .ok (.invokevirtual 115, 3) := by decide +kernel
theorem dX9_reason_81 : decode cX9_reason 81 = .ok (.ifCond .le 8, 3) := by decide +kernel
theorem dX9_reason_84 : decode cX9_reason 84 = .ok (.bipush 99, 2) := by decide +kernel
theorem dX9_reason_86 : decode cX9_reason 86 = .ok (.goto 5, 3) := by decide +kernel
theorem dX9_reason_89 : decode cX9_reason 89 = .ok (.bipush 106, 2) := by decide +kernel
theorem dX9_reason_91 : decode cX9_reason 91 = .ok (.ireturn, 1) := by decide +kernel
theorem dX9_reason_92 : decode cX9_reason 92 = .ok (.aload_n 0, 1) := by decide +kernel
theorem dX9_reason_93 : decode cX9_reason 93 = .ok (.getfield 118, 3) := by decide +kernel
theorem dX9_reason_96 : decode cX9_reason 96 = .ok (.aload_n 0, 1) := by decide +kernel
theorem dX9_reason_97 : decode cX9_reason 97 = .ok (.invokevirtual 124, 3) := by decide +kernel
theorem dX9_reason_100 : decode cX9_reason 100 = .ok (.if_icmp .ge 8, 3) := by decide +kernel
theorem dX9_reason_103 : decode cX9_reason 103 = .ok (.bipush 115, 2) := by decide +kernel
theorem dX9_reason_105 : decode cX9_reason 105 = .ok (.goto 32, 3) := by decide +kernel
theorem dX9_reason_108 : decode cX9_reason 108 = .ok (.aload_n 0, 1) := by decide +kernel
theorem dX9_reason_109 : decode cX9_reason 109 = .ok (.aload_n 0, 1) := by decide +kernel
theorem dX9_reason_110 : decode cX9_reason 110 = .ok (.getfield 37, 3) := by decide +kernel
theorem dX9_reason_113 : decode cX9_reason 113 = .ok (.aload_n 0, 1) := by decide +kernel
theorem dX9_reason_114 : decode cX9_reason 114 = .ok (.iload_n 1, 1) := by decide +kernel
theorem dX9_reason_115 : decode cX9_reason 115 = .ok (.invokevirtual 99, 3) := by decide +kernel
theorem dX9_reason_118 : decode cX9_reason 118 = .ok (.iaload, 1) := by decide +kernel
theorem dX9_reason_119 : decode cX9_reason 119 = .ok (.iload_n 2, 1) := by decide +kernel
theorem dX9_reason_120 : decode cX9_reason 120 = .ok (.invokevirtual 164, 3) := by decide +kernel
theorem dX9_reason_123 : decode cX9_reason 123 = .ok (.aload_n 0, 1) := by decide +kernel
theorem dX9_reason_124 : decode cX9_reason 124 = .ok (.getfield 69, 3) := by decide +kernel
theorem dX9_reason_127 : decode cX9_reason 127 = .ok (.if_icmp .le 8, 3) := by decide +kernel
theorem dX9_reason_130 : decode cX9_reason 130 = .ok (.bipush 116, 2) := by decide +kernel
theorem dX9_reason_132 : decode cX9_reason 132 = .ok (.goto 5, 3) := by decide +kernel
theorem dX9_reason_135 : decode cX9_reason 135 = .ok (.bipush 45, 2) := by decide +kernel
theorem dX9_reason_137 : decode cX9_reason 137 = .ok (.ireturn, 1) := by decide +kernel
set_option maxRecDepth 20000 in
theorem ggX9_isNoPosition_X9_isNoStack : GoodIn wsX9_isNoPosition wsX9_isNoStack := goodIn_r _ [5, 6, 7, 4, 8, 9, 10, 11, 12, 13, 14, 15, 16, 17, 18, 19, 20, 21, 22, 23, 24, 25, 26, 27, 28, 29, 30, 31, 32, 33, 34, 35, 36, 37, 38, 39, 40, 41, 42, 43] (by decide +kernel) (by decide +kernel)
set_option maxRecDepth 20000 in
theorem gX9_isNoPosition_X9_isNoStack : GoodIn wsX9_isNoPosition (wsV RX9 96 RX9 yX9_isNoStack wsX9_isNoStack) := goodIn_app (goodIn_of _ (by decide +kernel)) ggX9_isNoPosition_X9_isNoStack
set_option maxRecDepth 20000 in
theorem ggX9_isNoPosition_X9_isIn : GoodIn wsX9_isNoPosition wsX9_isIn := goodIn_r _ [8] (by decide +kernel) (by decide +kernel)
set_option maxRecDepth 20000 in
theorem gX9_isNoPosition_X9_isIn : GoodIn wsX9_isNoPosition (va_wsS RX9 75 yX9_isIn wsX9_isIn) := goodIn_app (goodIn_of _ (by decide +kernel)) ggX9_isNoPosition_X9_isIn
set_option maxRecDepth 20000 in
theorem ggX9_isNoPosition_X9_isThrown : GoodIn wsX9_isNoPosition wsX9_isThrown := goodIn_r _ [12, 13, 14, 15, 16, 17, 18, 19, 20, 21, 22, 23, 24, 25, 26, 27, 28, 29, 30, 31, 32, 33, 34, 35, 36, 37, 38, 39, 40, 41, 42, 43] (by decide +kernel) (by decide +kernel)
set_option maxRecDepth 20000 in
theorem gX9_isNoPosition_X9_isThrown : GoodIn wsX9_isNoPosition (wsV RX9 79 RX9 yX9_isThrown wsX9_isThrown) := goodIn_app (goodIn_of _ (by decide +kernel)) ggX9_isNoPosition_X9_isThrown
theorem dX9_isNoPosition_0 : decode cX9_isNoPosition 0 = .ok (.aload_n 0, 1) := by decide +kernel

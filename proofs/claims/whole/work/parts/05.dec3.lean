theorem d_Model_init_0 : decode b_Model_init 0 = .ok (.aload_n 0, 1) := by decide +kernel
theorem d_Model_init_1 : decode b_Model_init 1 = .ok (.invokespecial 1, 3) := by decide +kernel
theorem d_Model_init_4 : decode b_Model_init 4 = .ok (.aload_n 0, 1) := by decide +kernel
theorem d_Model_init_5 : decode b_Model_init 5 = .ok (.bipush 80, 2) := by decide +kernel
theorem d_Model_init_7 : decode b_Model_init 7 = .ok (.newarray .char, 2) := by decide +kernel
theorem d_Model_init_9 : decode b_Model_init 9 = .ok (.putfield 7, 3) := by decide +kernel
theorem d_Model_init_12 : decode b_Model_init 12 = .ok (.aload_n 0, 1) := by decide +kernel
theorem d_Model_init_13 : decode b_Model_init 13 = .ok (.bipush 24, 2) := by decide +kernel
theorem d_Model_init_15 : decode b_Model_init 15 = .ok (.newarray .int, 2) := by decide +kernel
theorem d_Model_init_17 : decode b_Model_init 17 = .ok (.putfield 13, 3) := by decide +kernel
theorem d_Model_init_20 : decode b_Model_init 20 = .ok (.aload_n 0, 1) := by decide +kernel
theorem d_Model_init_21 : decode b_Model_init 21 = .ok (.bipush 24, 2) := by decide +kernel
theorem d_Model_init_23 : decode b_Model_init 23 = .ok (.newarray .int, 2) := by decide +kernel
theorem d_Model_init_25 : decode b_Model_init 25 = .ok (.putfield 17, 3) := by decide +kernel
theorem d_Model_init_28 : decode b_Model_init 28 = .ok (.aload_n 0, 1) := by decide +kernel
theorem d_Model_init_29 : decode b_Model_init 29 = .ok (.sipush 144, 3) := by decide +kernel
theorem d_Model_init_32 : decode b_Model_init 32 = .ok (.newarray .char, 2) := by decide +kernel
theorem d_Model_init_34 : decode b_Model_init 34 = .ok (.putfield 20, 3) := by decide +kernel
theorem d_Model_init_37 : decode b_Model_init 37 = .ok (.aload_n 0, 1) := by decide +kernel
theorem d_Model_init_38 : decode b_Model_init 38 = .ok (.bipush 24, 2) := by decide +kernel
theorem d_Model_init_40 : decode b_Model_init 40 = .ok (.newarray .int, 2) := by decide +kernel
theorem d_Model_init_42 : decode b_Model_init 42 = .ok (.putfield 23, 3) := by decide +kernel
theorem d_Model_init_45 : decode b_Model_init 45 = .ok (.aload_n 0, 1) := by decide +kernel
theorem d_Model_init_46 : decode b_Model_init 46 = .ok (.bipush 72, 2) := by decide +kernel
theorem d_Model_init_48 : decode b_Model_init 48 = .ok (.newarray .int, 2) := by decide +kernel
theorem d_Model_init_50 : decode b_Model_init 50 = .ok (.putfield 26, 3) := by decide +kernel
theorem d_Model_init_53 : decode b_Model_init 53 = .ok (.aload_n 0, 1) := by decide +kernel
theorem d_Model_init_54 : decode b_Model_init 54 = .ok (.iconst (-1), 1) := by decide +kernel
theorem d_Model_init_55 : decode b_Model_init 55 = .ok (.putfield 29, 3) := by decide +kernel
theorem d_Model_init_58 : decode b_Model_init 58 = .ok (.aload_n 0, 1) := by decide +kernel
theorem d_Model_init_59 : decode b_Model_init 59 = .ok (.bipush 12, 2) := by decide +kernel
theorem d_Model_init_61 : decode b_Model_init 61 = .ok (.newarray .int, 2) := by decide +kernel
theorem d_Model_init_63 : decode b_Model_init 63 = .ok (.putfield 33, 3) := by decide +kernel
theorem d_Model_init_66 : decode b_Model_init 66 = .ok (.aload_n 0, 1) := by decide +kernel
theorem d_Model_init_67 : decode b_Model_init 67 = .ok (.bipush 12, 2) := by decide +kernel
theorem d_Model_init_69 : decode b_Model_init 69 = .ok (.newarray .int, 2) := by decide +kernel
theorem d_Model_init_71 : decode b_Model_init 71 = .ok (.putfield 36, 3) := by decide +kernel
theorem d_Model_init_74 : decode b_Model_init 74 = .ok (.aload_n 0, 1) := by decide +kernel
theorem d_Model_init_75 : decode b_Model_init 75 = .ok (.sipush 2880, 3) := by decide +kernel
theorem d_Model_init_78 : decode b_Model_init 78 = .ok (.newarray .int, 2) := by decide +kernel
theorem d_Model_init_80 : decode b_Model_init 80 = .ok (.putfield 39, 3) := by decide +kernel
theorem d_Model_init_83 : decode b_Model_init 83 = .ok (.aload_n 0, 1) := by decide +kernel
theorem d_Model_init_84 : decode b_Model_init 84 = .ok (.sipush 2880, 3) := by decide +kernel
theorem d_Model_init_87 : decode b_Model_init 87 = .ok (.newarray .int, 2) := by decide +kernel
theorem d_Model_init_89 : decode b_Model_init 89 = .ok (.putfield 42, 3) := by decide +kernel
theorem d_Model_init_92 : decode b_Model_init 92 = .ok (.aload_n 0, 1) := by decide +kernel
theorem d_Model_init_93 : decode b_Model_init 93 = .ok (.sipush 1500, 3) := by decide +kernel
theorem d_Model_init_96 : decode b_Model_init 96 = .ok (.newarray .char, 2) := by decide +kernel
theorem d_Model_init_98 : decode b_Model_init 98 = .ok (.putfield 45, 3) := by decide +kernel
theorem d_Model_init_101 : decode b_Model_init 101 = .ok (.aload_n 0, 1) := by decide +kernel
theorem d_Model_init_102 : decode b_Model_init 102 = .ok (.bipush 40, 2) := by decide +kernel
theorem d_Model_init_104 : decode b_Model_init 104 = .ok (.newarray .int, 2) := by decide +kernel
theorem d_Model_init_106 : decode b_Model_init 106 = .ok (.putfield 48, 3) := by decide +kernel
theorem d_Model_init_109 : decode b_Model_init 109 = .ok (.aload_n 0, 1) := by decide +kernel
theorem d_Model_init_110 : decode b_Model_init 110 = .ok (.bipush 40, 2) := by decide +kernel
theorem d_Model_init_112 : decode b_Model_init 112 = .ok (.newarray .int, 2) := by decide +kernel
theorem d_Model_init_114 : decode b_Model_init 114 = .ok (.putfield 51, 3) := by decide +kernel
theorem d_Model_init_117 : decode b_Model_init 117 = .ok (.aload_n 0, 1) := by decide +kernel
theorem d_Model_init_118 : decode b_Model_init 118 = .ok (.bipush 12, 2) := by decide +kernel
theorem d_Model_init_120 : decode b_Model_init 120 = .ok (.newarray .int, 2) := by decide +kernel
theorem d_Model_init_122 : decode b_Model_init 122 = .ok (.putfield 54, 3) := by decide +kernel
theorem d_Model_init_125 : decode b_Model_init 125 = .ok (.aload_n 0, 1) := by decide +kernel
theorem d_Model_init_126 : decode b_Model_init 126 = .ok (.iload_n 1, 1) := by decide +kernel
theorem d_Model_init_127 : decode b_Model_init 127 = .ok (.bipush 10, 2) := by decide +kernel
theorem d_Model_init_129 : decode b_Model_init 129 = .ok (.if_icmp .ge 8, 3) := by decide +kernel
theorem d_Model_init_132 : decode b_Model_init 132 = .ok (.bipush 10, 2) := by decide +kernel
theorem d_Model_init_134 : decode b_Model_init 134 = .ok (.goto 15, 3) := by decide +kernel
theorem d_Model_init_137 : decode b_Model_init 137 = .ok (.iload_n 1, 1) := by decide +kernel
theorem d_Model_init_138 : decode b_Model_init 138 = .ok (.bipush 40, 2) := by decide +kernel
theorem d_Model_init_140 : decode b_Model_init 140 = .ok (.if_icmp .le 8, 3) := by decide +kernel
theorem d_Model_init_143 : decode b_Model_init 143 = .ok (.bipush 40, 2) := by decide +kernel
theorem d_Model_init_145 : decode b_Model_init 145 = .ok (.goto 4, 3) := by decide +kernel
theorem d_Model_init_148 : decode b_Model_init 148 = .ok (.iload_n 1, 1) := by decide +kernel
theorem d_Model_init_149 : decode b_Model_init 149 = .ok (.putfield 57, 3) := by decide +kernel
theorem d_Model_init_152 : decode b_Model_init 152 = .ok (.aload_n 0, 1) := by decide +kernel
theorem d_Model_init_153 : decode b_Model_init 153 = .ok (.iload_n 2, 1) := by decide +kernel
theorem d_Model_init_154 : decode b_Model_init 154 = .ok (.iconst 4, 1) := by decide +kernel
theorem d_Model_init_155 : decode b_Model_init 155 = .ok (.if_icmp .ge 7, 3) := by decide +kernel
theorem d_Model_init_158 : decode b_Model_init 158 = .ok (.iconst 4, 1) := by decide +kernel
theorem d_Model_init_159 : decode b_Model_init 159 = .ok (.goto 15, 3) := by decide +kernel
theorem d_Model_init_162 : decode b_Model_init 162 = .ok (.iload_n 2, 1) := by decide +kernel
theorem d_Model_init_163 : decode b_Model_init 163 = .ok (.bipush 20, 2) := by decide +kernel
theorem d_Model_init_165 : decode b_Model_init 165 = .ok (.if_icmp .le 8, 3) := by decide +kernel
theorem d_Model_init_168 : decode b_Model_init 168 = .ok (.bipush 20, 2) := by decide +kernel
theorem d_Model_init_170 : decode b_Model_init 170 = .ok (.goto 4, 3) := by decide +kernel
theorem d_Model_init_173 : decode b_Model_init 173 = .ok (.iload_n 2, 1) := by decide +kernel
theorem d_Model_init_174 : decode b_Model_init 174 = .ok (.putfield 60, 3) := by decide +kernel
theorem d_Model_init_177 : decode b_Model_init 177 = .ok (.return_, 1) := by decide +kernel
theorem d_Model_thrown_0 : decode b_Model_thrown 0 = .ok (.aload_n 0, 1) := by decide +kernel
theorem d_Model_thrown_1 : decode b_Model_thrown 1 = .ok (.getfield 63, 3) := by decide +kernel
theorem d_Model_thrown_4 : decode b_Model_thrown 4 = .ok (.ireturn, 1) := by decide +kernel
theorem d_Model_isSmall_0 : decode b_Model_isSmall 0 = .ok (.iload_n 1, 1) := by decide +kernel
theorem d_Model_isSmall_1 : decode b_Model_isSmall 1 = .ok (.bipush 97, 2) := by decide +kernel
theorem d_Model_isSmall_3 : decode b_Model_isSmall 3 = .ok (.if_icmp .lt 13, 3) := by decide +kernel
theorem d_Model_isSmall_6 : decode b_Model_isSmall 6 = .ok (.iload_n 1, 1) := by decide +kernel
theorem d_Model_isSmall_7 : decode b_Model_isSmall 7 = .ok (.bipush 122, 2) := by decide +kernel
theorem d_Model_isSmall_9 : decode b_Model_isSmall 9 = .ok (.if_icmp .gt 7, 3) := by decide +kernel
theorem d_Model_isSmall_12 : decode b_Model_isSmall 12 = .ok (.iconst 1, 1) := by decide +kernel
theorem d_Model_isSmall_13 : decode b_Model_isSmall 13 = .ok (.goto 4, 3) := by decide +kernel
theorem d_Model_isSmall_16 : decode b_Model_isSmall 16 = .ok (.iconst 0, 1) := by decide +kernel
theorem d_Model_isSmall_17 : decode b_Model_isSmall 17 = .ok (.ireturn, 1) := by decide +kernel
theorem d_Model_isCapital_0 : decode b_Model_isCapital 0 = .ok (.iload_n 1, 1) := by decide +kernel
theorem d_Model_isCapital_1 : decode b_Model_isCapital 1 = .ok (.bipush 65, 2) := by decide +kernel
theorem d_Model_isCapital_3 : decode b_Model_isCapital 3 = .ok (.if_icmp .lt 13, 3) := by decide +kernel
theorem d_Model_isCapital_6 : decode b_Model_isCapital 6 = .ok (.iload_n 1, 1) := by decide +kernel
theorem d_Model_isCapital_7 : decode b_Model_isCapital 7 = .ok (.bipush 90, 2) := by decide +kernel
theorem d_Model_isCapital_9 : decode b_Model_isCapital 9 = .ok (.if_icmp .gt 7, 3) := by decide +kernel
theorem d_Model_isCapital_12 : decode b_Model_isCapital 12 = .ok (.iconst 1, 1) := by decide +kernel
theorem d_Model_isCapital_13 : decode b_Model_isCapital 13 = .ok (.goto 4, 3) := by decide +kernel
theorem d_Model_isCapital_16 : decode b_Model_isCapital 16 = .ok (.iconst 0, 1) := by decide +kernel
theorem d_Model_isCapital_17 : decode b_Model_isCapital 17 = .ok (.ireturn, 1) := by decide +kernel
theorem d_Model_isLetter_0 : decode b_Model_isLetter 0 = .ok (.aload_n 0, 1) := by decide +kernel
theorem d_Model_isLetter_1 : decode b_Model_isLetter 1 = .ok (.iload_n 1, 1) := by decide +kernel
theorem d_Model_isLetter_2 : decode b_Model_isLetter 2 = .ok (.invokevirtual 66, 3) := by decide +kernel
theorem d_Model_isLetter_5 : decode b_Model_isLetter 5 = .ok (.ifCond .ne 11, 3) := by decide +kernel
theorem d_Model_isLetter_8 : decode b_Model_isLetter 8 = .ok (.aload_n 0, 1) := by decide +kernel
theorem d_Model_isLetter_9 : decode b_Model_isLetter 9 = .ok (.iload_n 1, 1) := by decide +kernel
theorem d_Model_isLetter_10 : decode b_Model_isLetter 10 = .ok (.invokevirtual 70, 3) := by decide +kernel
theorem d_Model_isLetter_13 : decode b_Model_isLetter 13 = .ok (.ifCond .eq 7, 3) := by decide +kernel
theorem d_Model_isLetter_16 : decode b_Model_isLetter 16 = .ok (.iconst 1, 1) := by decide +kernel
theorem d_Model_isLetter_17 : decode b_Model_isLetter 17 = .ok (.goto 4, 3) := by decide +kernel
theorem d_Model_isLetter_20 : decode b_Model_isLetter 20 = .ok (.iconst 0, 1) := by decide +kernel
theorem d_Model_isLetter_21 : decode b_Model_isLetter 21 = .ok (.ireturn, 1) := by decide +kernel
theorem d_Model_isDigit_0 : decode b_Model_isDigit 0 = .ok (.iload_n 1, 1) := by decide +kernel
theorem d_Model_isDigit_1 : decode b_Model_isDigit 1 = .ok (.bipush 48, 2) := by decide +kernel
theorem d_Model_isDigit_3 : decode b_Model_isDigit 3 = .ok (.if_icmp .lt 13, 3) := by decide +kernel
theorem d_Model_isDigit_6 : decode b_Model_isDigit 6 = .ok (.iload_n 1, 1) := by decide +kernel
theorem d_Model_isDigit_7 : decode b_Model_isDigit 7 = .ok (.bipush 57, 2) := by decide +kernel
theorem d_Model_isDigit_9 : decode b_Model_isDigit 9 = .ok (.if_icmp .gt 7, 3) := by decide +kernel
theorem d_Model_isDigit_12 : decode b_Model_isDigit 12 = .ok (.iconst 1, 1) := by decide +kernel
theorem d_Model_isDigit_13 : decode b_Model_isDigit 13 = .ok (.goto 4, 3) := by decide +kernel
theorem d_Model_isDigit_16 : decode b_Model_isDigit 16 = .ok (.iconst 0, 1) := by decide +kernel
theorem d_Model_isDigit_17 : decode b_Model_isDigit 17 = .ok (.ireturn, 1) := by decide +kernel
theorem d_Model_small_0 : decode b_Model_small 0 = .ok (.aload_n 0, 1) := by decide +kernel
theorem d_Model_small_1 : decode b_Model_small 1 = .ok (.iload_n 1, 1) := by decide +kernel
theorem d_Model_small_2 : decode b_Model_small 2 = .ok (.invokevirtual 70, 3) := by decide +kernel
theorem d_Model_small_5 : decode b_Model_small 5 = .ok (.ifCond .eq 11, 3) := by decide +kernel
theorem d_Model_small_8 : decode b_Model_small 8 = .ok (.iload_n 1, 1) := by decide +kernel
theorem d_Model_small_9 : decode b_Model_small 9 = .ok (.bipush 32, 2) := by decide +kernel
theorem d_Model_small_11 : decode b_Model_small 11 = .ok (.iadd, 1) := by decide +kernel
theorem d_Model_small_12 : decode b_Model_small 12 = .ok (.i2c, 1) := by decide +kernel
theorem d_Model_small_13 : decode b_Model_small 13 = .ok (.goto 4, 3) := by decide +kernel
theorem d_Model_small_16 : decode b_Model_small 16 = .ok (.iload_n 1, 1) := by decide +kernel
theorem d_Model_small_17 : decode b_Model_small 17 = .ok (.ireturn, 1) := by decide +kernel
theorem d_Model_cellOf_0 : decode b_Model_cellOf 0 = .ok (.iload_n 1, 1) := by decide +kernel
theorem d_Model_cellOf_1 : decode b_Model_cellOf 1 = .ok (.tableswitch 194 97 122 #[119, 121, 123, 126, 129, 132, 135, 138, 141, 144, 147, 149, 152, 155, 158, 161, 164, 167, 170, 173, 176, 179, 182, 185, 188, 191], 119) := by decide +kernel
theorem d_Model_cellOf_120 : decode b_Model_cellOf 120 = .ok (.iconst 1, 1) := by decide +kernel
theorem d_Model_cellOf_121 : decode b_Model_cellOf 121 = .ok (.ireturn, 1) := by decide +kernel
theorem d_Model_cellOf_122 : decode b_Model_cellOf 122 = .ok (.iconst 3, 1) := by decide +kernel
theorem d_Model_cellOf_123 : decode b_Model_cellOf 123 = .ok (.ireturn, 1) := by decide +kernel
theorem d_Model_cellOf_124 : decode b_Model_cellOf 124 = .ok (.bipush 9, 2) := by decide +kernel
theorem d_Model_cellOf_126 : decode b_Model_cellOf 126 = .ok (.ireturn, 1) := by decide +kernel
theorem d_Model_cellOf_127 : decode b_Model_cellOf 127 = .ok (.bipush 25, 2) := by decide +kernel
theorem d_Model_cellOf_129 : decode b_Model_cellOf 129 = .ok (.ireturn, 1) := by decide +kernel
theorem d_Model_cellOf_130 : decode b_Model_cellOf 130 = .ok (.bipush 17, 2) := by decide +kernel
theorem d_Model_cellOf_132 : decode b_Model_cellOf 132 = .ok (.ireturn, 1) := by decide +kernel
theorem d_Model_cellOf_133 : decode b_Model_cellOf 133 = .ok (.bipush 11, 2) := by decide +kernel
theorem d_Model_cellOf_135 : decode b_Model_cellOf 135 = .ok (.ireturn, 1) := by decide +kernel
theorem d_Model_cellOf_136 : decode b_Model_cellOf 136 = .ok (.bipush 27, 2) := by decide +kernel
theorem d_Model_cellOf_138 : decode b_Model_cellOf 138 = .ok (.ireturn, 1) := by decide +kernel
theorem d_Model_cellOf_139 : decode b_Model_cellOf 139 = .ok (.bipush 19, 2) := by decide +kernel
theorem d_Model_cellOf_141 : decode b_Model_cellOf 141 = .ok (.ireturn, 1) := by decide +kernel
theorem d_Model_cellOf_142 : decode b_Model_cellOf 142 = .ok (.bipush 10, 2) := by decide +kernel
theorem d_Model_cellOf_144 : decode b_Model_cellOf 144 = .ok (.ireturn, 1) := by decide +kernel
theorem d_Model_cellOf_145 : decode b_Model_cellOf 145 = .ok (.bipush 26, 2) := by decide +kernel
theorem d_Model_cellOf_147 : decode b_Model_cellOf 147 = .ok (.ireturn, 1) := by decide +kernel
theorem d_Model_cellOf_148 : decode b_Model_cellOf 148 = .ok (.iconst 5, 1) := by decide +kernel
theorem d_Model_cellOf_149 : decode b_Model_cellOf 149 = .ok (.ireturn, 1) := by decide +kernel
theorem d_Model_cellOf_150 : decode b_Model_cellOf 150 = .ok (.bipush 7, 2) := by decide +kernel
theorem d_Model_cellOf_152 : decode b_Model_cellOf 152 = .ok (.ireturn, 1) := by decide +kernel
theorem d_Model_cellOf_153 : decode b_Model_cellOf 153 = .ok (.bipush 13, 2) := by decide +kernel
theorem d_Model_cellOf_155 : decode b_Model_cellOf 155 = .ok (.ireturn, 1) := by decide +kernel
theorem d_Model_cellOf_156 : decode b_Model_cellOf 156 = .ok (.bipush 29, 2) := by decide +kernel
theorem d_Model_cellOf_158 : decode b_Model_cellOf 158 = .ok (.ireturn, 1) := by decide +kernel
theorem d_Model_cellOf_159 : decode b_Model_cellOf 159 = .ok (.bipush 21, 2) := by decide +kernel
theorem d_Model_cellOf_161 : decode b_Model_cellOf 161 = .ok (.ireturn, 1) := by decide +kernel
theorem d_Model_cellOf_162 : decode b_Model_cellOf 162 = .ok (.bipush 15, 2) := by decide +kernel
theorem d_Model_cellOf_164 : decode b_Model_cellOf 164 = .ok (.ireturn, 1) := by decide +kernel
theorem d_Model_cellOf_165 : decode b_Model_cellOf 165 = .ok (.bipush 31, 2) := by decide +kernel
theorem d_Model_cellOf_167 : decode b_Model_cellOf 167 = .ok (.ireturn, 1) := by decide +kernel
theorem d_Model_cellOf_168 : decode b_Model_cellOf 168 = .ok (.bipush 23, 2) := by decide +kernel
theorem d_Model_cellOf_170 : decode b_Model_cellOf 170 = .ok (.ireturn, 1) := by decide +kernel
theorem d_Model_cellOf_171 : decode b_Model_cellOf 171 = .ok (.bipush 14, 2) := by decide +kernel
theorem d_Model_cellOf_173 : decode b_Model_cellOf 173 = .ok (.ireturn, 1) := by decide +kernel
theorem d_Model_cellOf_174 : decode b_Model_cellOf 174 = .ok (.bipush 30, 2) := by decide +kernel
theorem d_Model_cellOf_176 : decode b_Model_cellOf 176 = .ok (.ireturn, 1) := by decide +kernel
theorem d_Model_cellOf_177 : decode b_Model_cellOf 177 = .ok (.bipush 37, 2) := by decide +kernel
theorem d_Model_cellOf_179 : decode b_Model_cellOf 179 = .ok (.ireturn, 1) := by decide +kernel
theorem d_Model_cellOf_180 : decode b_Model_cellOf 180 = .ok (.bipush 39, 2) := by decide +kernel
theorem d_Model_cellOf_182 : decode b_Model_cellOf 182 = .ok (.ireturn, 1) := by decide +kernel
theorem d_Model_cellOf_183 : decode b_Model_cellOf 183 = .ok (.bipush 58, 2) := by decide +kernel
theorem d_Model_cellOf_185 : decode b_Model_cellOf 185 = .ok (.ireturn, 1) := by decide +kernel
theorem d_Model_cellOf_186 : decode b_Model_cellOf 186 = .ok (.bipush 45, 2) := by decide +kernel
theorem d_Model_cellOf_188 : decode b_Model_cellOf 188 = .ok (.ireturn, 1) := by decide +kernel
theorem d_Model_cellOf_189 : decode b_Model_cellOf 189 = .ok (.bipush 61, 2) := by decide +kernel
theorem d_Model_cellOf_191 : decode b_Model_cellOf 191 = .ok (.ireturn, 1) := by decide +kernel
theorem d_Model_cellOf_192 : decode b_Model_cellOf 192 = .ok (.bipush 53, 2) := by decide +kernel
theorem d_Model_cellOf_194 : decode b_Model_cellOf 194 = .ok (.ireturn, 1) := by decide +kernel
theorem d_Model_cellOf_195 : decode b_Model_cellOf 195 = .ok (.aload_n 0, 1) := by decide +kernel
theorem d_Model_cellOf_196 : decode b_Model_cellOf 196 = .ok (.iload_n 1, 1) := by decide +kernel
theorem d_Model_cellOf_197 : decode b_Model_cellOf 197 = .ok (.invokevirtual 73, 3) := by decide +kernel
theorem d_Model_cellOf_200 : decode b_Model_cellOf 200 = .ok (.ireturn, 1) := by decide +kernel
theorem d_Model_markOf_0 : decode b_Model_markOf 0 = .ok (.iload_n 1, 1) := by decide +kernel
theorem d_Model_markOf_1 : decode b_Model_markOf 1 = .ok (.lookupswitch 97 #[(33, 89), (39, 95), (44, 78), (45, 92), (46, 75), (58, 83), (59, 80), (63, 86)], 75) := by decide +kernel
theorem d_Model_markOf_76 : decode b_Model_markOf 76 = .ok (.bipush 50, 2) := by decide +kernel
theorem d_Model_markOf_78 : decode b_Model_markOf 78 = .ok (.ireturn, 1) := by decide +kernel
theorem d_Model_markOf_79 : decode b_Model_markOf 79 = .ok (.iconst 2, 1) := by decide +kernel
theorem d_Model_markOf_80 : decode b_Model_markOf 80 = .ok (.ireturn, 1) := by decide +kernel
theorem d_Model_markOf_81 : decode b_Model_markOf 81 = .ok (.bipush 6, 2) := by decide +kernel
theorem d_Model_markOf_83 : decode b_Model_markOf 83 = .ok (.ireturn, 1) := by decide +kernel
theorem d_Model_markOf_84 : decode b_Model_markOf 84 = .ok (.bipush 18, 2) := by decide +kernel
theorem d_Model_markOf_86 : decode b_Model_markOf 86 = .ok (.ireturn, 1) := by decide +kernel
theorem d_Model_markOf_87 : decode b_Model_markOf 87 = .ok (.bipush 38, 2) := by decide +kernel
theorem d_Model_markOf_89 : decode b_Model_markOf 89 = .ok (.ireturn, 1) := by decide +kernel
theorem d_Model_markOf_90 : decode b_Model_markOf 90 = .ok (.bipush 22, 2) := by decide +kernel
theorem d_Model_markOf_92 : decode b_Model_markOf 92 = .ok (.ireturn, 1) := by decide +kernel
theorem d_Model_markOf_93 : decode b_Model_markOf 93 = .ok (.bipush 36, 2) := by decide +kernel
theorem d_Model_markOf_95 : decode b_Model_markOf 95 = .ok (.ireturn, 1) := by decide +kernel
theorem d_Model_markOf_96 : decode b_Model_markOf 96 = .ok (.iconst 4, 1) := by decide +kernel
theorem d_Model_markOf_97 : decode b_Model_markOf 97 = .ok (.ireturn, 1) := by decide +kernel
theorem d_Model_markOf_98 : decode b_Model_markOf 98 = .ok (.iconst 0, 1) := by decide +kernel
theorem d_Model_markOf_99 : decode b_Model_markOf 99 = .ok (.ireturn, 1) := by decide +kernel
theorem d_Model_digitCell_0 : decode b_Model_digitCell 0 = .ok (.aload_n 0, 1) := by decide +kernel
theorem d_Model_digitCell_1 : decode b_Model_digitCell 1 = .ok (.iload_n 1, 1) := by decide +kernel
theorem d_Model_digitCell_2 : decode b_Model_digitCell 2 = .ok (.ifCond .ne 8, 3) := by decide +kernel
theorem d_Model_digitCell_5 : decode b_Model_digitCell 5 = .ok (.bipush 106, 2) := by decide +kernel
theorem d_Model_digitCell_7 : decode b_Model_digitCell 7 = .ok (.goto 9, 3) := by decide +kernel
theorem d_Model_digitCell_10 : decode b_Model_digitCell 10 = .ok (.bipush 97, 2) := by decide +kernel
theorem d_Model_digitCell_12 : decode b_Model_digitCell 12 = .ok (.iload_n 1, 1) := by decide +kernel
theorem d_Model_digitCell_13 : decode b_Model_digitCell 13 = .ok (.iadd, 1) := by decide +kernel
theorem d_Model_digitCell_14 : decode b_Model_digitCell 14 = .ok (.iconst 1, 1) := by decide +kernel
theorem d_Model_digitCell_15 : decode b_Model_digitCell 15 = .ok (.isub, 1) := by decide +kernel
theorem d_Model_digitCell_16 : decode b_Model_digitCell 16 = .ok (.i2c, 1) := by decide +kernel
theorem d_Model_digitCell_17 : decode b_Model_digitCell 17 = .ok (.invokevirtual 77, 3) := by decide +kernel
theorem d_Model_digitCell_20 : decode b_Model_digitCell 20 = .ok (.ireturn, 1) := by decide +kernel
theorem d_Model_type_0 : decode b_Model_type 0 = .ok (.aload_n 0, 1) := by decide +kernel
theorem d_Model_type_1 : decode b_Model_type 1 = .ok (.iload_n 1, 1) := by decide +kernel
theorem d_Model_type_2 : decode b_Model_type 2 = .ok (.bipush 32, 2) := by decide +kernel
theorem d_Model_type_4 : decode b_Model_type 4 = .ok (.if_icmp .lt 9, 3) := by decide +kernel
theorem d_Model_type_7 : decode b_Model_type 7 = .ok (.iload_n 1, 1) := by decide +kernel
theorem d_Model_type_8 : decode b_Model_type 8 = .ok (.bipush 126, 2) := by decide +kernel
theorem d_Model_type_10 : decode b_Model_type 10 = .ok (.if_icmp .le 7, 3) := by decide +kernel
theorem d_Model_type_13 : decode b_Model_type 13 = .ok (.iconst 1, 1) := by decide +kernel
theorem d_Model_type_14 : decode b_Model_type 14 = .ok (.goto 17, 3) := by decide +kernel
theorem d_Model_type_17 : decode b_Model_type 17 = .ok (.aload_n 0, 1) := by decide +kernel
theorem d_Model_type_18 : decode b_Model_type 18 = .ok (.getfield 80, 3) := by decide +kernel
theorem d_Model_type_21 : decode b_Model_type 21 = .ok (.bipush 80, 2) := by decide +kernel
theorem d_Model_type_23 : decode b_Model_type 23 = .ok (.if_icmp .ne 7, 3) := by decide +kernel
theorem d_Model_type_26 : decode b_Model_type 26 = .ok (.iconst 2, 1) := by decide +kernel
theorem d_Model_type_27 : decode b_Model_type 27 = .ok (.goto 4, 3) := by decide +kernel
theorem d_Model_type_30 : decode b_Model_type 30 = .ok (.iconst 0, 1) := by decide +kernel
theorem d_Model_type_31 : decode b_Model_type 31 = .ok (.putfield 63, 3) := by decide +kernel
theorem d_Model_type_34 : decode b_Model_type 34 = .ok (.aload_n 0, 1) := by decide +kernel
theorem d_Model_type_35 : decode b_Model_type 35 = .ok (.getfield 63, 3) := by decide +kernel
theorem d_Model_type_38 : decode b_Model_type 38 = .ok (.ifCond .eq 5, 3) := by decide +kernel
theorem d_Model_type_41 : decode b_Model_type 41 = .ok (.iconst 0, 1) := by decide +kernel
theorem d_Model_type_42 : decode b_Model_type 42 = .ok (.ireturn, 1) := by decide +kernel
theorem d_Model_type_43 : decode b_Model_type 43 = .ok (.aload_n 0, 1) := by decide +kernel
theorem d_Model_type_44 : decode b_Model_type 44 = .ok (.getfield 7, 3) := by decide +kernel
theorem d_Model_type_47 : decode b_Model_type 47 = .ok (.aload_n 0, 1) := by decide +kernel
theorem d_Model_type_48 : decode b_Model_type 48 = .ok (.getfield 80, 3) := by decide +kernel
theorem d_Model_type_51 : decode b_Model_type 51 = .ok (.iload_n 1, 1) := by decide +kernel
theorem d_Model_type_52 : decode b_Model_type 52 = .ok (.castore, 1) := by decide +kernel
theorem d_Model_type_53 : decode b_Model_type 53 = .ok (.aload_n 0, 1) := by decide +kernel
theorem d_Model_type_54 : decode b_Model_type 54 = .ok (.dup, 1) := by decide +kernel
theorem d_Model_type_55 : decode b_Model_type 55 = .ok (.getfield 80, 3) := by decide +kernel
theorem d_Model_type_58 : decode b_Model_type 58 = .ok (.iconst 1, 1) := by decide +kernel
theorem d_Model_type_59 : decode b_Model_type 59 = .ok (.iadd, 1) := by decide +kernel
theorem d_Model_type_60 : decode b_Model_type 60 = .ok (.putfield 80, 3) := by decide +kernel
theorem d_Model_type_63 : decode b_Model_type 63 = .ok (.aload_n 0, 1) := by decide +kernel
theorem d_Model_type_64 : decode b_Model_type 64 = .ok (.getfield 80, 3) := by decide +kernel
theorem d_Model_type_67 : decode b_Model_type 67 = .ok (.ireturn, 1) := by decide +kernel
theorem d_Model_wipe_0 : decode b_Model_wipe 0 = .ok (.aload_n 0, 1) := by decide +kernel
theorem d_Model_wipe_1 : decode b_Model_wipe 1 = .ok (.iconst 0, 1) := by decide +kernel
theorem d_Model_wipe_2 : decode b_Model_wipe 2 = .ok (.putfield 63, 3) := by decide +kernel
theorem d_Model_wipe_5 : decode b_Model_wipe 5 = .ok (.aload_n 0, 1) := by decide +kernel
theorem d_Model_wipe_6 : decode b_Model_wipe 6 = .ok (.iconst 0, 1) := by decide +kernel
theorem d_Model_wipe_7 : decode b_Model_wipe 7 = .ok (.putfield 80, 3) := by decide +kernel
theorem d_Model_wipe_10 : decode b_Model_wipe 10 = .ok (.return_, 1) := by decide +kernel
theorem d_Model_kindOf_0 : decode b_Model_kindOf 0 = .ok (.iload_n 1, 1) := by decide +kernel
theorem d_Model_kindOf_1 : decode b_Model_kindOf 1 = .ok (.bipush 119, 2) := by decide +kernel
theorem d_Model_kindOf_3 : decode b_Model_kindOf 3 = .ok (.if_icmp .ne 7, 3) := by decide +kernel
theorem d_Model_kindOf_6 : decode b_Model_kindOf 6 = .ok (.iconst 0, 1) := by decide +kernel
theorem d_Model_kindOf_7 : decode b_Model_kindOf 7 = .ok (.goto 44, 3) := by decide +kernel
theorem d_Model_kindOf_10 : decode b_Model_kindOf 10 = .ok (.iload_n 1, 1) := by decide +kernel
theorem d_Model_kindOf_11 : decode b_Model_kindOf 11 = .ok (.bipush 98, 2) := by decide +kernel
theorem d_Model_kindOf_13 : decode b_Model_kindOf 13 = .ok (.if_icmp .ne 7, 3) := by decide +kernel
theorem d_Model_kindOf_16 : decode b_Model_kindOf 16 = .ok (.iconst 1, 1) := by decide +kernel
theorem d_Model_kindOf_17 : decode b_Model_kindOf 17 = .ok (.goto 34, 3) := by decide +kernel
theorem d_Model_kindOf_20 : decode b_Model_kindOf 20 = .ok (.iload_n 1, 1) := by decide +kernel
theorem d_Model_kindOf_21 : decode b_Model_kindOf 21 = .ok (.bipush 109, 2) := by decide +kernel
theorem d_Model_kindOf_23 : decode b_Model_kindOf 23 = .ok (.if_icmp .ne 7, 3) := by decide +kernel
theorem d_Model_kindOf_26 : decode b_Model_kindOf 26 = .ok (.iconst 2, 1) := by decide +kernel
theorem d_Model_kindOf_27 : decode b_Model_kindOf 27 = .ok (.goto 24, 3) := by decide +kernel
theorem d_Model_kindOf_30 : decode b_Model_kindOf 30 = .ok (.iload_n 1, 1) := by decide +kernel
theorem d_Model_kindOf_31 : decode b_Model_kindOf 31 = .ok (.bipush 101, 2) := by decide +kernel
theorem d_Model_kindOf_33 : decode b_Model_kindOf 33 = .ok (.if_icmp .ne 7, 3) := by decide +kernel
theorem d_Model_kindOf_36 : decode b_Model_kindOf 36 = .ok (.iconst 3, 1) := by decide +kernel
theorem d_Model_kindOf_37 : decode b_Model_kindOf 37 = .ok (.goto 14, 3) := by decide +kernel
theorem d_Model_kindOf_40 : decode b_Model_kindOf 40 = .ok (.iload_n 1, 1) := by decide +kernel
theorem d_Model_kindOf_41 : decode b_Model_kindOf 41 = .ok (.bipush 97, 2) := by decide +kernel
theorem d_Model_kindOf_43 : decode b_Model_kindOf 43 = .ok (.if_icmp .ne 7, 3) := by decide +kernel
theorem d_Model_kindOf_46 : decode b_Model_kindOf 46 = .ok (.iconst 4, 1) := by decide +kernel
theorem d_Model_kindOf_47 : decode b_Model_kindOf 47 = .ok (.goto 4, 3) := by decide +kernel
theorem d_Model_kindOf_50 : decode b_Model_kindOf 50 = .ok (.iconst (-1), 1) := by decide +kernel
theorem d_Model_kindOf_51 : decode b_Model_kindOf 51 = .ok (.ireturn, 1) := by decide +kernel
theorem d_Model_readCells_0 : decode b_Model_readCells 0 = .ok (.iconst 0, 1) := by decide +kernel
theorem d_Model_readCells_1 : decode b_Model_readCells 1 = .ok (.istore_n 3, 1) := by decide +kernel
theorem d_Model_readCells_2 : decode b_Model_readCells 2 = .ok (.iconst 0, 1) := by decide +kernel
theorem d_Model_readCells_3 : decode b_Model_readCells 3 = .ok (.istore 4, 2) := by decide +kernel
theorem d_Model_readCells_5 : decode b_Model_readCells 5 = .ok (.iconst 0, 1) := by decide +kernel
theorem d_Model_readCells_6 : decode b_Model_readCells 6 = .ok (.istore 5, 2) := by decide +kernel
theorem d_Model_readCells_8 : decode b_Model_readCells 8 = .ok (.iload_n 1, 1) := by decide +kernel
theorem d_Model_readCells_9 : decode b_Model_readCells 9 = .ok (.istore 6, 2) := by decide +kernel
theorem d_Model_readCells_11 : decode b_Model_readCells 11 = .ok (.iload 6, 2) := by decide +kernel
theorem d_Model_readCells_13 : decode b_Model_readCells 13 = .ok (.iload_n 2, 1) := by decide +kernel
theorem d_Model_readCells_14 : decode b_Model_readCells 14 = .ok (.if_icmp .gt 115, 3) := by decide +kernel
theorem d_Model_readCells_17 : decode b_Model_readCells 17 = .ok (.iload 6, 2) := by decide +kernel
theorem d_Model_readCells_19 : decode b_Model_readCells 19 = .ok (.iload_n 2, 1) := by decide +kernel
theorem d_Model_readCells_20 : decode b_Model_readCells 20 = .ok (.if_icmp .eq 15, 3) := by decide +kernel
theorem d_Model_readCells_23 : decode b_Model_readCells 23 = .ok (.aload_n 0, 1) := by decide +kernel
theorem d_Model_readCells_24 : decode b_Model_readCells 24 = .ok (.getfield 7, 3) := by decide +kernel
theorem d_Model_readCells_27 : decode b_Model_readCells 27 = .ok (.iload 6, 2) := by decide +kernel
theorem d_Model_readCells_29 : decode b_Model_readCells 29 = .ok (.caload, 1) := by decide +kernel
theorem d_Model_readCells_30 : decode b_Model_readCells 30 = .ok (.bipush 45, 2) := by decide +kernel
theorem d_Model_readCells_32 : decode b_Model_readCells 32 = .ok (.if_icmp .ne 42, 3) := by decide +kernel
theorem d_Model_readCells_35 : decode b_Model_readCells 35 = .ok (.iload 4, 2) := by decide +kernel
theorem d_Model_readCells_37 : decode b_Model_readCells 37 = .ok (.ifCond .eq 8, 3) := by decide +kernel
theorem d_Model_readCells_40 : decode b_Model_readCells 40 = .ok (.iload_n 3, 1) := by decide +kernel
theorem d_Model_readCells_41 : decode b_Model_readCells 41 = .ok (.iconst 3, 1) := by decide +kernel
theorem d_Model_readCells_42 : decode b_Model_readCells 42 = .ok (.if_icmp .ne 5, 3) := by decide +kernel
theorem d_Model_readCells_45 : decode b_Model_readCells 45 = .ok (.iconst 0, 1) := by decide +kernel
theorem d_Model_readCells_46 : decode b_Model_readCells 46 = .ok (.ireturn, 1) := by decide +kernel
theorem d_Model_readCells_47 : decode b_Model_readCells 47 = .ok (.aload_n 0, 1) := by decide +kernel
theorem d_Model_readCells_48 : decode b_Model_readCells 48 = .ok (.getfield 26, 3) := by decide +kernel
theorem d_Model_readCells_51 : decode b_Model_readCells 51 = .ok (.iconst 3, 1) := by decide +kernel
theorem d_Model_readCells_52 : decode b_Model_readCells 52 = .ok (.aload_n 0, 1) := by decide +kernel
theorem d_Model_readCells_53 : decode b_Model_readCells 53 = .ok (.getfield 83, 3) := by decide +kernel
theorem d_Model_readCells_56 : decode b_Model_readCells 56 = .ok (.imul, 1) := by decide +kernel
theorem d_Model_readCells_57 : decode b_Model_readCells 57 = .ok (.iload_n 3, 1) := by decide +kernel
theorem d_Model_readCells_58 : decode b_Model_readCells 58 = .ok (.iadd, 1) := by decide +kernel
theorem d_Model_readCells_59 : decode b_Model_readCells 59 = .ok (.iload 4, 2) := by decide +kernel
theorem d_Model_readCells_61 : decode b_Model_readCells 61 = .ok (.iastore, 1) := by decide +kernel
theorem d_Model_readCells_62 : decode b_Model_readCells 62 = .ok (.iinc 3 1, 3) := by decide +kernel
theorem d_Model_readCells_65 : decode b_Model_readCells 65 = .ok (.iconst 0, 1) := by decide +kernel
theorem d_Model_readCells_66 : decode b_Model_readCells 66 = .ok (.istore 4, 2) := by decide +kernel
theorem d_Model_readCells_68 : decode b_Model_readCells 68 = .ok (.iconst 0, 1) := by decide +kernel
theorem d_Model_readCells_69 : decode b_Model_readCells 69 = .ok (.istore 5, 2) := by decide +kernel
theorem d_Model_readCells_71 : decode b_Model_readCells 71 = .ok (.goto 52, 3) := by decide +kernel
theorem d_Model_readCells_74 : decode b_Model_readCells 74 = .ok (.aload_n 0, 1) := by decide +kernel
theorem d_Model_readCells_75 : decode b_Model_readCells 75 = .ok (.getfield 7, 3) := by decide +kernel
theorem d_Model_readCells_78 : decode b_Model_readCells 78 = .ok (.iload 6, 2) := by decide +kernel
theorem d_Model_readCells_80 : decode b_Model_readCells 80 = .ok (.caload, 1) := by decide +kernel
theorem d_Model_readCells_81 : decode b_Model_readCells 81 = .ok (.bipush 48, 2) := by decide +kernel
theorem d_Model_readCells_83 : decode b_Model_readCells 83 = .ok (.isub, 1) := by decide +kernel
theorem d_Model_readCells_84 : decode b_Model_readCells 84 = .ok (.istore 7, 2) := by decide +kernel
theorem d_Model_readCells_86 : decode b_Model_readCells 86 = .ok (.iload 7, 2) := by decide +kernel
theorem d_Model_readCells_88 : decode b_Model_readCells 88 = .ok (.iconst 1, 1) := by decide +kernel
theorem d_Model_readCells_89 : decode b_Model_readCells 89 = .ok (.if_icmp .lt 17, 3) := by decide +kernel
theorem d_Model_readCells_92 : decode b_Model_readCells 92 = .ok (.iload 7, 2) := by decide +kernel
theorem d_Model_readCells_94 : decode b_Model_readCells 94 = .ok (.bipush 6, 2) := by decide +kernel
theorem d_Model_readCells_96 : decode b_Model_readCells 96 = .ok (.if_icmp .gt 10, 3) := by decide +kernel
theorem d_Model_readCells_99 : decode b_Model_readCells 99 = .ok (.iload 7, 2) := by decide +kernel
theorem d_Model_readCells_101 : decode b_Model_readCells 101 = .ok (.iload 5, 2) := by decide +kernel
theorem d_Model_readCells_103 : decode b_Model_readCells 103 = .ok (.if_icmp .gt 5, 3) := by decide +kernel
theorem d_Model_readCells_106 : decode b_Model_readCells 106 = .ok (.iconst 0, 1) := by decide +kernel
theorem d_Model_readCells_107 : decode b_Model_readCells 107 = .ok (.ireturn, 1) := by decide +kernel
theorem d_Model_readCells_108 : decode b_Model_readCells 108 = .ok (.iload 4, 2) := by decide +kernel
theorem d_Model_readCells_110 : decode b_Model_readCells 110 = .ok (.iconst 1, 1) := by decide +kernel
theorem d_Model_readCells_111 : decode b_Model_readCells 111 = .ok (.iload 7, 2) := by decide +kernel
theorem d_Model_readCells_113 : decode b_Model_readCells 113 = .ok (.iconst 1, 1) := by decide +kernel
theorem d_Model_readCells_114 : decode b_Model_readCells 114 = .ok (.isub, 1) := by decide +kernel
theorem d_Model_readCells_115 : decode b_Model_readCells 115 = .ok (.ishl, 1) := by decide +kernel
theorem d_Model_readCells_116 : decode b_Model_readCells 116 = .ok (.iadd, 1) := by decide +kernel
theorem d_Model_readCells_117 : decode b_Model_readCells 117 = .ok (.istore 4, 2) := by decide +kernel
theorem d_Model_readCells_119 : decode b_Model_readCells 119 = .ok (.iload 7, 2) := by decide +kernel
theorem d_Model_readCells_121 : decode b_Model_readCells 121 = .ok (.istore 5, 2) := by decide +kernel
theorem d_Model_readCells_123 : decode b_Model_readCells 123 = .ok (.iinc 6 1, 3) := by decide +kernel
theorem d_Model_readCells_126 : decode b_Model_readCells 126 = .ok (.goto (-115), 3) := by decide +kernel
theorem d_Model_readCells_129 : decode b_Model_readCells 129 = .ok (.aload_n 0, 1) := by decide +kernel
theorem d_Model_readCells_130 : decode b_Model_readCells 130 = .ok (.getfield 23, 3) := by decide +kernel
theorem d_Model_readCells_133 : decode b_Model_readCells 133 = .ok (.aload_n 0, 1) := by decide +kernel
theorem d_Model_readCells_134 : decode b_Model_readCells 134 = .ok (.getfield 83, 3) := by decide +kernel
theorem d_Model_readCells_137 : decode b_Model_readCells 137 = .ok (.iload_n 3, 1) := by decide +kernel
theorem d_Model_readCells_138 : decode b_Model_readCells 138 = .ok (.iastore, 1) := by decide +kernel
theorem d_Model_readCells_139 : decode b_Model_readCells 139 = .ok (.iconst 1, 1) := by decide +kernel
theorem d_Model_readCells_140 : decode b_Model_readCells 140 = .ok (.ireturn, 1) := by decide +kernel
theorem d_Model_isThere_0 : decode b_Model_isThere 0 = .ok (.iconst 0, 1) := by decide +kernel
theorem d_Model_isThere_1 : decode b_Model_isThere 1 = .ok (.istore_n 1, 1) := by decide +kernel
theorem d_Model_isThere_2 : decode b_Model_isThere 2 = .ok (.iload_n 1, 1) := by decide +kernel
theorem d_Model_isThere_3 : decode b_Model_isThere 3 = .ok (.aload_n 0, 1) := by decide +kernel
theorem d_Model_isThere_4 : decode b_Model_isThere 4 = .ok (.getfield 83, 3) := by decide +kernel
theorem d_Model_isThere_7 : decode b_Model_isThere 7 = .ok (.if_icmp .ge 116, 3) := by decide +kernel
theorem d_Model_isThere_10 : decode b_Model_isThere 10 = .ok (.aload_n 0, 1) := by decide +kernel
theorem d_Model_isThere_11 : decode b_Model_isThere 11 = .ok (.getfield 13, 3) := by decide +kernel
theorem d_Model_isThere_14 : decode b_Model_isThere 14 = .ok (.iload_n 1, 1) := by decide +kernel
theorem d_Model_isThere_15 : decode b_Model_isThere 15 = .ok (.iaload, 1) := by decide +kernel
theorem d_Model_isThere_16 : decode b_Model_isThere 16 = .ok (.aload_n 0, 1) := by decide +kernel
theorem d_Model_isThere_17 : decode b_Model_isThere 17 = .ok (.getfield 13, 3) := by decide +kernel
theorem d_Model_isThere_20 : decode b_Model_isThere 20 = .ok (.aload_n 0, 1) := by decide +kernel
theorem d_Model_isThere_21 : decode b_Model_isThere 21 = .ok (.getfield 83, 3) := by decide +kernel
theorem d_Model_isThere_24 : decode b_Model_isThere 24 = .ok (.iaload, 1) := by decide +kernel
theorem d_Model_isThere_25 : decode b_Model_isThere 25 = .ok (.if_icmp .ne 25, 3) := by decide +kernel
theorem d_Model_isThere_28 : decode b_Model_isThere 28 = .ok (.aload_n 0, 1) := by decide +kernel
theorem d_Model_isThere_29 : decode b_Model_isThere 29 = .ok (.getfield 17, 3) := by decide +kernel
theorem d_Model_isThere_32 : decode b_Model_isThere 32 = .ok (.iload_n 1, 1) := by decide +kernel
theorem d_Model_isThere_33 : decode b_Model_isThere 33 = .ok (.iaload, 1) := by decide +kernel
theorem d_Model_isThere_34 : decode b_Model_isThere 34 = .ok (.aload_n 0, 1) := by decide +kernel
theorem d_Model_isThere_35 : decode b_Model_isThere 35 = .ok (.getfield 17, 3) := by decide +kernel
theorem d_Model_isThere_38 : decode b_Model_isThere 38 = .ok (.aload_n 0, 1) := by decide +kernel
theorem d_Model_isThere_39 : decode b_Model_isThere 39 = .ok (.getfield 83, 3) := by decide +kernel
theorem d_Model_isThere_42 : decode b_Model_isThere 42 = .ok (.iaload, 1) := by decide +kernel
theorem d_Model_isThere_43 : decode b_Model_isThere 43 = .ok (.if_icmp .ne 7, 3) := by decide +kernel
theorem d_Model_isThere_46 : decode b_Model_isThere 46 = .ok (.iconst 1, 1) := by decide +kernel
theorem d_Model_isThere_47 : decode b_Model_isThere 47 = .ok (.goto 4, 3) := by decide +kernel
theorem d_Model_isThere_50 : decode b_Model_isThere 50 = .ok (.iconst 0, 1) := by decide +kernel
theorem d_Model_isThere_51 : decode b_Model_isThere 51 = .ok (.istore_n 2, 1) := by decide +kernel
theorem d_Model_isThere_52 : decode b_Model_isThere 52 = .ok (.iconst 0, 1) := by decide +kernel
theorem d_Model_isThere_53 : decode b_Model_isThere 53 = .ok (.istore_n 3, 1) := by decide +kernel
theorem d_Model_isThere_54 : decode b_Model_isThere 54 = .ok (.iload_n 3, 1) := by decide +kernel
theorem d_Model_isThere_55 : decode b_Model_isThere 55 = .ok (.aload_n 0, 1) := by decide +kernel
theorem d_Model_isThere_56 : decode b_Model_isThere 56 = .ok (.getfield 17, 3) := by decide +kernel
theorem d_Model_isThere_59 : decode b_Model_isThere 59 = .ok (.aload_n 0, 1) := by decide +kernel
theorem d_Model_isThere_60 : decode b_Model_isThere 60 = .ok (.getfield 83, 3) := by decide +kernel
theorem d_Model_isThere_63 : decode b_Model_isThere 63 = .ok (.iaload, 1) := by decide +kernel
theorem d_Model_isThere_64 : decode b_Model_isThere 64 = .ok (.if_icmp .ge 47, 3) := by decide +kernel
theorem d_Model_isThere_67 : decode b_Model_isThere 67 = .ok (.iload_n 2, 1) := by decide +kernel
theorem d_Model_isThere_68 : decode b_Model_isThere 68 = .ok (.ifCond .eq 43, 3) := by decide +kernel
theorem d_Model_isThere_71 : decode b_Model_isThere 71 = .ok (.aload_n 0, 1) := by decide +kernel
theorem d_Model_isThere_72 : decode b_Model_isThere 72 = .ok (.getfield 20, 3) := by decide +kernel
theorem d_Model_isThere_75 : decode b_Model_isThere 75 = .ok (.bipush 6, 2) := by decide +kernel
theorem d_Model_isThere_77 : decode b_Model_isThere 77 = .ok (.iload_n 1, 1) := by decide +kernel
theorem d_Model_isThere_78 : decode b_Model_isThere 78 = .ok (.imul, 1) := by decide +kernel
theorem d_Model_isThere_79 : decode b_Model_isThere 79 = .ok (.iload_n 3, 1) := by decide +kernel
theorem d_Model_isThere_80 : decode b_Model_isThere 80 = .ok (.iadd, 1) := by decide +kernel
theorem d_Model_isThere_81 : decode b_Model_isThere 81 = .ok (.caload, 1) := by decide +kernel
theorem d_Model_isThere_82 : decode b_Model_isThere 82 = .ok (.aload_n 0, 1) := by decide +kernel
theorem d_Model_isThere_83 : decode b_Model_isThere 83 = .ok (.getfield 20, 3) := by decide +kernel
theorem d_Model_isThere_86 : decode b_Model_isThere 86 = .ok (.bipush 6, 2) := by decide +kernel
theorem d_Model_isThere_88 : decode b_Model_isThere 88 = .ok (.aload_n 0, 1) := by decide +kernel
theorem d_Model_isThere_89 : decode b_Model_isThere 89 = .ok (.getfield 83, 3) := by decide +kernel
theorem d_Model_isThere_92 : decode b_Model_isThere 92 = .ok (.imul, 1) := by decide +kernel
theorem d_Model_isThere_93 : decode b_Model_isThere 93 = .ok (.iload_n 3, 1) := by decide +kernel
theorem d_Model_isThere_94 : decode b_Model_isThere 94 = .ok (.iadd, 1) := by decide +kernel
theorem d_Model_isThere_95 : decode b_Model_isThere 95 = .ok (.caload, 1) := by decide +kernel
theorem d_Model_isThere_96 : decode b_Model_isThere 96 = .ok (.if_icmp .ne 7, 3) := by decide +kernel
theorem d_Model_isThere_99 : decode b_Model_isThere 99 = .ok (.iconst 1, 1) := by decide +kernel
theorem d_Model_isThere_100 : decode b_Model_isThere 100 = .ok (.goto 4, 3) := by decide +kernel
theorem d_Model_isThere_103 : decode b_Model_isThere 103 = .ok (.iconst 0, 1) := by decide +kernel
theorem d_Model_isThere_104 : decode b_Model_isThere 104 = .ok (.istore_n 2, 1) := by decide +kernel
theorem d_Model_isThere_105 : decode b_Model_isThere 105 = .ok (.iinc 3 1, 3) := by decide +kernel
theorem d_Model_isThere_108 : decode b_Model_isThere 108 = .ok (.goto (-54), 3) := by decide +kernel
theorem d_Model_isThere_111 : decode b_Model_isThere 111 = .ok (.iload_n 2, 1) := by decide +kernel
theorem d_Model_isThere_112 : decode b_Model_isThere 112 = .ok (.ifCond .eq 5, 3) := by decide +kernel
theorem d_Model_isThere_115 : decode b_Model_isThere 115 = .ok (.iconst 1, 1) := by decide +kernel
theorem d_Model_isThere_116 : decode b_Model_isThere 116 = .ok (.ireturn, 1) := by decide +kernel
theorem d_Model_isThere_117 : decode b_Model_isThere 117 = .ok (.iinc 1 1, 3) := by decide +kernel
theorem d_Model_isThere_120 : decode b_Model_isThere 120 = .ok (.goto (-118), 3) := by decide +kernel
theorem d_Model_isThere_123 : decode b_Model_isThere 123 = .ok (.iconst 0, 1) := by decide +kernel
theorem d_Model_isThere_124 : decode b_Model_isThere 124 = .ok (.ireturn, 1) := by decide +kernel
theorem d_Model_takeRule_0 : decode b_Model_takeRule 0 = .ok (.aload_n 0, 1) := by decide +kernel
theorem d_Model_takeRule_1 : decode b_Model_takeRule 1 = .ok (.getfield 83, 3) := by decide +kernel
theorem d_Model_takeRule_4 : decode b_Model_takeRule 4 = .ok (.bipush 24, 2) := by decide +kernel
theorem d_Model_takeRule_6 : decode b_Model_takeRule 6 = .ok (.if_icmp .eq 37, 3) := by decide +kernel
theorem d_Model_takeRule_9 : decode b_Model_takeRule 9 = .ok (.iload_n 2, 1) := by decide +kernel
theorem d_Model_takeRule_10 : decode b_Model_takeRule 10 = .ok (.iload_n 1, 1) := by decide +kernel
theorem d_Model_takeRule_11 : decode b_Model_takeRule 11 = .ok (.isub, 1) := by decide +kernel
theorem d_Model_takeRule_12 : decode b_Model_takeRule 12 = .ok (.bipush 6, 2) := by decide +kernel
theorem d_Model_takeRule_14 : decode b_Model_takeRule 14 = .ok (.if_icmp .lt 29, 3) := by decide +kernel
theorem d_Model_takeRule_17 : decode b_Model_takeRule 17 = .ok (.aload_n 0, 1) := by decide +kernel
theorem d_Model_takeRule_18 : decode b_Model_takeRule 18 = .ok (.aload_n 0, 1) := by decide +kernel
theorem d_Model_takeRule_19 : decode b_Model_takeRule 19 = .ok (.getfield 7, 3) := by decide +kernel
theorem d_Model_takeRule_22 : decode b_Model_takeRule 22 = .ok (.iload_n 1, 1) := by decide +kernel
theorem d_Model_takeRule_23 : decode b_Model_takeRule 23 = .ok (.caload, 1) := by decide +kernel
theorem d_Model_takeRule_24 : decode b_Model_takeRule 24 = .ok (.invokevirtual 86, 3) := by decide +kernel
theorem d_Model_takeRule_27 : decode b_Model_takeRule 27 = .ok (.ifCond .lt 16, 3) := by decide +kernel
theorem d_Model_takeRule_30 : decode b_Model_takeRule 30 = .ok (.aload_n 0, 1) := by decide +kernel
theorem d_Model_takeRule_31 : decode b_Model_takeRule 31 = .ok (.getfield 7, 3) := by decide +kernel
theorem d_Model_takeRule_34 : decode b_Model_takeRule 34 = .ok (.iload_n 1, 1) := by decide +kernel
theorem d_Model_takeRule_35 : decode b_Model_takeRule 35 = .ok (.iconst 1, 1) := by decide +kernel
theorem d_Model_takeRule_36 : decode b_Model_takeRule 36 = .ok (.iadd, 1) := by decide +kernel
theorem d_Model_takeRule_37 : decode b_Model_takeRule 37 = .ok (.caload, 1) := by decide +kernel
theorem d_Model_takeRule_38 : decode b_Model_takeRule 38 = .ok (.bipush 32, 2) := by decide +kernel
theorem d_Model_takeRule_40 : decode b_Model_takeRule 40 = .ok (.if_icmp .eq 5, 3) := by decide +kernel
theorem d_Model_takeRule_43 : decode b_Model_takeRule 43 = .ok (.iconst 0, 1) := by decide +kernel
theorem d_Model_takeRule_44 : decode b_Model_takeRule 44 = .ok (.ireturn, 1) := by decide +kernel
theorem d_Model_takeRule_45 : decode b_Model_takeRule 45 = .ok (.iconst 0, 1) := by decide +kernel
theorem d_Model_takeRule_46 : decode b_Model_takeRule 46 = .ok (.istore_n 3, 1) := by decide +kernel
theorem d_Model_takeRule_47 : decode b_Model_takeRule 47 = .ok (.iload_n 1, 1) := by decide +kernel
theorem d_Model_takeRule_48 : decode b_Model_takeRule 48 = .ok (.iconst 2, 1) := by decide +kernel
theorem d_Model_takeRule_49 : decode b_Model_takeRule 49 = .ok (.iadd, 1) := by decide +kernel
theorem d_Model_takeRule_50 : decode b_Model_takeRule 50 = .ok (.istore 4, 2) := by decide +kernel
theorem d_Model_takeRule_52 : decode b_Model_takeRule 52 = .ok (.iload 4, 2) := by decide +kernel
theorem d_Model_takeRule_54 : decode b_Model_takeRule 54 = .ok (.iload_n 2, 1) := by decide +kernel
theorem d_Model_takeRule_55 : decode b_Model_takeRule 55 = .ok (.if_icmp .ge 53, 3) := by decide +kernel
theorem d_Model_takeRule_58 : decode b_Model_takeRule 58 = .ok (.aload_n 0, 1) := by decide +kernel
theorem d_Model_takeRule_59 : decode b_Model_takeRule 59 = .ok (.aload_n 0, 1) := by decide +kernel
theorem d_Model_takeRule_60 : decode b_Model_takeRule 60 = .ok (.getfield 7, 3) := by decide +kernel
theorem d_Model_takeRule_63 : decode b_Model_takeRule 63 = .ok (.iload 4, 2) := by decide +kernel
theorem d_Model_takeRule_65 : decode b_Model_takeRule 65 = .ok (.caload, 1) := by decide +kernel
theorem d_Model_takeRule_66 : decode b_Model_takeRule 66 = .ok (.invokevirtual 66, 3) := by decide +kernel
theorem d_Model_takeRule_69 : decode b_Model_takeRule 69 = .ok (.ifCond .eq 39, 3) := by decide +kernel
theorem d_Model_takeRule_72 : decode b_Model_takeRule 72 = .ok (.iload_n 3, 1) := by decide +kernel
theorem d_Model_takeRule_73 : decode b_Model_takeRule 73 = .ok (.bipush 6, 2) := by decide +kernel
theorem d_Model_takeRule_75 : decode b_Model_takeRule 75 = .ok (.if_icmp .ge 33, 3) := by decide +kernel
theorem d_Model_takeRule_78 : decode b_Model_takeRule 78 = .ok (.aload_n 0, 1) := by decide +kernel
theorem d_Model_takeRule_79 : decode b_Model_takeRule 79 = .ok (.getfield 20, 3) := by decide +kernel
theorem d_Model_takeRule_82 : decode b_Model_takeRule 82 = .ok (.bipush 6, 2) := by decide +kernel
theorem d_Model_takeRule_84 : decode b_Model_takeRule 84 = .ok (.aload_n 0, 1) := by decide +kernel
theorem d_Model_takeRule_85 : decode b_Model_takeRule 85 = .ok (.getfield 83, 3) := by decide +kernel
theorem d_Model_takeRule_88 : decode b_Model_takeRule 88 = .ok (.imul, 1) := by decide +kernel
theorem d_Model_takeRule_89 : decode b_Model_takeRule 89 = .ok (.iload_n 3, 1) := by decide +kernel
theorem d_Model_takeRule_90 : decode b_Model_takeRule 90 = .ok (.iadd, 1) := by decide +kernel
theorem d_Model_takeRule_91 : decode b_Model_takeRule 91 = .ok (.aload_n 0, 1) := by decide +kernel
theorem d_Model_takeRule_92 : decode b_Model_takeRule 92 = .ok (.getfield 7, 3) := by decide +kernel
theorem d_Model_takeRule_95 : decode b_Model_takeRule 95 = .ok (.iload 4, 2) := by decide +kernel
theorem d_Model_takeRule_97 : decode b_Model_takeRule 97 = .ok (.caload, 1) := by decide +kernel
theorem d_Model_takeRule_98 : decode b_Model_takeRule 98 = .ok (.castore, 1) := by decide +kernel
theorem d_Model_takeRule_99 : decode b_Model_takeRule 99 = .ok (.iinc 3 1, 3) := by decide +kernel
theorem d_Model_takeRule_102 : decode b_Model_takeRule 102 = .ok (.iinc 4 1, 3) := by decide +kernel
theorem d_Model_takeRule_105 : decode b_Model_takeRule 105 = .ok (.goto (-53), 3) := by decide +kernel
theorem d_Model_takeRule_108 : decode b_Model_takeRule 108 = .ok (.iload_n 3, 1) := by decide +kernel
theorem d_Model_takeRule_109 : decode b_Model_takeRule 109 = .ok (.iconst 2, 1) := by decide +kernel
theorem d_Model_takeRule_110 : decode b_Model_takeRule 110 = .ok (.if_icmp .lt 33, 3) := by decide +kernel
theorem d_Model_takeRule_113 : decode b_Model_takeRule 113 = .ok (.iload 4, 2) := by decide +kernel
theorem d_Model_takeRule_115 : decode b_Model_takeRule 115 = .ok (.iload_n 2, 1) := by decide +kernel
theorem d_Model_takeRule_116 : decode b_Model_takeRule 116 = .ok (.if_icmp .eq 27, 3) := by decide +kernel
theorem d_Model_takeRule_119 : decode b_Model_takeRule 119 = .ok (.aload_n 0, 1) := by decide +kernel
theorem d_Model_takeRule_120 : decode b_Model_takeRule 120 = .ok (.getfield 7, 3) := by decide +kernel
theorem d_Model_takeRule_123 : decode b_Model_takeRule 123 = .ok (.iload 4, 2) := by decide +kernel
theorem d_Model_takeRule_125 : decode b_Model_takeRule 125 = .ok (.caload, 1) := by decide +kernel
theorem d_Model_takeRule_126 : decode b_Model_takeRule 126 = .ok (.bipush 61, 2) := by decide +kernel
theorem d_Model_takeRule_128 : decode b_Model_takeRule 128 = .ok (.if_icmp .ne 15, 3) := by decide +kernel
theorem d_Model_takeRule_131 : decode b_Model_takeRule 131 = .ok (.aload_n 0, 1) := by decide +kernel
theorem d_Model_takeRule_132 : decode b_Model_takeRule 132 = .ok (.iload 4, 2) := by decide +kernel
theorem d_Model_takeRule_134 : decode b_Model_takeRule 134 = .ok (.iconst 1, 1) := by decide +kernel
theorem d_Model_takeRule_135 : decode b_Model_takeRule 135 = .ok (.iadd, 1) := by decide +kernel
theorem d_Model_takeRule_136 : decode b_Model_takeRule 136 = .ok (.iload_n 2, 1) := by decide +kernel
theorem d_Model_takeRule_137 : decode b_Model_takeRule 137 = .ok (.invokevirtual 89, 3) := by decide +kernel
theorem d_Model_takeRule_140 : decode b_Model_takeRule 140 = .ok (.ifCond .ne 5, 3) := by decide +kernel
theorem d_Model_takeRule_143 : decode b_Model_takeRule 143 = .ok (.iconst 0, 1) := by decide +kernel
theorem d_Model_takeRule_144 : decode b_Model_takeRule 144 = .ok (.ireturn, 1) := by decide +kernel
theorem d_Model_takeRule_145 : decode b_Model_takeRule 145 = .ok (.aload_n 0, 1) := by decide +kernel
theorem d_Model_takeRule_146 : decode b_Model_takeRule 146 = .ok (.getfield 13, 3) := by decide +kernel
theorem d_Model_takeRule_149 : decode b_Model_takeRule 149 = .ok (.aload_n 0, 1) := by decide +kernel
theorem d_Model_takeRule_150 : decode b_Model_takeRule 150 = .ok (.getfield 83, 3) := by decide +kernel
theorem d_Model_takeRule_153 : decode b_Model_takeRule 153 = .ok (.aload_n 0, 1) := by decide +kernel
theorem d_Model_takeRule_154 : decode b_Model_takeRule 154 = .ok (.aload_n 0, 1) := by decide +kernel
theorem d_Model_takeRule_155 : decode b_Model_takeRule 155 = .ok (.getfield 7, 3) := by decide +kernel
theorem d_Model_takeRule_158 : decode b_Model_takeRule 158 = .ok (.iload_n 1, 1) := by decide +kernel
theorem d_Model_takeRule_159 : decode b_Model_takeRule 159 = .ok (.caload, 1) := by decide +kernel
theorem d_Model_takeRule_160 : decode b_Model_takeRule 160 = .ok (.invokevirtual 86, 3) := by decide +kernel
theorem d_Model_takeRule_163 : decode b_Model_takeRule 163 = .ok (.iastore, 1) := by decide +kernel
theorem d_Model_takeRule_164 : decode b_Model_takeRule 164 = .ok (.aload_n 0, 1) := by decide +kernel
theorem d_Model_takeRule_165 : decode b_Model_takeRule 165 = .ok (.getfield 17, 3) := by decide +kernel
theorem d_Model_takeRule_168 : decode b_Model_takeRule 168 = .ok (.aload_n 0, 1) := by decide +kernel
theorem d_Model_takeRule_169 : decode b_Model_takeRule 169 = .ok (.getfield 83, 3) := by decide +kernel
theorem d_Model_takeRule_172 : decode b_Model_takeRule 172 = .ok (.iload_n 3, 1) := by decide +kernel
theorem d_Model_takeRule_173 : decode b_Model_takeRule 173 = .ok (.iastore, 1) := by decide +kernel
theorem d_Model_takeRule_174 : decode b_Model_takeRule 174 = .ok (.aload_n 0, 1) := by decide +kernel
theorem d_Model_takeRule_175 : decode b_Model_takeRule 175 = .ok (.invokevirtual 93, 3) := by decide +kernel
theorem d_Model_takeRule_178 : decode b_Model_takeRule 178 = .ok (.ifCond .eq 5, 3) := by decide +kernel
theorem d_Model_takeRule_181 : decode b_Model_takeRule 181 = .ok (.iconst 0, 1) := by decide +kernel
theorem d_Model_takeRule_182 : decode b_Model_takeRule 182 = .ok (.ireturn, 1) := by decide +kernel
theorem d_Model_takeRule_183 : decode b_Model_takeRule 183 = .ok (.aload_n 0, 1) := by decide +kernel
theorem d_Model_takeRule_184 : decode b_Model_takeRule 184 = .ok (.dup, 1) := by decide +kernel
theorem d_Model_takeRule_185 : decode b_Model_takeRule 185 = .ok (.getfield 83, 3) := by decide +kernel
theorem d_Model_takeRule_188 : decode b_Model_takeRule 188 = .ok (.iconst 1, 1) := by decide +kernel
theorem d_Model_takeRule_189 : decode b_Model_takeRule 189 = .ok (.iadd, 1) := by decide +kernel
theorem d_Model_takeRule_190 : decode b_Model_takeRule 190 = .ok (.putfield 83, 3) := by decide +kernel
theorem d_Model_takeRule_193 : decode b_Model_takeRule 193 = .ok (.iconst 1, 1) := by decide +kernel
theorem d_Model_takeRule_194 : decode b_Model_takeRule 194 = .ok (.ireturn, 1) := by decide +kernel
theorem d_Model_rules_0 : decode b_Model_rules 0 = .ok (.aload_n 0, 1) := by decide +kernel
theorem d_Model_rules_1 : decode b_Model_rules 1 = .ok (.getfield 83, 3) := by decide +kernel
theorem d_Model_rules_4 : decode b_Model_rules 4 = .ok (.istore_n 2, 1) := by decide +kernel
theorem d_Model_rules_5 : decode b_Model_rules 5 = .ok (.aload_n 0, 1) := by decide +kernel
theorem d_Model_rules_6 : decode b_Model_rules 6 = .ok (.iconst (-1), 1) := by decide +kernel
theorem d_Model_rules_7 : decode b_Model_rules 7 = .ok (.putfield 29, 3) := by decide +kernel
theorem d_Model_rules_10 : decode b_Model_rules 10 = .ok (.iconst 0, 1) := by decide +kernel
theorem d_Model_rules_11 : decode b_Model_rules 11 = .ok (.istore_n 3, 1) := by decide +kernel
theorem d_Model_rules_12 : decode b_Model_rules 12 = .ok (.iconst 0, 1) := by decide +kernel
theorem d_Model_rules_13 : decode b_Model_rules 13 = .ok (.istore 4, 2) := by decide +kernel
theorem d_Model_rules_15 : decode b_Model_rules 15 = .ok (.iconst 0, 1) := by decide +kernel
theorem d_Model_rules_16 : decode b_Model_rules 16 = .ok (.istore 5, 2) := by decide +kernel
theorem d_Model_rules_18 : decode b_Model_rules 18 = .ok (.iload 5, 2) := by decide +kernel
theorem d_Model_rules_20 : decode b_Model_rules 20 = .ok (.aload_n 0, 1) := by decide +kernel
theorem d_Model_rules_21 : decode b_Model_rules 21 = .ok (.getfield 80, 3) := by decide +kernel
theorem d_Model_rules_24 : decode b_Model_rules 24 = .ok (.if_icmp .gt 72, 3) := by decide +kernel
theorem d_Model_rules_27 : decode b_Model_rules 27 = .ok (.iload 5, 2) := by decide +kernel
theorem d_Model_rules_29 : decode b_Model_rules 29 = .ok (.aload_n 0, 1) := by decide +kernel
theorem d_Model_rules_30 : decode b_Model_rules 30 = .ok (.getfield 80, 3) := by decide +kernel
theorem d_Model_rules_33 : decode b_Model_rules 33 = .ok (.if_icmp .eq 15, 3) := by decide +kernel
theorem d_Model_rules_36 : decode b_Model_rules 36 = .ok (.aload_n 0, 1) := by decide +kernel
theorem d_Model_rules_37 : decode b_Model_rules 37 = .ok (.getfield 7, 3) := by decide +kernel
theorem d_Model_rules_40 : decode b_Model_rules 40 = .ok (.iload 5, 2) := by decide +kernel
theorem d_Model_rules_42 : decode b_Model_rules 42 = .ok (.caload, 1) := by decide +kernel
theorem d_Model_rules_43 : decode b_Model_rules 43 = .ok (.bipush 59, 2) := by decide +kernel
theorem d_Model_rules_45 : decode b_Model_rules 45 = .ok (.if_icmp .ne 45, 3) := by decide +kernel
theorem d_Model_rules_48 : decode b_Model_rules 48 = .ok (.aload_n 0, 1) := by decide +kernel
theorem d_Model_rules_49 : decode b_Model_rules 49 = .ok (.iload_n 3, 1) := by decide +kernel
theorem d_Model_rules_50 : decode b_Model_rules 50 = .ok (.iload 5, 2) := by decide +kernel
theorem d_Model_rules_52 : decode b_Model_rules 52 = .ok (.invokevirtual 97, 3) := by decide +kernel
theorem d_Model_rules_55 : decode b_Model_rules 55 = .ok (.istore 6, 2) := by decide +kernel
theorem d_Model_rules_57 : decode b_Model_rules 57 = .ok (.aload_n 0, 1) := by decide +kernel
theorem d_Model_rules_58 : decode b_Model_rules 58 = .ok (.iload 6, 2) := by decide +kernel
theorem d_Model_rules_60 : decode b_Model_rules 60 = .ok (.ifCond .ne 10, 3) := by decide +kernel
theorem d_Model_rules_63 : decode b_Model_rules 63 = .ok (.aload_n 0, 1) := by decide +kernel
theorem d_Model_rules_64 : decode b_Model_rules 64 = .ok (.getfield 29, 3) := by decide +kernel
theorem d_Model_rules_67 : decode b_Model_rules 67 = .ok (.ifCond .lt 10, 3) := by decide +kernel
theorem d_Model_rules_70 : decode b_Model_rules 70 = .ok (.aload_n 0, 1) := by decide +kernel
theorem d_Model_rules_71 : decode b_Model_rules 71 = .ok (.getfield 29, 3) := by decide +kernel
theorem d_Model_rules_74 : decode b_Model_rules 74 = .ok (.goto 5, 3) := by decide +kernel
theorem d_Model_rules_77 : decode b_Model_rules 77 = .ok (.iload 4, 2) := by decide +kernel
theorem d_Model_rules_79 : decode b_Model_rules 79 = .ok (.putfield 29, 3) := by decide +kernel
theorem d_Model_rules_82 : decode b_Model_rules 82 = .ok (.iload 5, 2) := by decide +kernel
theorem d_Model_rules_84 : decode b_Model_rules 84 = .ok (.iconst 1, 1) := by decide +kernel
theorem d_Model_rules_85 : decode b_Model_rules 85 = .ok (.iadd, 1) := by decide +kernel
theorem d_Model_rules_86 : decode b_Model_rules 86 = .ok (.istore_n 3, 1) := by decide +kernel
theorem d_Model_rules_87 : decode b_Model_rules 87 = .ok (.iinc 4 1, 3) := by decide +kernel
theorem d_Model_rules_90 : decode b_Model_rules 90 = .ok (.iinc 5 1, 3) := by decide +kernel
theorem d_Model_rules_93 : decode b_Model_rules 93 = .ok (.goto (-75), 3) := by decide +kernel
theorem d_Model_rules_96 : decode b_Model_rules 96 = .ok (.aload_n 0, 1) := by decide +kernel
theorem d_Model_rules_97 : decode b_Model_rules 97 = .ok (.aload_n 0, 1) := by decide +kernel
theorem d_Model_rules_98 : decode b_Model_rules 98 = .ok (.getfield 29, 3) := by decide +kernel
theorem d_Model_rules_101 : decode b_Model_rules 101 = .ok (.ifCond .lt 11, 3) := by decide +kernel
theorem d_Model_rules_104 : decode b_Model_rules 104 = .ok (.iload_n 1, 1) := by decide +kernel
theorem d_Model_rules_105 : decode b_Model_rules 105 = .ok (.ifCond .ne 7, 3) := by decide +kernel
theorem d_Model_rules_108 : decode b_Model_rules 108 = .ok (.iconst 1, 1) := by decide +kernel
theorem d_Model_rules_109 : decode b_Model_rules 109 = .ok (.goto 4, 3) := by decide +kernel
theorem d_Model_rules_112 : decode b_Model_rules 112 = .ok (.iconst 0, 1) := by decide +kernel
theorem d_Model_rules_113 : decode b_Model_rules 113 = .ok (.putfield 63, 3) := by decide +kernel
theorem d_Model_rules_116 : decode b_Model_rules 116 = .ok (.aload_n 0, 1) := by decide +kernel
theorem d_Model_rules_117 : decode b_Model_rules 117 = .ok (.getfield 63, 3) := by decide +kernel
theorem d_Model_rules_120 : decode b_Model_rules 120 = .ok (.ifCond .eq 10, 3) := by decide +kernel
theorem d_Model_rules_123 : decode b_Model_rules 123 = .ok (.aload_n 0, 1) := by decide +kernel
theorem d_Model_rules_124 : decode b_Model_rules 124 = .ok (.iload_n 2, 1) := by decide +kernel
theorem d_Model_rules_125 : decode b_Model_rules 125 = .ok (.putfield 83, 3) := by decide +kernel
theorem d_Model_rules_128 : decode b_Model_rules 128 = .ok (.iconst 0, 1) := by decide +kernel
theorem d_Model_rules_129 : decode b_Model_rules 129 = .ok (.ireturn, 1) := by decide +kernel
theorem d_Model_rules_130 : decode b_Model_rules 130 = .ok (.aload_n 0, 1) := by decide +kernel
theorem d_Model_rules_131 : decode b_Model_rules 131 = .ok (.iconst 0, 1) := by decide +kernel
theorem d_Model_rules_132 : decode b_Model_rules 132 = .ok (.putfield 80, 3) := by decide +kernel
theorem d_Model_rules_135 : decode b_Model_rules 135 = .ok (.aload_n 0, 1) := by decide +kernel
theorem d_Model_rules_136 : decode b_Model_rules 136 = .ok (.getfield 83, 3) := by decide +kernel
theorem d_Model_rules_139 : decode b_Model_rules 139 = .ok (.ireturn, 1) := by decide +kernel
theorem d_Model_wrong_0 : decode b_Model_wrong 0 = .ok (.aload_n 0, 1) := by decide +kernel
theorem d_Model_wrong_1 : decode b_Model_wrong 1 = .ok (.iconst 0, 1) := by decide +kernel
theorem d_Model_wrong_2 : decode b_Model_wrong 2 = .ok (.putfield 63, 3) := by decide +kernel
theorem d_Model_wrong_5 : decode b_Model_wrong 5 = .ok (.aload_n 0, 1) := by decide +kernel
theorem d_Model_wrong_6 : decode b_Model_wrong 6 = .ok (.getfield 29, 3) := by decide +kernel
theorem d_Model_wrong_9 : decode b_Model_wrong 9 = .ok (.ireturn, 1) := by decide +kernel
theorem d_Model_applies_0 : decode b_Model_applies 0 = .ok (.iload_n 2, 1) := by decide +kernel
theorem d_Model_applies_1 : decode b_Model_applies 1 = .ok (.iload 4, 2) := by decide +kernel
theorem d_Model_applies_3 : decode b_Model_applies 3 = .ok (.if_icmp .ne 7, 3) := by decide +kernel
theorem d_Model_applies_6 : decode b_Model_applies 6 = .ok (.iconst 1, 1) := by decide +kernel
theorem d_Model_applies_7 : decode b_Model_applies 7 = .ok (.goto 4, 3) := by decide +kernel
theorem d_Model_applies_10 : decode b_Model_applies 10 = .ok (.iconst 0, 1) := by decide +kernel
theorem d_Model_applies_11 : decode b_Model_applies 11 = .ok (.istore 6, 2) := by decide +kernel
theorem d_Model_applies_13 : decode b_Model_applies 13 = .ok (.iload_n 2, 1) := by decide +kernel
theorem d_Model_applies_14 : decode b_Model_applies 14 = .ok (.iload_n 3, 1) := by decide +kernel
theorem d_Model_applies_15 : decode b_Model_applies 15 = .ok (.iadd, 1) := by decide +kernel
theorem d_Model_applies_16 : decode b_Model_applies 16 = .ok (.iload 5, 2) := by decide +kernel
theorem d_Model_applies_18 : decode b_Model_applies 18 = .ok (.if_icmp .ge 7, 3) := by decide +kernel
theorem d_Model_applies_21 : decode b_Model_applies 21 = .ok (.iconst 1, 1) := by decide +kernel
theorem d_Model_applies_22 : decode b_Model_applies 22 = .ok (.goto 4, 3) := by decide +kernel
theorem d_Model_applies_25 : decode b_Model_applies 25 = .ok (.iconst 0, 1) := by decide +kernel
theorem d_Model_applies_26 : decode b_Model_applies 26 = .ok (.istore 7, 2) := by decide +kernel
theorem d_Model_applies_28 : decode b_Model_applies 28 = .ok (.iload_n 1, 1) := by decide +kernel
theorem d_Model_applies_29 : decode b_Model_applies 29 = .ok (.iconst 4, 1) := by decide +kernel
theorem d_Model_applies_30 : decode b_Model_applies 30 = .ok (.if_icmp .eq 62, 3) := by decide +kernel
theorem d_Model_applies_33 : decode b_Model_applies 33 = .ok (.iload_n 1, 1) := by decide +kernel
theorem d_Model_applies_34 : decode b_Model_applies 34 = .ok (.ifCond .ne 13, 3) := by decide +kernel
theorem d_Model_applies_37 : decode b_Model_applies 37 = .ok (.iload 6, 2) := by decide +kernel
theorem d_Model_applies_39 : decode b_Model_applies 39 = .ok (.ifCond .eq 8, 3) := by decide +kernel
theorem d_Model_applies_42 : decode b_Model_applies 42 = .ok (.iload 7, 2) := by decide +kernel
theorem d_Model_applies_44 : decode b_Model_applies 44 = .ok (.ifCond .eq 48, 3) := by decide +kernel
theorem d_Model_applies_47 : decode b_Model_applies 47 = .ok (.iload_n 1, 1) := by decide +kernel
theorem d_Model_applies_48 : decode b_Model_applies 48 = .ok (.iconst 1, 1) := by decide +kernel
theorem d_Model_applies_49 : decode b_Model_applies 49 = .ok (.if_icmp .ne 13, 3) := by decide +kernel
theorem d_Model_applies_52 : decode b_Model_applies 52 = .ok (.iload 6, 2) := by decide +kernel
theorem d_Model_applies_54 : decode b_Model_applies 54 = .ok (.ifCond .eq 8, 3) := by decide +kernel
theorem d_Model_applies_57 : decode b_Model_applies 57 = .ok (.iload 7, 2) := by decide +kernel
theorem d_Model_applies_59 : decode b_Model_applies 59 = .ok (.ifCond .ne 33, 3) := by decide +kernel
theorem d_Model_applies_62 : decode b_Model_applies 62 = .ok (.iload_n 1, 1) := by decide +kernel
theorem d_Model_applies_63 : decode b_Model_applies 63 = .ok (.iconst 2, 1) := by decide +kernel
theorem d_Model_applies_64 : decode b_Model_applies 64 = .ok (.if_icmp .ne 13, 3) := by decide +kernel
theorem d_Model_applies_67 : decode b_Model_applies 67 = .ok (.iload 6, 2) := by decide +kernel
theorem d_Model_applies_69 : decode b_Model_applies 69 = .ok (.ifCond .ne 8, 3) := by decide +kernel
theorem d_Model_applies_72 : decode b_Model_applies 72 = .ok (.iload 7, 2) := by decide +kernel
theorem d_Model_applies_74 : decode b_Model_applies 74 = .ok (.ifCond .ne 18, 3) := by decide +kernel
theorem d_Model_applies_77 : decode b_Model_applies 77 = .ok (.iload_n 1, 1) := by decide +kernel
theorem d_Model_applies_78 : decode b_Model_applies 78 = .ok (.iconst 3, 1) := by decide +kernel
theorem d_Model_applies_79 : decode b_Model_applies 79 = .ok (.if_icmp .ne 17, 3) := by decide +kernel
theorem d_Model_applies_82 : decode b_Model_applies 82 = .ok (.iload 6, 2) := by decide +kernel
theorem d_Model_applies_84 : decode b_Model_applies 84 = .ok (.ifCond .ne 12, 3) := by decide +kernel
theorem d_Model_applies_87 : decode b_Model_applies 87 = .ok (.iload 7, 2) := by decide +kernel
theorem d_Model_applies_89 : decode b_Model_applies 89 = .ok (.ifCond .ne 7, 3) := by decide +kernel
theorem d_Model_applies_92 : decode b_Model_applies 92 = .ok (.iconst 1, 1) := by decide +kernel
theorem d_Model_applies_93 : decode b_Model_applies 93 = .ok (.goto 4, 3) := by decide +kernel
theorem d_Model_applies_96 : decode b_Model_applies 96 = .ok (.iconst 0, 1) := by decide +kernel
theorem d_Model_applies_97 : decode b_Model_applies 97 = .ok (.ireturn, 1) := by decide +kernel
theorem d_Model_add_0 : decode b_Model_add 0 = .ok (.aload_n 0, 1) := by decide +kernel
theorem d_Model_add_1 : decode b_Model_add 1 = .ok (.getfield 39, 3) := by decide +kernel
theorem d_Model_add_4 : decode b_Model_add 4 = .ok (.sipush 240, 3) := by decide +kernel
theorem d_Model_add_7 : decode b_Model_add 7 = .ok (.aload_n 0, 1) := by decide +kernel
theorem d_Model_add_8 : decode b_Model_add 8 = .ok (.getfield 100, 3) := by decide +kernel
theorem d_Model_add_11 : decode b_Model_add 11 = .ok (.imul, 1) := by decide +kernel
theorem d_Model_add_12 : decode b_Model_add 12 = .ok (.aload_n 0, 1) := by decide +kernel
theorem d_Model_add_13 : decode b_Model_add 13 = .ok (.getfield 36, 3) := by decide +kernel
theorem d_Model_add_16 : decode b_Model_add 16 = .ok (.aload_n 0, 1) := by decide +kernel
theorem d_Model_add_17 : decode b_Model_add 17 = .ok (.getfield 100, 3) := by decide +kernel
theorem d_Model_add_20 : decode b_Model_add 20 = .ok (.iaload, 1) := by decide +kernel
theorem d_Model_add_21 : decode b_Model_add 21 = .ok (.iadd, 1) := by decide +kernel
theorem d_Model_add_22 : decode b_Model_add 22 = .ok (.iload_n 1, 1) := by decide +kernel
theorem d_Model_add_23 : decode b_Model_add 23 = .ok (.iastore, 1) := by decide +kernel
theorem d_Model_add_24 : decode b_Model_add 24 = .ok (.aload_n 0, 1) := by decide +kernel
theorem d_Model_add_25 : decode b_Model_add 25 = .ok (.getfield 42, 3) := by decide +kernel
theorem d_Model_add_28 : decode b_Model_add 28 = .ok (.sipush 240, 3) := by decide +kernel
theorem d_Model_add_31 : decode b_Model_add 31 = .ok (.aload_n 0, 1) := by decide +kernel
theorem d_Model_add_32 : decode b_Model_add 32 = .ok (.getfield 100, 3) := by decide +kernel
theorem d_Model_add_35 : decode b_Model_add 35 = .ok (.imul, 1) := by decide +kernel
theorem d_Model_add_36 : decode b_Model_add 36 = .ok (.aload_n 0, 1) := by decide +kernel
theorem d_Model_add_37 : decode b_Model_add 37 = .ok (.getfield 36, 3) := by decide +kernel
theorem d_Model_add_40 : decode b_Model_add 40 = .ok (.aload_n 0, 1) := by decide +kernel
theorem d_Model_add_41 : decode b_Model_add 41 = .ok (.getfield 100, 3) := by decide +kernel
theorem d_Model_add_44 : decode b_Model_add 44 = .ok (.iaload, 1) := by decide +kernel
theorem d_Model_add_45 : decode b_Model_add 45 = .ok (.iadd, 1) := by decide +kernel
theorem d_Model_add_46 : decode b_Model_add 46 = .ok (.iload_n 2, 1) := by decide +kernel
theorem d_Model_add_47 : decode b_Model_add 47 = .ok (.iastore, 1) := by decide +kernel
theorem d_Model_add_48 : decode b_Model_add 48 = .ok (.aload_n 0, 1) := by decide +kernel
theorem d_Model_add_49 : decode b_Model_add 49 = .ok (.getfield 36, 3) := by decide +kernel
theorem d_Model_add_52 : decode b_Model_add 52 = .ok (.aload_n 0, 1) := by decide +kernel
theorem d_Model_add_53 : decode b_Model_add 53 = .ok (.getfield 100, 3) := by decide +kernel
theorem d_Model_add_56 : decode b_Model_add 56 = .ok (.dup2, 1) := by decide +kernel
theorem d_Model_add_57 : decode b_Model_add 57 = .ok (.iaload, 1) := by decide +kernel
theorem d_Model_add_58 : decode b_Model_add 58 = .ok (.iconst 1, 1) := by decide +kernel
theorem d_Model_add_59 : decode b_Model_add 59 = .ok (.iadd, 1) := by decide +kernel
theorem d_Model_add_60 : decode b_Model_add 60 = .ok (.iastore, 1) := by decide +kernel
theorem d_Model_add_61 : decode b_Model_add 61 = .ok (.return_, 1) := by decide +kernel
theorem d_Model_stands_0 : decode b_Model_stands 0 = .ok (.aload_n 0, 1) := by decide +kernel
theorem d_Model_stands_1 : decode b_Model_stands 1 = .ok (.getfield 17, 3) := by decide +kernel
theorem d_Model_stands_4 : decode b_Model_stands 4 = .ok (.iload_n 1, 1) := by decide +kernel
theorem d_Model_stands_5 : decode b_Model_stands 5 = .ok (.iaload, 1) := by decide +kernel
theorem d_Model_stands_6 : decode b_Model_stands 6 = .ok (.istore 6, 2) := by decide +kernel
theorem d_Model_stands_8 : decode b_Model_stands 8 = .ok (.iload_n 2, 1) := by decide +kernel
theorem d_Model_stands_9 : decode b_Model_stands 9 = .ok (.iload 6, 2) := by decide +kernel
theorem d_Model_stands_11 : decode b_Model_stands 11 = .ok (.iadd, 1) := by decide +kernel
theorem d_Model_stands_12 : decode b_Model_stands 12 = .ok (.iload 4, 2) := by decide +kernel
theorem d_Model_stands_14 : decode b_Model_stands 14 = .ok (.if_icmp .gt 26, 3) := by decide +kernel
theorem d_Model_stands_17 : decode b_Model_stands 17 = .ok (.aload_n 0, 1) := by decide +kernel
theorem d_Model_stands_18 : decode b_Model_stands 18 = .ok (.aload_n 0, 1) := by decide +kernel
theorem d_Model_stands_19 : decode b_Model_stands 19 = .ok (.getfield 13, 3) := by decide +kernel
theorem d_Model_stands_22 : decode b_Model_stands 22 = .ok (.iload_n 1, 1) := by decide +kernel
theorem d_Model_stands_23 : decode b_Model_stands 23 = .ok (.iaload, 1) := by decide +kernel
theorem d_Model_stands_24 : decode b_Model_stands 24 = .ok (.iload_n 2, 1) := by decide +kernel
theorem d_Model_stands_25 : decode b_Model_stands 25 = .ok (.iload 6, 2) := by decide +kernel
theorem d_Model_stands_27 : decode b_Model_stands 27 = .ok (.iload_n 3, 1) := by decide +kernel
theorem d_Model_stands_28 : decode b_Model_stands 28 = .ok (.iload 4, 2) := by decide +kernel
theorem d_Model_stands_30 : decode b_Model_stands 30 = .ok (.invokevirtual 103, 3) := by decide +kernel
theorem d_Model_stands_33 : decode b_Model_stands 33 = .ok (.ifCond .eq 7, 3) := by decide +kernel
theorem d_Model_stands_36 : decode b_Model_stands 36 = .ok (.iconst 1, 1) := by decide +kernel
theorem d_Model_stands_37 : decode b_Model_stands 37 = .ok (.goto 4, 3) := by decide +kernel
theorem d_Model_stands_40 : decode b_Model_stands 40 = .ok (.iconst 0, 1) := by decide +kernel
theorem d_Model_stands_41 : decode b_Model_stands 41 = .ok (.istore 7, 2) := by decide +kernel
theorem d_Model_stands_43 : decode b_Model_stands 43 = .ok (.iconst 0, 1) := by decide +kernel
theorem d_Model_stands_44 : decode b_Model_stands 44 = .ok (.istore 8, 2) := by decide +kernel
theorem d_Model_stands_46 : decode b_Model_stands 46 = .ok (.iload 8, 2) := by decide +kernel
theorem d_Model_stands_48 : decode b_Model_stands 48 = .ok (.iload 6, 2) := by decide +kernel
theorem d_Model_stands_50 : decode b_Model_stands 50 = .ok (.if_icmp .ge 72, 3) := by decide +kernel
theorem d_Model_stands_53 : decode b_Model_stands 53 = .ok (.iload 7, 2) := by decide +kernel
theorem d_Model_stands_55 : decode b_Model_stands 55 = .ok (.ifCond .eq 67, 3) := by decide +kernel
theorem d_Model_stands_58 : decode b_Model_stands 58 = .ok (.aload_n 0, 1) := by decide +kernel
theorem d_Model_stands_59 : decode b_Model_stands 59 = .ok (.getfield 7, 3) := by decide +kernel
theorem d_Model_stands_62 : decode b_Model_stands 62 = .ok (.iload_n 2, 1) := by decide +kernel
theorem d_Model_stands_63 : decode b_Model_stands 63 = .ok (.iload 8, 2) := by decide +kernel
theorem d_Model_stands_65 : decode b_Model_stands 65 = .ok (.iadd, 1) := by decide +kernel
theorem d_Model_stands_66 : decode b_Model_stands 66 = .ok (.caload, 1) := by decide +kernel
theorem d_Model_stands_67 : decode b_Model_stands 67 = .ok (.istore 9, 2) := by decide +kernel
theorem d_Model_stands_69 : decode b_Model_stands 69 = .ok (.aload_n 0, 1) := by decide +kernel
theorem d_Model_stands_70 : decode b_Model_stands 70 = .ok (.iload 9, 2) := by decide +kernel
theorem d_Model_stands_72 : decode b_Model_stands 72 = .ok (.invokevirtual 107, 3) := by decide +kernel
theorem d_Model_stands_75 : decode b_Model_stands 75 = .ok (.aload_n 0, 1) := by decide +kernel
theorem d_Model_stands_76 : decode b_Model_stands 76 = .ok (.getfield 20, 3) := by decide +kernel
theorem d_Model_stands_79 : decode b_Model_stands 79 = .ok (.bipush 6, 2) := by decide +kernel
theorem d_Model_stands_81 : decode b_Model_stands 81 = .ok (.iload_n 1, 1) := by decide +kernel
theorem d_Model_stands_82 : decode b_Model_stands 82 = .ok (.imul, 1) := by decide +kernel
theorem d_Model_stands_83 : decode b_Model_stands 83 = .ok (.iload 8, 2) := by decide +kernel
theorem d_Model_stands_85 : decode b_Model_stands 85 = .ok (.iadd, 1) := by decide +kernel
theorem d_Model_stands_86 : decode b_Model_stands 86 = .ok (.caload, 1) := by decide +kernel
theorem d_Model_stands_87 : decode b_Model_stands 87 = .ok (.if_icmp .ne 26, 3) := by decide +kernel
theorem d_Model_stands_90 : decode b_Model_stands 90 = .ok (.iload 5, 2) := by decide +kernel
theorem d_Model_stands_92 : decode b_Model_stands 92 = .ok (.ifCond .ne 17, 3) := by decide +kernel
theorem d_Model_stands_95 : decode b_Model_stands 95 = .ok (.iload 8, 2) := by decide +kernel
theorem d_Model_stands_97 : decode b_Model_stands 97 = .ok (.ifCond .eq 12, 3) := by decide +kernel
theorem d_Model_stands_100 : decode b_Model_stands 100 = .ok (.aload_n 0, 1) := by decide +kernel
theorem d_Model_stands_101 : decode b_Model_stands 101 = .ok (.iload 9, 2) := by decide +kernel
theorem d_Model_stands_103 : decode b_Model_stands 103 = .ok (.invokevirtual 66, 3) := by decide +kernel
theorem d_Model_stands_106 : decode b_Model_stands 106 = .ok (.ifCond .eq 7, 3) := by decide +kernel
theorem d_Model_stands_109 : decode b_Model_stands 109 = .ok (.iconst 1, 1) := by decide +kernel
theorem d_Model_stands_110 : decode b_Model_stands 110 = .ok (.goto 4, 3) := by decide +kernel
theorem d_Model_stands_113 : decode b_Model_stands 113 = .ok (.iconst 0, 1) := by decide +kernel
theorem d_Model_stands_114 : decode b_Model_stands 114 = .ok (.istore 7, 2) := by decide +kernel
theorem d_Model_stands_116 : decode b_Model_stands 116 = .ok (.iinc 8 1, 3) := by decide +kernel
theorem d_Model_stands_119 : decode b_Model_stands 119 = .ok (.goto (-73), 3) := by decide +kernel
theorem d_Model_stands_122 : decode b_Model_stands 122 = .ok (.iload 7, 2) := by decide +kernel
theorem d_Model_stands_124 : decode b_Model_stands 124 = .ok (.ireturn, 1) := by decide +kernel
theorem d_Model_translateWord_0 : decode b_Model_translateWord 0 = .ok (.iload_n 2, 1) := by decide +kernel
theorem d_Model_translateWord_1 : decode b_Model_translateWord 1 = .ok (.iload_n 1, 1) := by decide +kernel
theorem d_Model_translateWord_2 : decode b_Model_translateWord 2 = .ok (.isub, 1) := by decide +kernel
theorem d_Model_translateWord_3 : decode b_Model_translateWord 3 = .ok (.iconst 1, 1) := by decide +kernel
theorem d_Model_translateWord_4 : decode b_Model_translateWord 4 = .ok (.if_icmp .le 7, 3) := by decide +kernel
theorem d_Model_translateWord_7 : decode b_Model_translateWord 7 = .ok (.iconst 1, 1) := by decide +kernel
theorem d_Model_translateWord_8 : decode b_Model_translateWord 8 = .ok (.goto 4, 3) := by decide +kernel
theorem d_Model_translateWord_11 : decode b_Model_translateWord 11 = .ok (.iconst 0, 1) := by decide +kernel
theorem d_Model_translateWord_12 : decode b_Model_translateWord 12 = .ok (.istore_n 3, 1) := by decide +kernel
theorem d_Model_translateWord_13 : decode b_Model_translateWord 13 = .ok (.iload_n 1, 1) := by decide +kernel
theorem d_Model_translateWord_14 : decode b_Model_translateWord 14 = .ok (.istore 4, 2) := by decide +kernel
theorem d_Model_translateWord_16 : decode b_Model_translateWord 16 = .ok (.iload 4, 2) := by decide +kernel
theorem d_Model_translateWord_18 : decode b_Model_translateWord 18 = .ok (.iload_n 2, 1) := by decide +kernel
theorem d_Model_translateWord_19 : decode b_Model_translateWord 19 = .ok (.if_icmp .ge 33, 3) := by decide +kernel
theorem d_Model_translateWord_22 : decode b_Model_translateWord 22 = .ok (.iload_n 3, 1) := by decide +kernel
theorem d_Model_translateWord_23 : decode b_Model_translateWord 23 = .ok (.ifCond .eq 21, 3) := by decide +kernel
theorem d_Model_translateWord_26 : decode b_Model_translateWord 26 = .ok (.aload_n 0, 1) := by decide +kernel
theorem d_Model_translateWord_27 : decode b_Model_translateWord 27 = .ok (.aload_n 0, 1) := by decide +kernel
theorem d_Model_translateWord_28 : decode b_Model_translateWord 28 = .ok (.getfield 7, 3) := by decide +kernel
theorem d_Model_translateWord_31 : decode b_Model_translateWord 31 = .ok (.iload 4, 2) := by decide +kernel
theorem d_Model_translateWord_33 : decode b_Model_translateWord 33 = .ok (.caload, 1) := by decide +kernel
theorem d_Model_translateWord_34 : decode b_Model_translateWord 34 = .ok (.invokevirtual 70, 3) := by decide +kernel
theorem d_Model_translateWord_37 : decode b_Model_translateWord 37 = .ok (.ifCond .eq 7, 3) := by decide +kernel
theorem d_Model_translateWord_40 : decode b_Model_translateWord 40 = .ok (.iconst 1, 1) := by decide +kernel
theorem d_Model_translateWord_41 : decode b_Model_translateWord 41 = .ok (.goto 4, 3) := by decide +kernel
theorem d_Model_translateWord_44 : decode b_Model_translateWord 44 = .ok (.iconst 0, 1) := by decide +kernel
theorem d_Model_translateWord_45 : decode b_Model_translateWord 45 = .ok (.istore_n 3, 1) := by decide +kernel
theorem d_Model_translateWord_46 : decode b_Model_translateWord 46 = .ok (.iinc 4 1, 3) := by decide +kernel
theorem d_Model_translateWord_49 : decode b_Model_translateWord 49 = .ok (.goto (-33), 3) := by decide +kernel
theorem d_Model_translateWord_52 : decode b_Model_translateWord 52 = .ok (.iload_n 3, 1) := by decide +kernel
theorem d_Model_translateWord_53 : decode b_Model_translateWord 53 = .ok (.ifCond .eq 17, 3) := by decide +kernel
theorem d_Model_translateWord_56 : decode b_Model_translateWord 56 = .ok (.aload_n 0, 1) := by decide +kernel
theorem d_Model_translateWord_57 : decode b_Model_translateWord 57 = .ok (.bipush 32, 2) := by decide +kernel
theorem d_Model_translateWord_59 : decode b_Model_translateWord 59 = .ok (.iload_n 1, 1) := by decide +kernel
theorem d_Model_translateWord_60 : decode b_Model_translateWord 60 = .ok (.invokevirtual 111, 3) := by decide +kernel
theorem d_Model_translateWord_63 : decode b_Model_translateWord 63 = .ok (.aload_n 0, 1) := by decide +kernel
theorem d_Model_translateWord_64 : decode b_Model_translateWord 64 = .ok (.bipush 32, 2) := by decide +kernel
theorem d_Model_translateWord_66 : decode b_Model_translateWord 66 = .ok (.iload_n 1, 1) := by decide +kernel
theorem d_Model_translateWord_67 : decode b_Model_translateWord 67 = .ok (.invokevirtual 111, 3) := by decide +kernel
theorem d_Model_translateWord_70 : decode b_Model_translateWord 70 = .ok (.iload_n 1, 1) := by decide +kernel
theorem d_Model_translateWord_71 : decode b_Model_translateWord 71 = .ok (.istore 4, 2) := by decide +kernel
theorem d_Model_translateWord_73 : decode b_Model_translateWord 73 = .ok (.iload 4, 2) := by decide +kernel
theorem d_Model_translateWord_75 : decode b_Model_translateWord 75 = .ok (.iload_n 2, 1) := by decide +kernel
theorem d_Model_translateWord_76 : decode b_Model_translateWord 76 = .ok (.if_icmp .ge 227, 3) := by decide +kernel
theorem d_Model_translateWord_79 : decode b_Model_translateWord 79 = .ok (.iload_n 3, 1) := by decide +kernel
theorem d_Model_translateWord_80 : decode b_Model_translateWord 80 = .ok (.ifCond .ne 25, 3) := by decide +kernel
theorem d_Model_translateWord_83 : decode b_Model_translateWord 83 = .ok (.aload_n 0, 1) := by decide +kernel
theorem d_Model_translateWord_84 : decode b_Model_translateWord 84 = .ok (.aload_n 0, 1) := by decide +kernel
theorem d_Model_translateWord_85 : decode b_Model_translateWord 85 = .ok (.getfield 7, 3) := by decide +kernel
theorem d_Model_translateWord_88 : decode b_Model_translateWord 88 = .ok (.iload 4, 2) := by decide +kernel
theorem d_Model_translateWord_90 : decode b_Model_translateWord 90 = .ok (.caload, 1) := by decide +kernel
theorem d_Model_translateWord_91 : decode b_Model_translateWord 91 = .ok (.invokevirtual 70, 3) := by decide +kernel
theorem d_Model_translateWord_94 : decode b_Model_translateWord 94 = .ok (.ifCond .eq 11, 3) := by decide +kernel
theorem d_Model_translateWord_97 : decode b_Model_translateWord 97 = .ok (.aload_n 0, 1) := by decide +kernel
theorem d_Model_translateWord_98 : decode b_Model_translateWord 98 = .ok (.bipush 32, 2) := by decide +kernel
theorem d_Model_translateWord_100 : decode b_Model_translateWord 100 = .ok (.iload 4, 2) := by decide +kernel
theorem d_Model_translateWord_102 : decode b_Model_translateWord 102 = .ok (.invokevirtual 111, 3) := by decide +kernel
theorem d_Model_translateWord_105 : decode b_Model_translateWord 105 = .ok (.iconst (-1), 1) := by decide +kernel
theorem d_Model_translateWord_106 : decode b_Model_translateWord 106 = .ok (.istore 5, 2) := by decide +kernel
theorem d_Model_translateWord_108 : decode b_Model_translateWord 108 = .ok (.iconst 0, 1) := by decide +kernel
theorem d_Model_translateWord_109 : decode b_Model_translateWord 109 = .ok (.istore 6, 2) := by decide +kernel
theorem d_Model_translateWord_111 : decode b_Model_translateWord 111 = .ok (.iload 6, 2) := by decide +kernel
theorem d_Model_translateWord_113 : decode b_Model_translateWord 113 = .ok (.aload_n 0, 1) := by decide +kernel
theorem d_Model_translateWord_114 : decode b_Model_translateWord 114 = .ok (.getfield 83, 3) := by decide +kernel
theorem d_Model_translateWord_117 : decode b_Model_translateWord 117 = .ok (.if_icmp .ge 100, 3) := by decide +kernel
theorem d_Model_translateWord_120 : decode b_Model_translateWord 120 = .ok (.iload 5, 2) := by decide +kernel
theorem d_Model_translateWord_122 : decode b_Model_translateWord 122 = .ok (.ifCond .lt 54, 3) := by decide +kernel
theorem d_Model_translateWord_125 : decode b_Model_translateWord 125 = .ok (.aload_n 0, 1) := by decide +kernel
theorem d_Model_translateWord_126 : decode b_Model_translateWord 126 = .ok (.getfield 17, 3) := by decide +kernel
theorem d_Model_translateWord_129 : decode b_Model_translateWord 129 = .ok (.iload 6, 2) := by decide +kernel
theorem d_Model_translateWord_131 : decode b_Model_translateWord 131 = .ok (.iaload, 1) := by decide +kernel
theorem d_Model_translateWord_132 : decode b_Model_translateWord 132 = .ok (.aload_n 0, 1) := by decide +kernel
theorem d_Model_translateWord_133 : decode b_Model_translateWord 133 = .ok (.getfield 17, 3) := by decide +kernel
theorem d_Model_translateWord_136 : decode b_Model_translateWord 136 = .ok (.iload 5, 2) := by decide +kernel
theorem d_Model_translateWord_138 : decode b_Model_translateWord 138 = .ok (.iaload, 1) := by decide +kernel
theorem d_Model_translateWord_139 : decode b_Model_translateWord 139 = .ok (.if_icmp .gt 37, 3) := by decide +kernel
theorem d_Model_translateWord_142 : decode b_Model_translateWord 142 = .ok (.aload_n 0, 1) := by decide +kernel
theorem d_Model_translateWord_143 : decode b_Model_translateWord 143 = .ok (.getfield 17, 3) := by decide +kernel
theorem d_Model_translateWord_146 : decode b_Model_translateWord 146 = .ok (.iload 6, 2) := by decide +kernel
theorem d_Model_translateWord_148 : decode b_Model_translateWord 148 = .ok (.iaload, 1) := by decide +kernel
theorem d_Model_translateWord_149 : decode b_Model_translateWord 149 = .ok (.aload_n 0, 1) := by decide +kernel
theorem d_Model_translateWord_150 : decode b_Model_translateWord 150 = .ok (.getfield 17, 3) := by decide +kernel
theorem d_Model_translateWord_153 : decode b_Model_translateWord 153 = .ok (.iload 5, 2) := by decide +kernel
theorem d_Model_translateWord_155 : decode b_Model_translateWord 155 = .ok (.iaload, 1) := by decide +kernel
theorem d_Model_translateWord_156 : decode b_Model_translateWord 156 = .ok (.if_icmp .ne 24, 3) := by decide +kernel
theorem d_Model_translateWord_159 : decode b_Model_translateWord 159 = .ok (.aload_n 0, 1) := by decide +kernel
theorem d_Model_translateWord_160 : decode b_Model_translateWord 160 = .ok (.getfield 13, 3) := by decide +kernel
theorem d_Model_translateWord_163 : decode b_Model_translateWord 163 = .ok (.iload 6, 2) := by decide +kernel
theorem d_Model_translateWord_165 : decode b_Model_translateWord 165 = .ok (.iaload, 1) := by decide +kernel
theorem d_Model_translateWord_166 : decode b_Model_translateWord 166 = .ok (.aload_n 0, 1) := by decide +kernel
theorem d_Model_translateWord_167 : decode b_Model_translateWord 167 = .ok (.getfield 13, 3) := by decide +kernel
theorem d_Model_translateWord_170 : decode b_Model_translateWord 170 = .ok (.iload 5, 2) := by decide +kernel
theorem d_Model_translateWord_172 : decode b_Model_translateWord 172 = .ok (.iaload, 1) := by decide +kernel
theorem d_Model_translateWord_173 : decode b_Model_translateWord 173 = .ok (.if_icmp .ge 7, 3) := by decide +kernel
theorem d_Model_translateWord_176 : decode b_Model_translateWord 176 = .ok (.iconst 1, 1) := by decide +kernel
theorem d_Model_translateWord_177 : decode b_Model_translateWord 177 = .ok (.goto 4, 3) := by decide +kernel
theorem d_Model_translateWord_180 : decode b_Model_translateWord 180 = .ok (.iconst 0, 1) := by decide +kernel
theorem d_Model_translateWord_181 : decode b_Model_translateWord 181 = .ok (.istore 7, 2) := by decide +kernel
theorem d_Model_translateWord_183 : decode b_Model_translateWord 183 = .ok (.iload 7, 2) := by decide +kernel
theorem d_Model_translateWord_185 : decode b_Model_translateWord 185 = .ok (.ifCond .eq 22, 3) := by decide +kernel
theorem d_Model_translateWord_188 : decode b_Model_translateWord 188 = .ok (.aload_n 0, 1) := by decide +kernel
theorem d_Model_translateWord_189 : decode b_Model_translateWord 189 = .ok (.iload 6, 2) := by decide +kernel
theorem d_Model_translateWord_191 : decode b_Model_translateWord 191 = .ok (.iload 4, 2) := by decide +kernel
theorem d_Model_translateWord_193 : decode b_Model_translateWord 193 = .ok (.iload_n 1, 1) := by decide +kernel
theorem d_Model_translateWord_194 : decode b_Model_translateWord 194 = .ok (.iload_n 2, 1) := by decide +kernel
theorem d_Model_translateWord_195 : decode b_Model_translateWord 195 = .ok (.iload_n 3, 1) := by decide +kernel
theorem d_Model_translateWord_196 : decode b_Model_translateWord 196 = .ok (.invokevirtual 115, 3) := by decide +kernel
theorem d_Model_translateWord_199 : decode b_Model_translateWord 199 = .ok (.ifCond .eq 8, 3) := by decide +kernel
theorem d_Model_translateWord_202 : decode b_Model_translateWord 202 = .ok (.iload 6, 2) := by decide +kernel
theorem d_Model_translateWord_204 : decode b_Model_translateWord 204 = .ok (.goto 5, 3) := by decide +kernel
theorem d_Model_translateWord_207 : decode b_Model_translateWord 207 = .ok (.iload 5, 2) := by decide +kernel
theorem d_Model_translateWord_209 : decode b_Model_translateWord 209 = .ok (.istore 5, 2) := by decide +kernel
theorem d_Model_translateWord_211 : decode b_Model_translateWord 211 = .ok (.iinc 6 1, 3) := by decide +kernel
theorem d_Model_translateWord_214 : decode b_Model_translateWord 214 = .ok (.goto (-103), 3) := by decide +kernel
theorem d_Model_translateWord_217 : decode b_Model_translateWord 217 = .ok (.iload 5, 2) := by decide +kernel
theorem d_Model_translateWord_219 : decode b_Model_translateWord 219 = .ok (.ifCond .ge 30, 3) := by decide +kernel
theorem d_Model_translateWord_222 : decode b_Model_translateWord 222 = .ok (.aload_n 0, 1) := by decide +kernel
theorem d_Model_translateWord_223 : decode b_Model_translateWord 223 = .ok (.aload_n 0, 1) := by decide +kernel
theorem d_Model_translateWord_224 : decode b_Model_translateWord 224 = .ok (.aload_n 0, 1) := by decide +kernel
theorem d_Model_translateWord_225 : decode b_Model_translateWord 225 = .ok (.aload_n 0, 1) := by decide +kernel
theorem d_Model_translateWord_226 : decode b_Model_translateWord 226 = .ok (.getfield 7, 3) := by decide +kernel
theorem d_Model_translateWord_229 : decode b_Model_translateWord 229 = .ok (.iload 4, 2) := by decide +kernel
theorem d_Model_translateWord_231 : decode b_Model_translateWord 231 = .ok (.caload, 1) := by decide +kernel
theorem d_Model_translateWord_232 : decode b_Model_translateWord 232 = .ok (.invokevirtual 107, 3) := by decide +kernel
theorem d_Model_translateWord_235 : decode b_Model_translateWord 235 = .ok (.invokevirtual 77, 3) := by decide +kernel
theorem d_Model_translateWord_238 : decode b_Model_translateWord 238 = .ok (.iload 4, 2) := by decide +kernel
theorem d_Model_translateWord_240 : decode b_Model_translateWord 240 = .ok (.invokevirtual 111, 3) := by decide +kernel
theorem d_Model_translateWord_243 : decode b_Model_translateWord 243 = .ok (.iinc 4 1, 3) := by decide +kernel
theorem d_Model_translateWord_246 : decode b_Model_translateWord 246 = .ok (.goto 54, 3) := by decide +kernel
theorem d_Model_translateWord_249 : decode b_Model_translateWord 249 = .ok (.iconst 0, 1) := by decide +kernel
theorem d_Model_translateWord_250 : decode b_Model_translateWord 250 = .ok (.istore 6, 2) := by decide +kernel
theorem d_Model_translateWord_252 : decode b_Model_translateWord 252 = .ok (.iload 6, 2) := by decide +kernel
theorem d_Model_translateWord_254 : decode b_Model_translateWord 254 = .ok (.aload_n 0, 1) := by decide +kernel
theorem d_Model_translateWord_255 : decode b_Model_translateWord 255 = .ok (.getfield 23, 3) := by decide +kernel
theorem d_Model_translateWord_258 : decode b_Model_translateWord 258 = .ok (.iload 5, 2) := by decide +kernel
theorem d_Model_translateWord_260 : decode b_Model_translateWord 260 = .ok (.iaload, 1) := by decide +kernel
theorem d_Model_translateWord_261 : decode b_Model_translateWord 261 = .ok (.if_icmp .ge 27, 3) := by decide +kernel
theorem d_Model_translateWord_264 : decode b_Model_translateWord 264 = .ok (.aload_n 0, 1) := by decide +kernel
theorem d_Model_translateWord_265 : decode b_Model_translateWord 265 = .ok (.aload_n 0, 1) := by decide +kernel
theorem d_Model_translateWord_266 : decode b_Model_translateWord 266 = .ok (.getfield 26, 3) := by decide +kernel
theorem d_Model_translateWord_269 : decode b_Model_translateWord 269 = .ok (.iconst 3, 1) := by decide +kernel
theorem d_Model_translateWord_270 : decode b_Model_translateWord 270 = .ok (.iload 5, 2) := by decide +kernel
theorem d_Model_translateWord_272 : decode b_Model_translateWord 272 = .ok (.imul, 1) := by decide +kernel
theorem d_Model_translateWord_273 : decode b_Model_translateWord 273 = .ok (.iload 6, 2) := by decide +kernel
theorem d_Model_translateWord_275 : decode b_Model_translateWord 275 = .ok (.iadd, 1) := by decide +kernel
theorem d_Model_translateWord_276 : decode b_Model_translateWord 276 = .ok (.iaload, 1) := by decide +kernel
theorem d_Model_translateWord_277 : decode b_Model_translateWord 277 = .ok (.iload 4, 2) := by decide +kernel
theorem d_Model_translateWord_279 : decode b_Model_translateWord 279 = .ok (.invokevirtual 111, 3) := by decide +kernel
theorem d_Model_translateWord_282 : decode b_Model_translateWord 282 = .ok (.iinc 6 1, 3) := by decide +kernel
theorem d_Model_translateWord_285 : decode b_Model_translateWord 285 = .ok (.goto (-33), 3) := by decide +kernel
theorem d_Model_translateWord_288 : decode b_Model_translateWord 288 = .ok (.iload 4, 2) := by decide +kernel
theorem d_Model_translateWord_290 : decode b_Model_translateWord 290 = .ok (.aload_n 0, 1) := by decide +kernel
theorem d_Model_translateWord_291 : decode b_Model_translateWord 291 = .ok (.getfield 17, 3) := by decide +kernel
theorem d_Model_translateWord_294 : decode b_Model_translateWord 294 = .ok (.iload 5, 2) := by decide +kernel
theorem d_Model_translateWord_296 : decode b_Model_translateWord 296 = .ok (.iaload, 1) := by decide +kernel
theorem d_Model_translateWord_297 : decode b_Model_translateWord 297 = .ok (.iadd, 1) := by decide +kernel
theorem d_Model_translateWord_298 : decode b_Model_translateWord 298 = .ok (.istore 4, 2) := by decide +kernel
theorem d_Model_translateWord_300 : decode b_Model_translateWord 300 = .ok (.goto (-227), 3) := by decide +kernel
theorem d_Model_translateWord_303 : decode b_Model_translateWord 303 = .ok (.return_, 1) := by decide +kernel
theorem d_Model_translate_0 : decode b_Model_translate 0 = .ok (.iconst 0, 1) := by decide +kernel
theorem d_Model_translate_1 : decode b_Model_translate 1 = .ok (.istore_n 1, 1) := by decide +kernel
theorem d_Model_translate_2 : decode b_Model_translate 2 = .ok (.iload_n 1, 1) := by decide +kernel
theorem d_Model_translate_3 : decode b_Model_translate 3 = .ok (.aload_n 0, 1) := by decide +kernel
theorem d_Model_translate_4 : decode b_Model_translate 4 = .ok (.getfield 80, 3) := by decide +kernel
theorem d_Model_translate_7 : decode b_Model_translate 7 = .ok (.if_icmp .ge 196, 3) := by decide +kernel
theorem d_Model_translate_10 : decode b_Model_translate 10 = .ok (.iload_n 1, 1) := by decide +kernel
theorem d_Model_translate_11 : decode b_Model_translate 11 = .ok (.iconst 1, 1) := by decide +kernel
theorem d_Model_translate_12 : decode b_Model_translate 12 = .ok (.iadd, 1) := by decide +kernel
theorem d_Model_translate_13 : decode b_Model_translate 13 = .ok (.istore_n 2, 1) := by decide +kernel
theorem d_Model_translate_14 : decode b_Model_translate 14 = .ok (.aload_n 0, 1) := by decide +kernel
theorem d_Model_translate_15 : decode b_Model_translate 15 = .ok (.getfield 7, 3) := by decide +kernel
theorem d_Model_translate_18 : decode b_Model_translate 18 = .ok (.iload_n 1, 1) := by decide +kernel
theorem d_Model_translate_19 : decode b_Model_translate 19 = .ok (.caload, 1) := by decide +kernel
theorem d_Model_translate_20 : decode b_Model_translate 20 = .ok (.istore_n 3, 1) := by decide +kernel
theorem d_Model_translate_21 : decode b_Model_translate 21 = .ok (.aload_n 0, 1) := by decide +kernel
theorem d_Model_translate_22 : decode b_Model_translate 22 = .ok (.iload_n 3, 1) := by decide +kernel
theorem d_Model_translate_23 : decode b_Model_translate 23 = .ok (.invokevirtual 119, 3) := by decide +kernel
theorem d_Model_translate_26 : decode b_Model_translate 26 = .ok (.ifCond .eq 39, 3) := by decide +kernel
theorem d_Model_translate_29 : decode b_Model_translate 29 = .ok (.iload_n 2, 1) := by decide +kernel
theorem d_Model_translate_30 : decode b_Model_translate 30 = .ok (.aload_n 0, 1) := by decide +kernel
theorem d_Model_translate_31 : decode b_Model_translate 31 = .ok (.getfield 80, 3) := by decide +kernel
theorem d_Model_translate_34 : decode b_Model_translate 34 = .ok (.if_icmp .ge 22, 3) := by decide +kernel
theorem d_Model_translate_37 : decode b_Model_translate 37 = .ok (.aload_n 0, 1) := by decide +kernel
theorem d_Model_translate_38 : decode b_Model_translate 38 = .ok (.aload_n 0, 1) := by decide +kernel
theorem d_Model_translate_39 : decode b_Model_translate 39 = .ok (.getfield 7, 3) := by decide +kernel
theorem d_Model_translate_42 : decode b_Model_translate 42 = .ok (.iload_n 2, 1) := by decide +kernel
theorem d_Model_translate_43 : decode b_Model_translate 43 = .ok (.caload, 1) := by decide +kernel
theorem d_Model_translate_44 : decode b_Model_translate 44 = .ok (.invokevirtual 119, 3) := by decide +kernel
theorem d_Model_translate_47 : decode b_Model_translate 47 = .ok (.ifCond .eq 9, 3) := by decide +kernel
theorem d_Model_translate_50 : decode b_Model_translate 50 = .ok (.iinc 2 1, 3) := by decide +kernel
theorem d_Model_translate_53 : decode b_Model_translate 53 = .ok (.goto (-24), 3) := by decide +kernel
theorem d_Model_translate_56 : decode b_Model_translate 56 = .ok (.aload_n 0, 1) := by decide +kernel
theorem d_Model_translate_57 : decode b_Model_translate 57 = .ok (.iload_n 1, 1) := by decide +kernel
theorem d_Model_translate_58 : decode b_Model_translate 58 = .ok (.iload_n 2, 1) := by decide +kernel
theorem d_Model_translate_59 : decode b_Model_translate 59 = .ok (.invokevirtual 122, 3) := by decide +kernel
theorem d_Model_translate_62 : decode b_Model_translate 62 = .ok (.goto 136, 3) := by decide +kernel
theorem d_Model_translate_65 : decode b_Model_translate 65 = .ok (.aload_n 0, 1) := by decide +kernel
theorem d_Model_translate_66 : decode b_Model_translate 66 = .ok (.iload_n 3, 1) := by decide +kernel
theorem d_Model_translate_67 : decode b_Model_translate 67 = .ok (.invokevirtual 125, 3) := by decide +kernel
theorem d_Model_translate_70 : decode b_Model_translate 70 = .ok (.ifCond .eq 108, 3) := by decide +kernel
theorem d_Model_translate_73 : decode b_Model_translate 73 = .ok (.aload_n 0, 1) := by decide +kernel
theorem d_Model_translate_74 : decode b_Model_translate 74 = .ok (.bipush 60, 2) := by decide +kernel
theorem d_Model_translate_76 : decode b_Model_translate 76 = .ok (.iload_n 1, 1) := by decide +kernel
theorem d_Model_translate_77 : decode b_Model_translate 77 = .ok (.invokevirtual 111, 3) := by decide +kernel
theorem d_Model_translate_80 : decode b_Model_translate 80 = .ok (.aload_n 0, 1) := by decide +kernel
theorem d_Model_translate_81 : decode b_Model_translate 81 = .ok (.aload_n 0, 1) := by decide +kernel
theorem d_Model_translate_82 : decode b_Model_translate 82 = .ok (.iload_n 3, 1) := by decide +kernel
theorem d_Model_translate_83 : decode b_Model_translate 83 = .ok (.bipush 48, 2) := by decide +kernel
theorem d_Model_translate_85 : decode b_Model_translate 85 = .ok (.isub, 1) := by decide +kernel
theorem d_Model_translate_86 : decode b_Model_translate 86 = .ok (.invokevirtual 128, 3) := by decide +kernel
theorem d_Model_translate_89 : decode b_Model_translate 89 = .ok (.iload_n 1, 1) := by decide +kernel
theorem d_Model_translate_90 : decode b_Model_translate 90 = .ok (.invokevirtual 111, 3) := by decide +kernel
theorem d_Model_translate_93 : decode b_Model_translate 93 = .ok (.iload_n 2, 1) := by decide +kernel
theorem d_Model_translate_94 : decode b_Model_translate 94 = .ok (.aload_n 0, 1) := by decide +kernel
theorem d_Model_translate_95 : decode b_Model_translate 95 = .ok (.getfield 80, 3) := by decide +kernel
theorem d_Model_translate_98 : decode b_Model_translate 98 = .ok (.if_icmp .ge 40, 3) := by decide +kernel
theorem d_Model_translate_101 : decode b_Model_translate 101 = .ok (.aload_n 0, 1) := by decide +kernel
theorem d_Model_translate_102 : decode b_Model_translate 102 = .ok (.aload_n 0, 1) := by decide +kernel
theorem d_Model_translate_103 : decode b_Model_translate 103 = .ok (.getfield 7, 3) := by decide +kernel
theorem d_Model_translate_106 : decode b_Model_translate 106 = .ok (.iload_n 2, 1) := by decide +kernel
theorem d_Model_translate_107 : decode b_Model_translate 107 = .ok (.caload, 1) := by decide +kernel
theorem d_Model_translate_108 : decode b_Model_translate 108 = .ok (.invokevirtual 125, 3) := by decide +kernel
theorem d_Model_translate_111 : decode b_Model_translate 111 = .ok (.ifCond .eq 27, 3) := by decide +kernel
theorem d_Model_translate_114 : decode b_Model_translate 114 = .ok (.aload_n 0, 1) := by decide +kernel
theorem d_Model_translate_115 : decode b_Model_translate 115 = .ok (.aload_n 0, 1) := by decide +kernel
theorem d_Model_translate_116 : decode b_Model_translate 116 = .ok (.aload_n 0, 1) := by decide +kernel
theorem d_Model_translate_117 : decode b_Model_translate 117 = .ok (.getfield 7, 3) := by decide +kernel
theorem d_Model_translate_120 : decode b_Model_translate 120 = .ok (.iload_n 2, 1) := by decide +kernel
theorem d_Model_translate_121 : decode b_Model_translate 121 = .ok (.caload, 1) := by decide +kernel
theorem d_Model_translate_122 : decode b_Model_translate 122 = .ok (.bipush 48, 2) := by decide +kernel
theorem d_Model_translate_124 : decode b_Model_translate 124 = .ok (.isub, 1) := by decide +kernel
theorem d_Model_translate_125 : decode b_Model_translate 125 = .ok (.invokevirtual 128, 3) := by decide +kernel
theorem d_Model_translate_128 : decode b_Model_translate 128 = .ok (.iload_n 2, 1) := by decide +kernel
theorem d_Model_translate_129 : decode b_Model_translate 129 = .ok (.invokevirtual 111, 3) := by decide +kernel
theorem d_Model_translate_132 : decode b_Model_translate 132 = .ok (.iinc 2 1, 3) := by decide +kernel
theorem d_Model_translate_135 : decode b_Model_translate 135 = .ok (.goto (-42), 3) := by decide +kernel
theorem d_Model_translate_138 : decode b_Model_translate 138 = .ok (.iload_n 2, 1) := by decide +kernel
theorem d_Model_translate_139 : decode b_Model_translate 139 = .ok (.aload_n 0, 1) := by decide +kernel
theorem d_Model_translate_140 : decode b_Model_translate 140 = .ok (.getfield 80, 3) := by decide +kernel
theorem d_Model_translate_143 : decode b_Model_translate 143 = .ok (.if_icmp .ge 55, 3) := by decide +kernel
theorem d_Model_translate_146 : decode b_Model_translate 146 = .ok (.aload_n 0, 1) := by decide +kernel
theorem d_Model_translate_147 : decode b_Model_translate 147 = .ok (.getfield 7, 3) := by decide +kernel
theorem d_Model_translate_150 : decode b_Model_translate 150 = .ok (.iload_n 2, 1) := by decide +kernel
theorem d_Model_translate_151 : decode b_Model_translate 151 = .ok (.caload, 1) := by decide +kernel
theorem d_Model_translate_152 : decode b_Model_translate 152 = .ok (.bipush 97, 2) := by decide +kernel
theorem d_Model_translate_154 : decode b_Model_translate 154 = .ok (.if_icmp .lt 44, 3) := by decide +kernel
theorem d_Model_translate_157 : decode b_Model_translate 157 = .ok (.aload_n 0, 1) := by decide +kernel
theorem d_Model_translate_158 : decode b_Model_translate 158 = .ok (.getfield 7, 3) := by decide +kernel
theorem d_Model_translate_161 : decode b_Model_translate 161 = .ok (.iload_n 2, 1) := by decide +kernel
theorem d_Model_translate_162 : decode b_Model_translate 162 = .ok (.caload, 1) := by decide +kernel
theorem d_Model_translate_163 : decode b_Model_translate 163 = .ok (.bipush 106, 2) := by decide +kernel
theorem d_Model_translate_165 : decode b_Model_translate 165 = .ok (.if_icmp .gt 33, 3) := by decide +kernel
theorem d_Model_translate_168 : decode b_Model_translate 168 = .ok (.aload_n 0, 1) := by decide +kernel
theorem d_Model_translate_169 : decode b_Model_translate 169 = .ok (.bipush 48, 2) := by decide +kernel
theorem d_Model_translate_171 : decode b_Model_translate 171 = .ok (.iload_n 2, 1) := by decide +kernel
theorem d_Model_translate_172 : decode b_Model_translate 172 = .ok (.invokevirtual 111, 3) := by decide +kernel
theorem d_Model_translate_175 : decode b_Model_translate 175 = .ok (.goto 23, 3) := by decide +kernel
theorem d_Model_translate_178 : decode b_Model_translate 178 = .ok (.aload_n 0, 1) := by decide +kernel
theorem d_Model_translate_179 : decode b_Model_translate 179 = .ok (.iload_n 3, 1) := by decide +kernel
theorem d_Model_translate_180 : decode b_Model_translate 180 = .ok (.bipush 32, 2) := by decide +kernel
theorem d_Model_translate_182 : decode b_Model_translate 182 = .ok (.if_icmp .ne 7, 3) := by decide +kernel
theorem d_Model_translate_185 : decode b_Model_translate 185 = .ok (.iconst 0, 1) := by decide +kernel
theorem d_Model_translate_186 : decode b_Model_translate 186 = .ok (.goto 8, 3) := by decide +kernel
theorem d_Model_translate_189 : decode b_Model_translate 189 = .ok (.aload_n 0, 1) := by decide +kernel
theorem d_Model_translate_190 : decode b_Model_translate 190 = .ok (.iload_n 3, 1) := by decide +kernel
theorem d_Model_translate_191 : decode b_Model_translate 191 = .ok (.invokevirtual 73, 3) := by decide +kernel
theorem d_Model_translate_194 : decode b_Model_translate 194 = .ok (.iload_n 1, 1) := by decide +kernel
theorem d_Model_translate_195 : decode b_Model_translate 195 = .ok (.invokevirtual 111, 3) := by decide +kernel
theorem d_Model_translate_198 : decode b_Model_translate 198 = .ok (.iload_n 2, 1) := by decide +kernel
theorem d_Model_translate_199 : decode b_Model_translate 199 = .ok (.istore_n 1, 1) := by decide +kernel
theorem d_Model_translate_200 : decode b_Model_translate 200 = .ok (.goto (-198), 3) := by decide +kernel
theorem d_Model_translate_203 : decode b_Model_translate 203 = .ok (.return_, 1) := by decide +kernel
theorem d_Model_block_0 : decode b_Model_block 0 = .ok (.iload_n 1, 1) := by decide +kernel
theorem d_Model_block_1 : decode b_Model_block 1 = .ok (.ifCond .lt 12, 3) := by decide +kernel
theorem d_Model_block_4 : decode b_Model_block 4 = .ok (.iload_n 1, 1) := by decide +kernel
theorem d_Model_block_5 : decode b_Model_block 5 = .ok (.iconst 3, 1) := by decide +kernel
theorem d_Model_block_6 : decode b_Model_block 6 = .ok (.if_icmp .gt 7, 3) := by decide +kernel
theorem d_Model_block_9 : decode b_Model_block 9 = .ok (.iconst 1, 1) := by decide +kernel
theorem d_Model_block_10 : decode b_Model_block 10 = .ok (.goto 4, 3) := by decide +kernel
theorem d_Model_block_13 : decode b_Model_block 13 = .ok (.iconst 0, 1) := by decide +kernel
theorem d_Model_block_14 : decode b_Model_block 14 = .ok (.istore_n 2, 1) := by decide +kernel
theorem d_Model_block_15 : decode b_Model_block 15 = .ok (.iconst 0, 1) := by decide +kernel
theorem d_Model_block_16 : decode b_Model_block 16 = .ok (.istore_n 3, 1) := by decide +kernel
theorem d_Model_block_17 : decode b_Model_block 17 = .ok (.iload_n 3, 1) := by decide +kernel
theorem d_Model_block_18 : decode b_Model_block 18 = .ok (.aload_n 0, 1) := by decide +kernel
theorem d_Model_block_19 : decode b_Model_block 19 = .ok (.getfield 80, 3) := by decide +kernel
theorem d_Model_block_22 : decode b_Model_block 22 = .ok (.if_icmp .ge 61, 3) := by decide +kernel
theorem d_Model_block_25 : decode b_Model_block 25 = .ok (.aload_n 0, 1) := by decide +kernel
theorem d_Model_block_26 : decode b_Model_block 26 = .ok (.getfield 7, 3) := by decide +kernel
theorem d_Model_block_29 : decode b_Model_block 29 = .ok (.iload_n 3, 1) := by decide +kernel
theorem d_Model_block_30 : decode b_Model_block 30 = .ok (.caload, 1) := by decide +kernel
theorem d_Model_block_31 : decode b_Model_block 31 = .ok (.istore 4, 2) := by decide +kernel
theorem d_Model_block_33 : decode b_Model_block 33 = .ok (.iload_n 2, 1) := by decide +kernel
theorem d_Model_block_34 : decode b_Model_block 34 = .ok (.ifCond .eq 41, 3) := by decide +kernel
theorem d_Model_block_37 : decode b_Model_block 37 = .ok (.aload_n 0, 1) := by decide +kernel
theorem d_Model_block_38 : decode b_Model_block 38 = .ok (.iload 4, 2) := by decide +kernel
theorem d_Model_block_40 : decode b_Model_block 40 = .ok (.invokevirtual 119, 3) := by decide +kernel
theorem d_Model_block_43 : decode b_Model_block 43 = .ok (.ifCond .ne 28, 3) := by decide +kernel
theorem d_Model_block_46 : decode b_Model_block 46 = .ok (.aload_n 0, 1) := by decide +kernel
theorem d_Model_block_47 : decode b_Model_block 47 = .ok (.iload 4, 2) := by decide +kernel
theorem d_Model_block_49 : decode b_Model_block 49 = .ok (.invokevirtual 125, 3) := by decide +kernel
theorem d_Model_block_52 : decode b_Model_block 52 = .ok (.ifCond .ne 19, 3) := by decide +kernel
theorem d_Model_block_55 : decode b_Model_block 55 = .ok (.iload 4, 2) := by decide +kernel
theorem d_Model_block_57 : decode b_Model_block 57 = .ok (.bipush 32, 2) := by decide +kernel
theorem d_Model_block_59 : decode b_Model_block 59 = .ok (.if_icmp .eq 12, 3) := by decide +kernel
theorem d_Model_block_62 : decode b_Model_block 62 = .ok (.aload_n 0, 1) := by decide +kernel
theorem d_Model_block_63 : decode b_Model_block 63 = .ok (.iload 4, 2) := by decide +kernel
theorem d_Model_block_65 : decode b_Model_block 65 = .ok (.invokevirtual 73, 3) := by decide +kernel
theorem d_Model_block_68 : decode b_Model_block 68 = .ok (.ifCond .le 7, 3) := by decide +kernel
theorem d_Model_block_71 : decode b_Model_block 71 = .ok (.iconst 1, 1) := by decide +kernel
theorem d_Model_block_72 : decode b_Model_block 72 = .ok (.goto 4, 3) := by decide +kernel
theorem d_Model_block_75 : decode b_Model_block 75 = .ok (.iconst 0, 1) := by decide +kernel
theorem d_Model_block_76 : decode b_Model_block 76 = .ok (.istore_n 2, 1) := by decide +kernel
theorem d_Model_block_77 : decode b_Model_block 77 = .ok (.iinc 3 1, 3) := by decide +kernel
theorem d_Model_block_80 : decode b_Model_block 80 = .ok (.goto (-63), 3) := by decide +kernel
theorem d_Model_block_83 : decode b_Model_block 83 = .ok (.aload_n 0, 1) := by decide +kernel
theorem d_Model_block_84 : decode b_Model_block 84 = .ok (.iload_n 2, 1) := by decide +kernel
theorem d_Model_block_85 : decode b_Model_block 85 = .ok (.ifCond .ne 7, 3) := by decide +kernel
theorem d_Model_block_88 : decode b_Model_block 88 = .ok (.iconst 1, 1) := by decide +kernel
theorem d_Model_block_89 : decode b_Model_block 89 = .ok (.goto 17, 3) := by decide +kernel
theorem d_Model_block_92 : decode b_Model_block 92 = .ok (.aload_n 0, 1) := by decide +kernel
theorem d_Model_block_93 : decode b_Model_block 93 = .ok (.getfield 100, 3) := by decide +kernel
theorem d_Model_block_96 : decode b_Model_block 96 = .ok (.bipush 12, 2) := by decide +kernel
theorem d_Model_block_98 : decode b_Model_block 98 = .ok (.if_icmp .ne 7, 3) := by decide +kernel
theorem d_Model_block_101 : decode b_Model_block 101 = .ok (.iconst 2, 1) := by decide +kernel
theorem d_Model_block_102 : decode b_Model_block 102 = .ok (.goto 4, 3) := by decide +kernel
theorem d_Model_block_105 : decode b_Model_block 105 = .ok (.iconst 0, 1) := by decide +kernel
theorem d_Model_block_106 : decode b_Model_block 106 = .ok (.putfield 63, 3) := by decide +kernel
theorem d_Model_block_109 : decode b_Model_block 109 = .ok (.aload_n 0, 1) := by decide +kernel
theorem d_Model_block_110 : decode b_Model_block 110 = .ok (.getfield 63, 3) := by decide +kernel
theorem d_Model_block_113 : decode b_Model_block 113 = .ok (.ifCond .eq 5, 3) := by decide +kernel
theorem d_Model_block_116 : decode b_Model_block 116 = .ok (.iconst 0, 1) := by decide +kernel
theorem d_Model_block_117 : decode b_Model_block 117 = .ok (.ireturn, 1) := by decide +kernel
theorem d_Model_block_118 : decode b_Model_block 118 = .ok (.aload_n 0, 1) := by decide +kernel
theorem d_Model_block_119 : decode b_Model_block 119 = .ok (.getfield 33, 3) := by decide +kernel
theorem d_Model_block_122 : decode b_Model_block 122 = .ok (.aload_n 0, 1) := by decide +kernel
theorem d_Model_block_123 : decode b_Model_block 123 = .ok (.getfield 100, 3) := by decide +kernel
theorem d_Model_block_126 : decode b_Model_block 126 = .ok (.iload_n 1, 1) := by decide +kernel
theorem d_Model_block_127 : decode b_Model_block 127 = .ok (.iastore, 1) := by decide +kernel
theorem d_Model_block_128 : decode b_Model_block 128 = .ok (.aload_n 0, 1) := by decide +kernel
theorem d_Model_block_129 : decode b_Model_block 129 = .ok (.getfield 36, 3) := by decide +kernel
theorem d_Model_block_132 : decode b_Model_block 132 = .ok (.aload_n 0, 1) := by decide +kernel
theorem d_Model_block_133 : decode b_Model_block 133 = .ok (.getfield 100, 3) := by decide +kernel
theorem d_Model_block_136 : decode b_Model_block 136 = .ok (.iconst 0, 1) := by decide +kernel
theorem d_Model_block_137 : decode b_Model_block 137 = .ok (.iastore, 1) := by decide +kernel
theorem d_Model_block_138 : decode b_Model_block 138 = .ok (.iload_n 1, 1) := by decide +kernel
theorem d_Model_block_139 : decode b_Model_block 139 = .ok (.iconst 3, 1) := by decide +kernel
theorem d_Model_block_140 : decode b_Model_block 140 = .ok (.if_icmp .eq 7, 3) := by decide +kernel
theorem d_Model_block_143 : decode b_Model_block 143 = .ok (.aload_n 0, 1) := by decide +kernel
theorem d_Model_block_144 : decode b_Model_block 144 = .ok (.invokevirtual 132, 3) := by decide +kernel
theorem d_Model_block_147 : decode b_Model_block 147 = .ok (.aload_n 0, 1) := by decide +kernel
theorem d_Model_block_148 : decode b_Model_block 148 = .ok (.dup, 1) := by decide +kernel
theorem d_Model_block_149 : decode b_Model_block 149 = .ok (.getfield 100, 3) := by decide +kernel
theorem d_Model_block_152 : decode b_Model_block 152 = .ok (.iconst 1, 1) := by decide +kernel
theorem d_Model_block_153 : decode b_Model_block 153 = .ok (.iadd, 1) := by decide +kernel
theorem d_Model_block_154 : decode b_Model_block 154 = .ok (.putfield 100, 3) := by decide +kernel
theorem d_Model_block_157 : decode b_Model_block 157 = .ok (.aload_n 0, 1) := by decide +kernel
theorem d_Model_block_158 : decode b_Model_block 158 = .ok (.iconst 0, 1) := by decide +kernel
theorem d_Model_block_159 : decode b_Model_block 159 = .ok (.putfield 80, 3) := by decide +kernel
theorem d_Model_block_162 : decode b_Model_block 162 = .ok (.aload_n 0, 1) := by decide +kernel
theorem d_Model_block_163 : decode b_Model_block 163 = .ok (.getfield 100, 3) := by decide +kernel
theorem d_Model_block_166 : decode b_Model_block 166 = .ok (.ireturn, 1) := by decide +kernel
theorem d_Model_noBlock_0 : decode b_Model_noBlock 0 = .ok (.iload_n 1, 1) := by decide +kernel
theorem d_Model_noBlock_1 : decode b_Model_noBlock 1 = .ok (.ifCond .lt 11, 3) := by decide +kernel
theorem d_Model_noBlock_4 : decode b_Model_noBlock 4 = .ok (.iload_n 1, 1) := by decide +kernel
theorem d_Model_noBlock_5 : decode b_Model_noBlock 5 = .ok (.aload_n 0, 1) := by decide +kernel
theorem d_Model_noBlock_6 : decode b_Model_noBlock 6 = .ok (.getfield 100, 3) := by decide +kernel
theorem d_Model_noBlock_9 : decode b_Model_noBlock 9 = .ok (.if_icmp .lt 7, 3) := by decide +kernel
theorem d_Model_noBlock_12 : decode b_Model_noBlock 12 = .ok (.iconst 1, 1) := by decide +kernel
theorem d_Model_noBlock_13 : decode b_Model_noBlock 13 = .ok (.goto 4, 3) := by decide +kernel
theorem d_Model_noBlock_16 : decode b_Model_noBlock 16 = .ok (.iconst 0, 1) := by decide +kernel
theorem d_Model_noBlock_17 : decode b_Model_noBlock 17 = .ok (.ireturn, 1) := by decide +kernel
theorem d_Model_size_0 : decode b_Model_size 0 = .ok (.aload_n 0, 1) := by decide +kernel
theorem d_Model_size_1 : decode b_Model_size 1 = .ok (.aload_n 0, 1) := by decide +kernel
theorem d_Model_size_2 : decode b_Model_size 2 = .ok (.iload_n 1, 1) := by decide +kernel
theorem d_Model_size_3 : decode b_Model_size 3 = .ok (.invokevirtual 135, 3) := by decide +kernel
theorem d_Model_size_6 : decode b_Model_size 6 = .ok (.ifCond .eq 7, 3) := by decide +kernel
theorem d_Model_size_9 : decode b_Model_size 9 = .ok (.iconst 1, 1) := by decide +kernel
theorem d_Model_size_10 : decode b_Model_size 10 = .ok (.goto 4, 3) := by decide +kernel
theorem d_Model_size_13 : decode b_Model_size 13 = .ok (.iconst 0, 1) := by decide +kernel
theorem d_Model_size_14 : decode b_Model_size 14 = .ok (.putfield 63, 3) := by decide +kernel
theorem d_Model_size_17 : decode b_Model_size 17 = .ok (.aload_n 0, 1) := by decide +kernel
theorem d_Model_size_18 : decode b_Model_size 18 = .ok (.getfield 63, 3) := by decide +kernel
theorem d_Model_size_21 : decode b_Model_size 21 = .ok (.ifCond .ne 12, 3) := by decide +kernel
theorem d_Model_size_24 : decode b_Model_size 24 = .ok (.aload_n 0, 1) := by decide +kernel
theorem d_Model_size_25 : decode b_Model_size 25 = .ok (.getfield 36, 3) := by decide +kernel
theorem d_Model_size_28 : decode b_Model_size 28 = .ok (.iload_n 1, 1) := by decide +kernel
theorem d_Model_size_29 : decode b_Model_size 29 = .ok (.iaload, 1) := by decide +kernel
theorem d_Model_size_30 : decode b_Model_size 30 = .ok (.goto 4, 3) := by decide +kernel
theorem d_Model_size_33 : decode b_Model_size 33 = .ok (.iconst 0, 1) := by decide +kernel
theorem d_Model_size_34 : decode b_Model_size 34 = .ok (.ireturn, 1) := by decide +kernel
theorem d_Model_cell_0 : decode b_Model_cell 0 = .ok (.aload_n 0, 1) := by decide +kernel
theorem d_Model_cell_1 : decode b_Model_cell 1 = .ok (.aload_n 0, 1) := by decide +kernel
theorem d_Model_cell_2 : decode b_Model_cell 2 = .ok (.iload_n 1, 1) := by decide +kernel
theorem d_Model_cell_3 : decode b_Model_cell 3 = .ok (.invokevirtual 135, 3) := by decide +kernel
theorem d_Model_cell_6 : decode b_Model_cell 6 = .ok (.ifCond .ne 29, 3) := by decide +kernel
theorem d_Model_cell_9 : decode b_Model_cell 9 = .ok (.iload_n 2, 1) := by decide +kernel
theorem d_Model_cell_10 : decode b_Model_cell 10 = .ok (.ifCond .lt 25, 3) := by decide +kernel
theorem d_Model_cell_13 : decode b_Model_cell 13 = .ok (.iload_n 2, 1) := by decide +kernel
theorem d_Model_cell_14 : decode b_Model_cell 14 = .ok (.aload_n 0, 1) := by decide +kernel
theorem d_Model_cell_15 : decode b_Model_cell 15 = .ok (.getfield 36, 3) := by decide +kernel
theorem d_Model_cell_18 : decode b_Model_cell 18 = .ok (.aload_n 0, 1) := by decide +kernel
theorem d_Model_cell_19 : decode b_Model_cell 19 = .ok (.iload_n 1, 1) := by decide +kernel
theorem d_Model_cell_20 : decode b_Model_cell 20 = .ok (.invokevirtual 135, 3) := by decide +kernel
theorem d_Model_cell_23 : decode b_Model_cell 23 = .ok (.ifCond .eq 7, 3) := by decide +kernel
theorem d_Model_cell_26 : decode b_Model_cell 26 = .ok (.iconst 0, 1) := by decide +kernel
theorem d_Model_cell_27 : decode b_Model_cell 27 = .ok (.goto 4, 3) := by decide +kernel
theorem d_Model_cell_30 : decode b_Model_cell 30 = .ok (.iload_n 1, 1) := by decide +kernel
theorem d_Model_cell_31 : decode b_Model_cell 31 = .ok (.iaload, 1) := by decide +kernel
theorem d_Model_cell_32 : decode b_Model_cell 32 = .ok (.if_icmp .lt 7, 3) := by decide +kernel
theorem d_Model_cell_35 : decode b_Model_cell 35 = .ok (.iconst 1, 1) := by decide +kernel
theorem d_Model_cell_36 : decode b_Model_cell 36 = .ok (.goto 4, 3) := by decide +kernel
theorem d_Model_cell_39 : decode b_Model_cell 39 = .ok (.iconst 0, 1) := by decide +kernel
theorem d_Model_cell_40 : decode b_Model_cell 40 = .ok (.putfield 63, 3) := by decide +kernel
theorem d_Model_cell_43 : decode b_Model_cell 43 = .ok (.aload_n 0, 1) := by decide +kernel
theorem d_Model_cell_44 : decode b_Model_cell 44 = .ok (.getfield 63, 3) := by decide +kernel
theorem d_Model_cell_47 : decode b_Model_cell 47 = .ok (.ifCond .ne 34, 3) := by decide +kernel
theorem d_Model_cell_50 : decode b_Model_cell 50 = .ok (.aload_n 0, 1) := by decide +kernel
theorem d_Model_cell_51 : decode b_Model_cell 51 = .ok (.getfield 39, 3) := by decide +kernel
theorem d_Model_cell_54 : decode b_Model_cell 54 = .ok (.sipush 240, 3) := by decide +kernel
theorem d_Model_cell_57 : decode b_Model_cell 57 = .ok (.iload_n 1, 1) := by decide +kernel
theorem d_Model_cell_58 : decode b_Model_cell 58 = .ok (.imul, 1) := by decide +kernel
theorem d_Model_cell_59 : decode b_Model_cell 59 = .ok (.iload_n 2, 1) := by decide +kernel
theorem d_Model_cell_60 : decode b_Model_cell 60 = .ok (.iadd, 1) := by decide +kernel
theorem d_Model_cell_61 : decode b_Model_cell 61 = .ok (.iaload, 1) := by decide +kernel
theorem d_Model_cell_62 : decode b_Model_cell 62 = .ok (.bipush 64, 2) := by decide +kernel
theorem d_Model_cell_64 : decode b_Model_cell 64 = .ok (.aload_n 0, 1) := by decide +kernel
theorem d_Model_cell_65 : decode b_Model_cell 65 = .ok (.getfield 42, 3) := by decide +kernel
theorem d_Model_cell_68 : decode b_Model_cell 68 = .ok (.sipush 240, 3) := by decide +kernel
theorem d_Model_cell_71 : decode b_Model_cell 71 = .ok (.iload_n 1, 1) := by decide +kernel
theorem d_Model_cell_72 : decode b_Model_cell 72 = .ok (.imul, 1) := by decide +kernel
theorem d_Model_cell_73 : decode b_Model_cell 73 = .ok (.iload_n 2, 1) := by decide +kernel
theorem d_Model_cell_74 : decode b_Model_cell 74 = .ok (.iadd, 1) := by decide +kernel
theorem d_Model_cell_75 : decode b_Model_cell 75 = .ok (.iaload, 1) := by decide +kernel
theorem d_Model_cell_76 : decode b_Model_cell 76 = .ok (.imul, 1) := by decide +kernel
theorem d_Model_cell_77 : decode b_Model_cell 77 = .ok (.iadd, 1) := by decide +kernel
theorem d_Model_cell_78 : decode b_Model_cell 78 = .ok (.goto 4, 3) := by decide +kernel
theorem d_Model_cell_81 : decode b_Model_cell 81 = .ok (.iconst 0, 1) := by decide +kernel
theorem d_Model_cell_82 : decode b_Model_cell 82 = .ok (.ireturn, 1) := by decide +kernel
theorem d_Model_hear_0 : decode b_Model_hear 0 = .ok (.aload_n 0, 1) := by decide +kernel
theorem d_Model_hear_1 : decode b_Model_hear 1 = .ok (.getfield 139, 3) := by decide +kernel
theorem d_Model_hear_4 : decode b_Model_hear 4 = .ok (.ifCond .le 15, 3) := by decide +kernel
theorem d_Model_hear_7 : decode b_Model_hear 7 = .ok (.aload_n 0, 1) := by decide +kernel
theorem d_Model_hear_8 : decode b_Model_hear 8 = .ok (.iload_n 1, 1) := by decide +kernel
theorem d_Model_hear_9 : decode b_Model_hear 9 = .ok (.invokevirtual 66, 3) := by decide +kernel
theorem d_Model_hear_12 : decode b_Model_hear 12 = .ok (.ifCond .eq 7, 3) := by decide +kernel
theorem d_Model_hear_15 : decode b_Model_hear 15 = .ok (.iconst 1, 1) := by decide +kernel
theorem d_Model_hear_16 : decode b_Model_hear 16 = .ok (.goto 4, 3) := by decide +kernel
theorem d_Model_hear_19 : decode b_Model_hear 19 = .ok (.iconst 0, 1) := by decide +kernel
theorem d_Model_hear_20 : decode b_Model_hear 20 = .ok (.istore_n 2, 1) := by decide +kernel
theorem d_Model_hear_21 : decode b_Model_hear 21 = .ok (.aload_n 0, 1) := by decide +kernel
theorem d_Model_hear_22 : decode b_Model_hear 22 = .ok (.getfield 45, 3) := by decide +kernel
theorem d_Model_hear_25 : decode b_Model_hear 25 = .ok (.aload_n 0, 1) := by decide +kernel
theorem d_Model_hear_26 : decode b_Model_hear 26 = .ok (.getfield 142, 3) := by decide +kernel
theorem d_Model_hear_29 : decode b_Model_hear 29 = .ok (.iload_n 2, 1) := by decide +kernel
theorem d_Model_hear_30 : decode b_Model_hear 30 = .ok (.ifCond .eq 11, 3) := by decide +kernel
theorem d_Model_hear_33 : decode b_Model_hear 33 = .ok (.iload_n 1, 1) := by decide +kernel
theorem d_Model_hear_34 : decode b_Model_hear 34 = .ok (.bipush 32, 2) := by decide +kernel
theorem d_Model_hear_36 : decode b_Model_hear 36 = .ok (.isub, 1) := by decide +kernel
theorem d_Model_hear_37 : decode b_Model_hear 37 = .ok (.i2c, 1) := by decide +kernel
theorem d_Model_hear_38 : decode b_Model_hear 38 = .ok (.goto 4, 3) := by decide +kernel
theorem d_Model_hear_41 : decode b_Model_hear 41 = .ok (.iload_n 1, 1) := by decide +kernel
theorem d_Model_hear_42 : decode b_Model_hear 42 = .ok (.castore, 1) := by decide +kernel
theorem d_Model_hear_43 : decode b_Model_hear 43 = .ok (.aload_n 0, 1) := by decide +kernel
theorem d_Model_hear_44 : decode b_Model_hear 44 = .ok (.dup, 1) := by decide +kernel
theorem d_Model_hear_45 : decode b_Model_hear 45 = .ok (.getfield 142, 3) := by decide +kernel
theorem d_Model_hear_48 : decode b_Model_hear 48 = .ok (.iconst 1, 1) := by decide +kernel
theorem d_Model_hear_49 : decode b_Model_hear 49 = .ok (.iadd, 1) := by decide +kernel
theorem d_Model_hear_50 : decode b_Model_hear 50 = .ok (.putfield 142, 3) := by decide +kernel
theorem d_Model_hear_53 : decode b_Model_hear 53 = .ok (.aload_n 0, 1) := by decide +kernel
theorem d_Model_hear_54 : decode b_Model_hear 54 = .ok (.iload_n 2, 1) := by decide +kernel
theorem d_Model_hear_55 : decode b_Model_hear 55 = .ok (.ifCond .eq 15, 3) := by decide +kernel
theorem d_Model_hear_58 : decode b_Model_hear 58 = .ok (.aload_n 0, 1) := by decide +kernel
theorem d_Model_hear_59 : decode b_Model_hear 59 = .ok (.getfield 139, 3) := by decide +kernel
theorem d_Model_hear_62 : decode b_Model_hear 62 = .ok (.iconst 1, 1) := by decide +kernel
theorem d_Model_hear_63 : decode b_Model_hear 63 = .ok (.if_icmp .ne 7, 3) := by decide +kernel
theorem d_Model_hear_66 : decode b_Model_hear 66 = .ok (.iconst 0, 1) := by decide +kernel
theorem d_Model_hear_67 : decode b_Model_hear 67 = .ok (.goto 7, 3) := by decide +kernel
theorem d_Model_hear_70 : decode b_Model_hear 70 = .ok (.aload_n 0, 1) := by decide +kernel
theorem d_Model_hear_71 : decode b_Model_hear 71 = .ok (.getfield 139, 3) := by decide +kernel
theorem d_Model_hear_74 : decode b_Model_hear 74 = .ok (.putfield 139, 3) := by decide +kernel
theorem d_Model_hear_77 : decode b_Model_hear 77 = .ok (.return_, 1) := by decide +kernel
theorem d_Model_characterOf_0 : decode b_Model_characterOf 0 = .ok (.bipush 97, 2) := by decide +kernel
theorem d_Model_characterOf_2 : decode b_Model_characterOf 2 = .ok (.istore_n 2, 1) := by decide +kernel
theorem d_Model_characterOf_3 : decode b_Model_characterOf 3 = .ok (.iload_n 2, 1) := by decide +kernel
theorem d_Model_characterOf_4 : decode b_Model_characterOf 4 = .ok (.bipush 122, 2) := by decide +kernel
theorem d_Model_characterOf_6 : decode b_Model_characterOf 6 = .ok (.if_icmp .gt 22, 3) := by decide +kernel
theorem d_Model_characterOf_9 : decode b_Model_characterOf 9 = .ok (.aload_n 0, 1) := by decide +kernel
theorem d_Model_characterOf_10 : decode b_Model_characterOf 10 = .ok (.iload_n 2, 1) := by decide +kernel
theorem d_Model_characterOf_11 : decode b_Model_characterOf 11 = .ok (.invokevirtual 77, 3) := by decide +kernel
theorem d_Model_characterOf_14 : decode b_Model_characterOf 14 = .ok (.iload_n 1, 1) := by decide +kernel
theorem d_Model_characterOf_15 : decode b_Model_characterOf 15 = .ok (.if_icmp .ne 5, 3) := by decide +kernel
theorem d_Model_characterOf_18 : decode b_Model_characterOf 18 = .ok (.iload_n 2, 1) := by decide +kernel
theorem d_Model_characterOf_19 : decode b_Model_characterOf 19 = .ok (.ireturn, 1) := by decide +kernel
theorem d_Model_characterOf_20 : decode b_Model_characterOf 20 = .ok (.iload_n 2, 1) := by decide +kernel
theorem d_Model_characterOf_21 : decode b_Model_characterOf 21 = .ok (.iconst 1, 1) := by decide +kernel
theorem d_Model_characterOf_22 : decode b_Model_characterOf 22 = .ok (.iadd, 1) := by decide +kernel
theorem d_Model_characterOf_23 : decode b_Model_characterOf 23 = .ok (.i2c, 1) := by decide +kernel
theorem d_Model_characterOf_24 : decode b_Model_characterOf 24 = .ok (.istore_n 2, 1) := by decide +kernel
theorem d_Model_characterOf_25 : decode b_Model_characterOf 25 = .ok (.goto (-22), 3) := by decide +kernel
theorem d_Model_characterOf_28 : decode b_Model_characterOf 28 = .ok (.bipush 33, 2) := by decide +kernel
theorem d_Model_characterOf_30 : decode b_Model_characterOf 30 = .ok (.istore_n 2, 1) := by decide +kernel
theorem d_Model_characterOf_31 : decode b_Model_characterOf 31 = .ok (.iload_n 2, 1) := by decide +kernel
theorem d_Model_characterOf_32 : decode b_Model_characterOf 32 = .ok (.bipush 65, 2) := by decide +kernel
theorem d_Model_characterOf_34 : decode b_Model_characterOf 34 = .ok (.if_icmp .ge 26, 3) := by decide +kernel
theorem d_Model_characterOf_37 : decode b_Model_characterOf 37 = .ok (.iload_n 1, 1) := by decide +kernel
theorem d_Model_characterOf_38 : decode b_Model_characterOf 38 = .ok (.ifCond .le 14, 3) := by decide +kernel
theorem d_Model_characterOf_41 : decode b_Model_characterOf 41 = .ok (.aload_n 0, 1) := by decide +kernel
theorem d_Model_characterOf_42 : decode b_Model_characterOf 42 = .ok (.iload_n 2, 1) := by decide +kernel
theorem d_Model_characterOf_43 : decode b_Model_characterOf 43 = .ok (.invokevirtual 73, 3) := by decide +kernel
theorem d_Model_characterOf_46 : decode b_Model_characterOf 46 = .ok (.iload_n 1, 1) := by decide +kernel
theorem d_Model_characterOf_47 : decode b_Model_characterOf 47 = .ok (.if_icmp .ne 5, 3) := by decide +kernel
theorem d_Model_characterOf_50 : decode b_Model_characterOf 50 = .ok (.iload_n 2, 1) := by decide +kernel
theorem d_Model_characterOf_51 : decode b_Model_characterOf 51 = .ok (.ireturn, 1) := by decide +kernel
theorem d_Model_characterOf_52 : decode b_Model_characterOf 52 = .ok (.iload_n 2, 1) := by decide +kernel
theorem d_Model_characterOf_53 : decode b_Model_characterOf 53 = .ok (.iconst 1, 1) := by decide +kernel
theorem d_Model_characterOf_54 : decode b_Model_characterOf 54 = .ok (.iadd, 1) := by decide +kernel
theorem d_Model_characterOf_55 : decode b_Model_characterOf 55 = .ok (.i2c, 1) := by decide +kernel
theorem d_Model_characterOf_56 : decode b_Model_characterOf 56 = .ok (.istore_n 2, 1) := by decide +kernel
theorem d_Model_characterOf_57 : decode b_Model_characterOf 57 = .ok (.goto (-26), 3) := by decide +kernel
theorem d_Model_characterOf_60 : decode b_Model_characterOf 60 = .ok (.bipush 35, 2) := by decide +kernel
theorem d_Model_characterOf_62 : decode b_Model_characterOf 62 = .ok (.ireturn, 1) := by decide +kernel
theorem d_Model_digitOf_0 : decode b_Model_digitOf 0 = .ok (.iconst 0, 1) := by decide +kernel
theorem d_Model_digitOf_1 : decode b_Model_digitOf 1 = .ok (.istore_n 2, 1) := by decide +kernel
theorem d_Model_digitOf_2 : decode b_Model_digitOf 2 = .ok (.iload_n 2, 1) := by decide +kernel
theorem d_Model_digitOf_3 : decode b_Model_digitOf 3 = .ok (.bipush 10, 2) := by decide +kernel
theorem d_Model_digitOf_5 : decode b_Model_digitOf 5 = .ok (.if_icmp .ge 20, 3) := by decide +kernel
theorem d_Model_digitOf_8 : decode b_Model_digitOf 8 = .ok (.aload_n 0, 1) := by decide +kernel
theorem d_Model_digitOf_9 : decode b_Model_digitOf 9 = .ok (.iload_n 2, 1) := by decide +kernel
theorem d_Model_digitOf_10 : decode b_Model_digitOf 10 = .ok (.invokevirtual 128, 3) := by decide +kernel
theorem d_Model_digitOf_13 : decode b_Model_digitOf 13 = .ok (.iload_n 1, 1) := by decide +kernel
theorem d_Model_digitOf_14 : decode b_Model_digitOf 14 = .ok (.if_icmp .ne 5, 3) := by decide +kernel
theorem d_Model_digitOf_17 : decode b_Model_digitOf 17 = .ok (.iload_n 2, 1) := by decide +kernel
theorem d_Model_digitOf_18 : decode b_Model_digitOf 18 = .ok (.ireturn, 1) := by decide +kernel
theorem d_Model_digitOf_19 : decode b_Model_digitOf 19 = .ok (.iinc 2 1, 3) := by decide +kernel
theorem d_Model_digitOf_22 : decode b_Model_digitOf 22 = .ok (.goto (-20), 3) := by decide +kernel
theorem d_Model_digitOf_25 : decode b_Model_digitOf 25 = .ok (.iconst (-1), 1) := by decide +kernel
theorem d_Model_digitOf_26 : decode b_Model_digitOf 26 = .ok (.ireturn, 1) := by decide +kernel
theorem d_Model_cellsStand_0 : decode b_Model_cellsStand 0 = .ok (.aload_n 0, 1) := by decide +kernel
theorem d_Model_cellsStand_1 : decode b_Model_cellsStand 1 = .ok (.getfield 23, 3) := by decide +kernel
theorem d_Model_cellsStand_4 : decode b_Model_cellsStand 4 = .ok (.iload_n 1, 1) := by decide +kernel
theorem d_Model_cellsStand_5 : decode b_Model_cellsStand 5 = .ok (.iaload, 1) := by decide +kernel
theorem d_Model_cellsStand_6 : decode b_Model_cellsStand 6 = .ok (.istore 5, 2) := by decide +kernel
theorem d_Model_cellsStand_8 : decode b_Model_cellsStand 8 = .ok (.iload_n 2, 1) := by decide +kernel
theorem d_Model_cellsStand_9 : decode b_Model_cellsStand 9 = .ok (.iload 5, 2) := by decide +kernel
theorem d_Model_cellsStand_11 : decode b_Model_cellsStand 11 = .ok (.iadd, 1) := by decide +kernel
theorem d_Model_cellsStand_12 : decode b_Model_cellsStand 12 = .ok (.iload 4, 2) := by decide +kernel
theorem d_Model_cellsStand_14 : decode b_Model_cellsStand 14 = .ok (.if_icmp .gt 26, 3) := by decide +kernel
theorem d_Model_cellsStand_17 : decode b_Model_cellsStand 17 = .ok (.aload_n 0, 1) := by decide +kernel
theorem d_Model_cellsStand_18 : decode b_Model_cellsStand 18 = .ok (.aload_n 0, 1) := by decide +kernel
theorem d_Model_cellsStand_19 : decode b_Model_cellsStand 19 = .ok (.getfield 13, 3) := by decide +kernel
theorem d_Model_cellsStand_22 : decode b_Model_cellsStand 22 = .ok (.iload_n 1, 1) := by decide +kernel
theorem d_Model_cellsStand_23 : decode b_Model_cellsStand 23 = .ok (.iaload, 1) := by decide +kernel
theorem d_Model_cellsStand_24 : decode b_Model_cellsStand 24 = .ok (.iload_n 2, 1) := by decide +kernel
theorem d_Model_cellsStand_25 : decode b_Model_cellsStand 25 = .ok (.iload 5, 2) := by decide +kernel
theorem d_Model_cellsStand_27 : decode b_Model_cellsStand 27 = .ok (.iload_n 3, 1) := by decide +kernel
theorem d_Model_cellsStand_28 : decode b_Model_cellsStand 28 = .ok (.iload 4, 2) := by decide +kernel
theorem d_Model_cellsStand_30 : decode b_Model_cellsStand 30 = .ok (.invokevirtual 103, 3) := by decide +kernel
theorem d_Model_cellsStand_33 : decode b_Model_cellsStand 33 = .ok (.ifCond .eq 7, 3) := by decide +kernel
theorem d_Model_cellsStand_36 : decode b_Model_cellsStand 36 = .ok (.iconst 1, 1) := by decide +kernel
theorem d_Model_cellsStand_37 : decode b_Model_cellsStand 37 = .ok (.goto 4, 3) := by decide +kernel
theorem d_Model_cellsStand_40 : decode b_Model_cellsStand 40 = .ok (.iconst 0, 1) := by decide +kernel
theorem d_Model_cellsStand_41 : decode b_Model_cellsStand 41 = .ok (.istore 6, 2) := by decide +kernel
theorem d_Model_cellsStand_43 : decode b_Model_cellsStand 43 = .ok (.iconst 0, 1) := by decide +kernel
theorem d_Model_cellsStand_44 : decode b_Model_cellsStand 44 = .ok (.istore 7, 2) := by decide +kernel
theorem d_Model_cellsStand_46 : decode b_Model_cellsStand 46 = .ok (.iload 7, 2) := by decide +kernel
theorem d_Model_cellsStand_48 : decode b_Model_cellsStand 48 = .ok (.iload 5, 2) := by decide +kernel
theorem d_Model_cellsStand_50 : decode b_Model_cellsStand 50 = .ok (.if_icmp .ge 44, 3) := by decide +kernel
theorem d_Model_cellsStand_53 : decode b_Model_cellsStand 53 = .ok (.iload 6, 2) := by decide +kernel
theorem d_Model_cellsStand_55 : decode b_Model_cellsStand 55 = .ok (.ifCond .eq 39, 3) := by decide +kernel
theorem d_Model_cellsStand_58 : decode b_Model_cellsStand 58 = .ok (.aload_n 0, 1) := by decide +kernel
theorem d_Model_cellsStand_59 : decode b_Model_cellsStand 59 = .ok (.getfield 39, 3) := by decide +kernel
theorem d_Model_cellsStand_62 : decode b_Model_cellsStand 62 = .ok (.iload_n 2, 1) := by decide +kernel
theorem d_Model_cellsStand_63 : decode b_Model_cellsStand 63 = .ok (.iload 7, 2) := by decide +kernel
theorem d_Model_cellsStand_65 : decode b_Model_cellsStand 65 = .ok (.iadd, 1) := by decide +kernel
theorem d_Model_cellsStand_66 : decode b_Model_cellsStand 66 = .ok (.iaload, 1) := by decide +kernel
theorem d_Model_cellsStand_67 : decode b_Model_cellsStand 67 = .ok (.aload_n 0, 1) := by decide +kernel
theorem d_Model_cellsStand_68 : decode b_Model_cellsStand 68 = .ok (.getfield 26, 3) := by decide +kernel
theorem d_Model_cellsStand_71 : decode b_Model_cellsStand 71 = .ok (.iconst 3, 1) := by decide +kernel
theorem d_Model_cellsStand_72 : decode b_Model_cellsStand 72 = .ok (.iload_n 1, 1) := by decide +kernel
theorem d_Model_cellsStand_73 : decode b_Model_cellsStand 73 = .ok (.imul, 1) := by decide +kernel
theorem d_Model_cellsStand_74 : decode b_Model_cellsStand 74 = .ok (.iload 7, 2) := by decide +kernel
theorem d_Model_cellsStand_76 : decode b_Model_cellsStand 76 = .ok (.iadd, 1) := by decide +kernel
theorem d_Model_cellsStand_77 : decode b_Model_cellsStand 77 = .ok (.iaload, 1) := by decide +kernel
theorem d_Model_cellsStand_78 : decode b_Model_cellsStand 78 = .ok (.if_icmp .ne 7, 3) := by decide +kernel
theorem d_Model_cellsStand_81 : decode b_Model_cellsStand 81 = .ok (.iconst 1, 1) := by decide +kernel
theorem d_Model_cellsStand_82 : decode b_Model_cellsStand 82 = .ok (.goto 4, 3) := by decide +kernel
theorem d_Model_cellsStand_85 : decode b_Model_cellsStand 85 = .ok (.iconst 0, 1) := by decide +kernel
theorem d_Model_cellsStand_86 : decode b_Model_cellsStand 86 = .ok (.istore 6, 2) := by decide +kernel
theorem d_Model_cellsStand_88 : decode b_Model_cellsStand 88 = .ok (.iinc 7 1, 3) := by decide +kernel
theorem d_Model_cellsStand_91 : decode b_Model_cellsStand 91 = .ok (.goto (-45), 3) := by decide +kernel
theorem d_Model_cellsStand_94 : decode b_Model_cellsStand 94 = .ok (.iload 6, 2) := by decide +kernel
theorem d_Model_cellsStand_96 : decode b_Model_cellsStand 96 = .ok (.ireturn, 1) := by decide +kernel
theorem d_Model_readOne_0 : decode b_Model_readOne 0 = .ok (.iconst (-1), 1) := by decide +kernel
theorem d_Model_readOne_1 : decode b_Model_readOne 1 = .ok (.istore 4, 2) := by decide +kernel
theorem d_Model_readOne_3 : decode b_Model_readOne 3 = .ok (.iconst 0, 1) := by decide +kernel
theorem d_Model_readOne_4 : decode b_Model_readOne 4 = .ok (.istore 5, 2) := by decide +kernel
theorem d_Model_readOne_6 : decode b_Model_readOne 6 = .ok (.iload 5, 2) := by decide +kernel
theorem d_Model_readOne_8 : decode b_Model_readOne 8 = .ok (.aload_n 0, 1) := by decide +kernel
theorem d_Model_readOne_9 : decode b_Model_readOne 9 = .ok (.getfield 83, 3) := by decide +kernel
theorem d_Model_readOne_12 : decode b_Model_readOne 12 = .ok (.if_icmp .ge 98, 3) := by decide +kernel
theorem d_Model_readOne_15 : decode b_Model_readOne 15 = .ok (.iload 4, 2) := by decide +kernel
theorem d_Model_readOne_17 : decode b_Model_readOne 17 = .ok (.ifCond .lt 54, 3) := by decide +kernel
theorem d_Model_readOne_20 : decode b_Model_readOne 20 = .ok (.aload_n 0, 1) := by decide +kernel
theorem d_Model_readOne_21 : decode b_Model_readOne 21 = .ok (.getfield 23, 3) := by decide +kernel
theorem d_Model_readOne_24 : decode b_Model_readOne 24 = .ok (.iload 5, 2) := by decide +kernel
theorem d_Model_readOne_26 : decode b_Model_readOne 26 = .ok (.iaload, 1) := by decide +kernel
theorem d_Model_readOne_27 : decode b_Model_readOne 27 = .ok (.aload_n 0, 1) := by decide +kernel
theorem d_Model_readOne_28 : decode b_Model_readOne 28 = .ok (.getfield 23, 3) := by decide +kernel
theorem d_Model_readOne_31 : decode b_Model_readOne 31 = .ok (.iload 4, 2) := by decide +kernel
theorem d_Model_readOne_33 : decode b_Model_readOne 33 = .ok (.iaload, 1) := by decide +kernel
theorem d_Model_readOne_34 : decode b_Model_readOne 34 = .ok (.if_icmp .gt 37, 3) := by decide +kernel
theorem d_Model_readOne_37 : decode b_Model_readOne 37 = .ok (.aload_n 0, 1) := by decide +kernel
theorem d_Model_readOne_38 : decode b_Model_readOne 38 = .ok (.getfield 23, 3) := by decide +kernel
theorem d_Model_readOne_41 : decode b_Model_readOne 41 = .ok (.iload 5, 2) := by decide +kernel
theorem d_Model_readOne_43 : decode b_Model_readOne 43 = .ok (.iaload, 1) := by decide +kernel
theorem d_Model_readOne_44 : decode b_Model_readOne 44 = .ok (.aload_n 0, 1) := by decide +kernel
theorem d_Model_readOne_45 : decode b_Model_readOne 45 = .ok (.getfield 23, 3) := by decide +kernel
theorem d_Model_readOne_48 : decode b_Model_readOne 48 = .ok (.iload 4, 2) := by decide +kernel
theorem d_Model_readOne_50 : decode b_Model_readOne 50 = .ok (.iaload, 1) := by decide +kernel
theorem d_Model_readOne_51 : decode b_Model_readOne 51 = .ok (.if_icmp .ne 24, 3) := by decide +kernel
theorem d_Model_readOne_54 : decode b_Model_readOne 54 = .ok (.aload_n 0, 1) := by decide +kernel
theorem d_Model_readOne_55 : decode b_Model_readOne 55 = .ok (.getfield 13, 3) := by decide +kernel
theorem d_Model_readOne_58 : decode b_Model_readOne 58 = .ok (.iload 5, 2) := by decide +kernel
theorem d_Model_readOne_60 : decode b_Model_readOne 60 = .ok (.iaload, 1) := by decide +kernel
theorem d_Model_readOne_61 : decode b_Model_readOne 61 = .ok (.aload_n 0, 1) := by decide +kernel
theorem d_Model_readOne_62 : decode b_Model_readOne 62 = .ok (.getfield 13, 3) := by decide +kernel
theorem d_Model_readOne_65 : decode b_Model_readOne 65 = .ok (.iload 4, 2) := by decide +kernel
theorem d_Model_readOne_67 : decode b_Model_readOne 67 = .ok (.iaload, 1) := by decide +kernel
theorem d_Model_readOne_68 : decode b_Model_readOne 68 = .ok (.if_icmp .ge 7, 3) := by decide +kernel
theorem d_Model_readOne_71 : decode b_Model_readOne 71 = .ok (.iconst 1, 1) := by decide +kernel
theorem d_Model_readOne_72 : decode b_Model_readOne 72 = .ok (.goto 4, 3) := by decide +kernel
theorem d_Model_readOne_75 : decode b_Model_readOne 75 = .ok (.iconst 0, 1) := by decide +kernel
theorem d_Model_readOne_76 : decode b_Model_readOne 76 = .ok (.istore 6, 2) := by decide +kernel
theorem d_Model_readOne_78 : decode b_Model_readOne 78 = .ok (.iload 6, 2) := by decide +kernel
theorem d_Model_readOne_80 : decode b_Model_readOne 80 = .ok (.ifCond .eq 20, 3) := by decide +kernel
theorem d_Model_readOne_83 : decode b_Model_readOne 83 = .ok (.aload_n 0, 1) := by decide +kernel
theorem d_Model_readOne_84 : decode b_Model_readOne 84 = .ok (.iload 5, 2) := by decide +kernel
theorem d_Model_readOne_86 : decode b_Model_readOne 86 = .ok (.iload_n 1, 1) := by decide +kernel
theorem d_Model_readOne_87 : decode b_Model_readOne 87 = .ok (.iload_n 2, 1) := by decide +kernel
theorem d_Model_readOne_88 : decode b_Model_readOne 88 = .ok (.iload_n 3, 1) := by decide +kernel
theorem d_Model_readOne_89 : decode b_Model_readOne 89 = .ok (.invokevirtual 145, 3) := by decide +kernel
theorem d_Model_readOne_92 : decode b_Model_readOne 92 = .ok (.ifCond .eq 8, 3) := by decide +kernel
theorem d_Model_readOne_95 : decode b_Model_readOne 95 = .ok (.iload 5, 2) := by decide +kernel
theorem d_Model_readOne_97 : decode b_Model_readOne 97 = .ok (.goto 5, 3) := by decide +kernel
theorem d_Model_readOne_100 : decode b_Model_readOne 100 = .ok (.iload 4, 2) := by decide +kernel
theorem d_Model_readOne_102 : decode b_Model_readOne 102 = .ok (.istore 4, 2) := by decide +kernel
theorem d_Model_readOne_104 : decode b_Model_readOne 104 = .ok (.iinc 5 1, 3) := by decide +kernel
theorem d_Model_readOne_107 : decode b_Model_readOne 107 = .ok (.goto (-101), 3) := by decide +kernel
theorem d_Model_readOne_110 : decode b_Model_readOne 110 = .ok (.iload 4, 2) := by decide +kernel
theorem d_Model_readOne_112 : decode b_Model_readOne 112 = .ok (.ifCond .ge 21, 3) := by decide +kernel
theorem d_Model_readOne_115 : decode b_Model_readOne 115 = .ok (.aload_n 0, 1) := by decide +kernel
theorem d_Model_readOne_116 : decode b_Model_readOne 116 = .ok (.aload_n 0, 1) := by decide +kernel
theorem d_Model_readOne_117 : decode b_Model_readOne 117 = .ok (.aload_n 0, 1) := by decide +kernel
theorem d_Model_readOne_118 : decode b_Model_readOne 118 = .ok (.getfield 39, 3) := by decide +kernel
theorem d_Model_readOne_121 : decode b_Model_readOne 121 = .ok (.iload_n 1, 1) := by decide +kernel
theorem d_Model_readOne_122 : decode b_Model_readOne 122 = .ok (.iaload, 1) := by decide +kernel
theorem d_Model_readOne_123 : decode b_Model_readOne 123 = .ok (.invokevirtual 149, 3) := by decide +kernel
theorem d_Model_readOne_126 : decode b_Model_readOne 126 = .ok (.invokevirtual 153, 3) := by decide +kernel
theorem d_Model_readOne_129 : decode b_Model_readOne 129 = .ok (.iload_n 1, 1) := by decide +kernel
theorem d_Model_readOne_130 : decode b_Model_readOne 130 = .ok (.iconst 1, 1) := by decide +kernel
theorem d_Model_readOne_131 : decode b_Model_readOne 131 = .ok (.iadd, 1) := by decide +kernel
theorem d_Model_readOne_132 : decode b_Model_readOne 132 = .ok (.ireturn, 1) := by decide +kernel
theorem d_Model_readOne_133 : decode b_Model_readOne 133 = .ok (.iconst 0, 1) := by decide +kernel
theorem d_Model_readOne_134 : decode b_Model_readOne 134 = .ok (.istore 5, 2) := by decide +kernel
theorem d_Model_readOne_136 : decode b_Model_readOne 136 = .ok (.iload 5, 2) := by decide +kernel
theorem d_Model_readOne_138 : decode b_Model_readOne 138 = .ok (.aload_n 0, 1) := by decide +kernel
theorem d_Model_readOne_139 : decode b_Model_readOne 139 = .ok (.getfield 17, 3) := by decide +kernel
theorem d_Model_readOne_142 : decode b_Model_readOne 142 = .ok (.iload 4, 2) := by decide +kernel
theorem d_Model_readOne_144 : decode b_Model_readOne 144 = .ok (.iaload, 1) := by decide +kernel
theorem d_Model_readOne_145 : decode b_Model_readOne 145 = .ok (.if_icmp .ge 26, 3) := by decide +kernel
theorem d_Model_readOne_148 : decode b_Model_readOne 148 = .ok (.aload_n 0, 1) := by decide +kernel
theorem d_Model_readOne_149 : decode b_Model_readOne 149 = .ok (.aload_n 0, 1) := by decide +kernel
theorem d_Model_readOne_150 : decode b_Model_readOne 150 = .ok (.getfield 20, 3) := by decide +kernel
theorem d_Model_readOne_153 : decode b_Model_readOne 153 = .ok (.bipush 6, 2) := by decide +kernel
theorem d_Model_readOne_155 : decode b_Model_readOne 155 = .ok (.iload 4, 2) := by decide +kernel
theorem d_Model_readOne_157 : decode b_Model_readOne 157 = .ok (.imul, 1) := by decide +kernel
theorem d_Model_readOne_158 : decode b_Model_readOne 158 = .ok (.iload 5, 2) := by decide +kernel
theorem d_Model_readOne_160 : decode b_Model_readOne 160 = .ok (.iadd, 1) := by decide +kernel
theorem d_Model_readOne_161 : decode b_Model_readOne 161 = .ok (.caload, 1) := by decide +kernel
theorem d_Model_readOne_162 : decode b_Model_readOne 162 = .ok (.invokevirtual 153, 3) := by decide +kernel
theorem d_Model_readOne_165 : decode b_Model_readOne 165 = .ok (.iinc 5 1, 3) := by decide +kernel
theorem d_Model_readOne_168 : decode b_Model_readOne 168 = .ok (.goto (-32), 3) := by decide +kernel
theorem d_Model_readOne_171 : decode b_Model_readOne 171 = .ok (.iload_n 1, 1) := by decide +kernel
theorem d_Model_readOne_172 : decode b_Model_readOne 172 = .ok (.aload_n 0, 1) := by decide +kernel
theorem d_Model_readOne_173 : decode b_Model_readOne 173 = .ok (.getfield 23, 3) := by decide +kernel
theorem d_Model_readOne_176 : decode b_Model_readOne 176 = .ok (.iload 4, 2) := by decide +kernel
theorem d_Model_readOne_178 : decode b_Model_readOne 178 = .ok (.iaload, 1) := by decide +kernel
theorem d_Model_readOne_179 : decode b_Model_readOne 179 = .ok (.iadd, 1) := by decide +kernel
theorem d_Model_readOne_180 : decode b_Model_readOne 180 = .ok (.ireturn, 1) := by decide +kernel
theorem d_Model_readPiece_0 : decode b_Model_readPiece 0 = .ok (.iload_n 1, 1) := by decide +kernel
theorem d_Model_readPiece_1 : decode b_Model_readPiece 1 = .ok (.istore_n 3, 1) := by decide +kernel
theorem d_Model_readPiece_2 : decode b_Model_readPiece 2 = .ok (.iload_n 3, 1) := by decide +kernel
theorem d_Model_readPiece_3 : decode b_Model_readPiece 3 = .ok (.iload_n 2, 1) := by decide +kernel
theorem d_Model_readPiece_4 : decode b_Model_readPiece 4 = .ok (.if_icmp .ge 20, 3) := by decide +kernel
theorem d_Model_readPiece_7 : decode b_Model_readPiece 7 = .ok (.aload_n 0, 1) := by decide +kernel
theorem d_Model_readPiece_8 : decode b_Model_readPiece 8 = .ok (.getfield 39, 3) := by decide +kernel
theorem d_Model_readPiece_11 : decode b_Model_readPiece 11 = .ok (.iload_n 3, 1) := by decide +kernel
theorem d_Model_readPiece_12 : decode b_Model_readPiece 12 = .ok (.iaload, 1) := by decide +kernel
theorem d_Model_readPiece_13 : decode b_Model_readPiece 13 = .ok (.bipush 32, 2) := by decide +kernel
theorem d_Model_readPiece_15 : decode b_Model_readPiece 15 = .ok (.if_icmp .ne 9, 3) := by decide +kernel
theorem d_Model_readPiece_18 : decode b_Model_readPiece 18 = .ok (.iinc 3 1, 3) := by decide +kernel
theorem d_Model_readPiece_21 : decode b_Model_readPiece 21 = .ok (.goto (-19), 3) := by decide +kernel
theorem d_Model_readPiece_24 : decode b_Model_readPiece 24 = .ok (.aload_n 0, 1) := by decide +kernel
theorem d_Model_readPiece_25 : decode b_Model_readPiece 25 = .ok (.iconst 0, 1) := by decide +kernel
theorem d_Model_readPiece_26 : decode b_Model_readPiece 26 = .ok (.putfield 139, 3) := by decide +kernel
theorem d_Model_readPiece_29 : decode b_Model_readPiece 29 = .ok (.iload_n 1, 1) := by decide +kernel
theorem d_Model_readPiece_30 : decode b_Model_readPiece 30 = .ok (.istore 4, 2) := by decide +kernel
theorem d_Model_readPiece_32 : decode b_Model_readPiece 32 = .ok (.iload 4, 2) := by decide +kernel
theorem d_Model_readPiece_34 : decode b_Model_readPiece 34 = .ok (.iload_n 2, 1) := by decide +kernel
theorem d_Model_readPiece_35 : decode b_Model_readPiece 35 = .ok (.if_icmp .ge 160, 3) := by decide +kernel
theorem d_Model_readPiece_38 : decode b_Model_readPiece 38 = .ok (.aload_n 0, 1) := by decide +kernel
theorem d_Model_readPiece_39 : decode b_Model_readPiece 39 = .ok (.getfield 39, 3) := by decide +kernel
theorem d_Model_readPiece_42 : decode b_Model_readPiece 42 = .ok (.iload 4, 2) := by decide +kernel
theorem d_Model_readPiece_44 : decode b_Model_readPiece 44 = .ok (.iaload, 1) := by decide +kernel
theorem d_Model_readPiece_45 : decode b_Model_readPiece 45 = .ok (.istore 5, 2) := by decide +kernel
theorem d_Model_readPiece_47 : decode b_Model_readPiece 47 = .ok (.iload 5, 2) := by decide +kernel
theorem d_Model_readPiece_49 : decode b_Model_readPiece 49 = .ok (.bipush 60, 2) := by decide +kernel
theorem d_Model_readPiece_51 : decode b_Model_readPiece 51 = .ok (.if_icmp .ne 51, 3) := by decide +kernel
theorem d_Model_readPiece_54 : decode b_Model_readPiece 54 = .ok (.iinc 4 1, 3) := by decide +kernel
theorem d_Model_readPiece_57 : decode b_Model_readPiece 57 = .ok (.iload 4, 2) := by decide +kernel
theorem d_Model_readPiece_59 : decode b_Model_readPiece 59 = .ok (.iload_n 2, 1) := by decide +kernel
theorem d_Model_readPiece_60 : decode b_Model_readPiece 60 = .ok (.if_icmp .ge 132, 3) := by decide +kernel
theorem d_Model_readPiece_63 : decode b_Model_readPiece 63 = .ok (.aload_n 0, 1) := by decide +kernel
theorem d_Model_readPiece_64 : decode b_Model_readPiece 64 = .ok (.aload_n 0, 1) := by decide +kernel
theorem d_Model_readPiece_65 : decode b_Model_readPiece 65 = .ok (.getfield 39, 3) := by decide +kernel
theorem d_Model_readPiece_68 : decode b_Model_readPiece 68 = .ok (.iload 4, 2) := by decide +kernel
theorem d_Model_readPiece_70 : decode b_Model_readPiece 70 = .ok (.iaload, 1) := by decide +kernel
theorem d_Model_readPiece_71 : decode b_Model_readPiece 71 = .ok (.invokevirtual 157, 3) := by decide +kernel
theorem d_Model_readPiece_74 : decode b_Model_readPiece 74 = .ok (.ifCond .lt 118, 3) := by decide +kernel
theorem d_Model_readPiece_77 : decode b_Model_readPiece 77 = .ok (.aload_n 0, 1) := by decide +kernel
theorem d_Model_readPiece_78 : decode b_Model_readPiece 78 = .ok (.bipush 48, 2) := by decide +kernel
theorem d_Model_readPiece_80 : decode b_Model_readPiece 80 = .ok (.aload_n 0, 1) := by decide +kernel
theorem d_Model_readPiece_81 : decode b_Model_readPiece 81 = .ok (.aload_n 0, 1) := by decide +kernel
theorem d_Model_readPiece_82 : decode b_Model_readPiece 82 = .ok (.getfield 39, 3) := by decide +kernel
theorem d_Model_readPiece_85 : decode b_Model_readPiece 85 = .ok (.iload 4, 2) := by decide +kernel
theorem d_Model_readPiece_87 : decode b_Model_readPiece 87 = .ok (.iaload, 1) := by decide +kernel
theorem d_Model_readPiece_88 : decode b_Model_readPiece 88 = .ok (.invokevirtual 157, 3) := by decide +kernel
theorem d_Model_readPiece_91 : decode b_Model_readPiece 91 = .ok (.iadd, 1) := by decide +kernel
theorem d_Model_readPiece_92 : decode b_Model_readPiece 92 = .ok (.i2c, 1) := by decide +kernel
theorem d_Model_readPiece_93 : decode b_Model_readPiece 93 = .ok (.invokevirtual 153, 3) := by decide +kernel
theorem d_Model_readPiece_96 : decode b_Model_readPiece 96 = .ok (.iinc 4 1, 3) := by decide +kernel
theorem d_Model_readPiece_99 : decode b_Model_readPiece 99 = .ok (.goto (-42), 3) := by decide +kernel
theorem d_Model_readPiece_102 : decode b_Model_readPiece 102 = .ok (.iload 5, 2) := by decide +kernel
theorem d_Model_readPiece_104 : decode b_Model_readPiece 104 = .ok (.bipush 48, 2) := by decide +kernel
theorem d_Model_readPiece_106 : decode b_Model_readPiece 106 = .ok (.if_icmp .ne 9, 3) := by decide +kernel
theorem d_Model_readPiece_109 : decode b_Model_readPiece 109 = .ok (.iinc 4 1, 3) := by decide +kernel
theorem d_Model_readPiece_112 : decode b_Model_readPiece 112 = .ok (.goto 80, 3) := by decide +kernel
theorem d_Model_readPiece_115 : decode b_Model_readPiece 115 = .ok (.iload 5, 2) := by decide +kernel
theorem d_Model_readPiece_117 : decode b_Model_readPiece 117 = .ok (.bipush 32, 2) := by decide +kernel
theorem d_Model_readPiece_119 : decode b_Model_readPiece 119 = .ok (.if_icmp .ne 63, 3) := by decide +kernel
theorem d_Model_readPiece_122 : decode b_Model_readPiece 122 = .ok (.iconst 0, 1) := by decide +kernel
theorem d_Model_readPiece_123 : decode b_Model_readPiece 123 = .ok (.istore 6, 2) := by decide +kernel
theorem d_Model_readPiece_125 : decode b_Model_readPiece 125 = .ok (.iload 4, 2) := by decide +kernel
theorem d_Model_readPiece_127 : decode b_Model_readPiece 127 = .ok (.iload_n 2, 1) := by decide +kernel
theorem d_Model_readPiece_128 : decode b_Model_readPiece 128 = .ok (.if_icmp .ge 24, 3) := by decide +kernel
theorem d_Model_readPiece_131 : decode b_Model_readPiece 131 = .ok (.aload_n 0, 1) := by decide +kernel
theorem d_Model_readPiece_132 : decode b_Model_readPiece 132 = .ok (.getfield 39, 3) := by decide +kernel
theorem d_Model_readPiece_135 : decode b_Model_readPiece 135 = .ok (.iload 4, 2) := by decide +kernel
theorem d_Model_readPiece_137 : decode b_Model_readPiece 137 = .ok (.iaload, 1) := by decide +kernel
theorem d_Model_readPiece_138 : decode b_Model_readPiece 138 = .ok (.bipush 32, 2) := by decide +kernel
theorem d_Model_readPiece_140 : decode b_Model_readPiece 140 = .ok (.if_icmp .ne 12, 3) := by decide +kernel
theorem d_Model_readPiece_143 : decode b_Model_readPiece 143 = .ok (.iinc 4 1, 3) := by decide +kernel
theorem d_Model_readPiece_146 : decode b_Model_readPiece 146 = .ok (.iinc 6 1, 3) := by decide +kernel
theorem d_Model_readPiece_149 : decode b_Model_readPiece 149 = .ok (.goto (-24), 3) := by decide +kernel
theorem d_Model_readPiece_152 : decode b_Model_readPiece 152 = .ok (.aload_n 0, 1) := by decide +kernel
theorem d_Model_readPiece_153 : decode b_Model_readPiece 153 = .ok (.iload 6, 2) := by decide +kernel
theorem d_Model_readPiece_155 : decode b_Model_readPiece 155 = .ok (.iconst 1, 1) := by decide +kernel
theorem d_Model_readPiece_156 : decode b_Model_readPiece 156 = .ok (.if_icmp .le 7, 3) := by decide +kernel
theorem d_Model_readPiece_159 : decode b_Model_readPiece 159 = .ok (.iconst 2, 1) := by decide +kernel
theorem d_Model_readPiece_160 : decode b_Model_readPiece 160 = .ok (.goto 16, 3) := by decide +kernel
theorem d_Model_readPiece_163 : decode b_Model_readPiece 163 = .ok (.aload_n 0, 1) := by decide +kernel
theorem d_Model_readPiece_164 : decode b_Model_readPiece 164 = .ok (.getfield 139, 3) := by decide +kernel
theorem d_Model_readPiece_167 : decode b_Model_readPiece 167 = .ok (.iconst 2, 1) := by decide +kernel
theorem d_Model_readPiece_168 : decode b_Model_readPiece 168 = .ok (.if_icmp .ne 7, 3) := by decide +kernel
theorem d_Model_readPiece_171 : decode b_Model_readPiece 171 = .ok (.iconst 2, 1) := by decide +kernel
theorem d_Model_readPiece_172 : decode b_Model_readPiece 172 = .ok (.goto 4, 3) := by decide +kernel
theorem d_Model_readPiece_175 : decode b_Model_readPiece 175 = .ok (.iconst 1, 1) := by decide +kernel
theorem d_Model_readPiece_176 : decode b_Model_readPiece 176 = .ok (.putfield 139, 3) := by decide +kernel
theorem d_Model_readPiece_179 : decode b_Model_readPiece 179 = .ok (.goto 13, 3) := by decide +kernel
theorem d_Model_readPiece_182 : decode b_Model_readPiece 182 = .ok (.aload_n 0, 1) := by decide +kernel
theorem d_Model_readPiece_183 : decode b_Model_readPiece 183 = .ok (.iload 4, 2) := by decide +kernel
theorem d_Model_readPiece_185 : decode b_Model_readPiece 185 = .ok (.iload_n 3, 1) := by decide +kernel
theorem d_Model_readPiece_186 : decode b_Model_readPiece 186 = .ok (.iload_n 2, 1) := by decide +kernel
theorem d_Model_readPiece_187 : decode b_Model_readPiece 187 = .ok (.invokevirtual 160, 3) := by decide +kernel
theorem d_Model_readPiece_190 : decode b_Model_readPiece 190 = .ok (.istore 4, 2) := by decide +kernel
theorem d_Model_readPiece_192 : decode b_Model_readPiece 192 = .ok (.goto (-160), 3) := by decide +kernel
theorem d_Model_readPiece_195 : decode b_Model_readPiece 195 = .ok (.return_, 1) := by decide +kernel
theorem d_Model_back_0 : decode b_Model_back 0 = .ok (.aload_n 0, 1) := by decide +kernel
theorem d_Model_back_1 : decode b_Model_back 1 = .ok (.aload_n 0, 1) := by decide +kernel
theorem d_Model_back_2 : decode b_Model_back 2 = .ok (.iload_n 1, 1) := by decide +kernel
theorem d_Model_back_3 : decode b_Model_back 3 = .ok (.invokevirtual 135, 3) := by decide +kernel
theorem d_Model_back_6 : decode b_Model_back 6 = .ok (.ifCond .eq 7, 3) := by decide +kernel
theorem d_Model_back_9 : decode b_Model_back 9 = .ok (.iconst 1, 1) := by decide +kernel
theorem d_Model_back_10 : decode b_Model_back 10 = .ok (.goto 4, 3) := by decide +kernel
theorem d_Model_back_13 : decode b_Model_back 13 = .ok (.iconst 0, 1) := by decide +kernel
theorem d_Model_back_14 : decode b_Model_back 14 = .ok (.putfield 63, 3) := by decide +kernel
theorem d_Model_back_17 : decode b_Model_back 17 = .ok (.aload_n 0, 1) := by decide +kernel
theorem d_Model_back_18 : decode b_Model_back 18 = .ok (.getfield 63, 3) := by decide +kernel
theorem d_Model_back_21 : decode b_Model_back 21 = .ok (.ifCond .eq 5, 3) := by decide +kernel
theorem d_Model_back_24 : decode b_Model_back 24 = .ok (.iconst 0, 1) := by decide +kernel
theorem d_Model_back_25 : decode b_Model_back 25 = .ok (.ireturn, 1) := by decide +kernel
theorem d_Model_back_26 : decode b_Model_back 26 = .ok (.aload_n 0, 1) := by decide +kernel
theorem d_Model_back_27 : decode b_Model_back 27 = .ok (.iconst 0, 1) := by decide +kernel
theorem d_Model_back_28 : decode b_Model_back 28 = .ok (.putfield 142, 3) := by decide +kernel
theorem d_Model_back_31 : decode b_Model_back 31 = .ok (.sipush 240, 3) := by decide +kernel
theorem d_Model_back_34 : decode b_Model_back 34 = .ok (.iload_n 1, 1) := by decide +kernel
theorem d_Model_back_35 : decode b_Model_back 35 = .ok (.imul, 1) := by decide +kernel
theorem d_Model_back_36 : decode b_Model_back 36 = .ok (.istore_n 2, 1) := by decide +kernel
theorem d_Model_back_37 : decode b_Model_back 37 = .ok (.iload_n 2, 1) := by decide +kernel
theorem d_Model_back_38 : decode b_Model_back 38 = .ok (.aload_n 0, 1) := by decide +kernel
theorem d_Model_back_39 : decode b_Model_back 39 = .ok (.getfield 36, 3) := by decide +kernel
theorem d_Model_back_42 : decode b_Model_back 42 = .ok (.iload_n 1, 1) := by decide +kernel
theorem d_Model_back_43 : decode b_Model_back 43 = .ok (.iaload, 1) := by decide +kernel
theorem d_Model_back_44 : decode b_Model_back 44 = .ok (.iadd, 1) := by decide +kernel
theorem d_Model_back_45 : decode b_Model_back 45 = .ok (.istore_n 3, 1) := by decide +kernel
theorem d_Model_back_46 : decode b_Model_back 46 = .ok (.iload_n 2, 1) := by decide +kernel
theorem d_Model_back_47 : decode b_Model_back 47 = .ok (.iload_n 3, 1) := by decide +kernel
theorem d_Model_back_48 : decode b_Model_back 48 = .ok (.if_icmp .ge 62, 3) := by decide +kernel
theorem d_Model_back_51 : decode b_Model_back 51 = .ok (.aload_n 0, 1) := by decide +kernel
theorem d_Model_back_52 : decode b_Model_back 52 = .ok (.getfield 39, 3) := by decide +kernel
theorem d_Model_back_55 : decode b_Model_back 55 = .ok (.iload_n 2, 1) := by decide +kernel
theorem d_Model_back_56 : decode b_Model_back 56 = .ok (.iaload, 1) := by decide +kernel
theorem d_Model_back_57 : decode b_Model_back 57 = .ok (.ifCond .ne 15, 3) := by decide +kernel
theorem d_Model_back_60 : decode b_Model_back 60 = .ok (.aload_n 0, 1) := by decide +kernel
theorem d_Model_back_61 : decode b_Model_back 61 = .ok (.bipush 32, 2) := by decide +kernel
theorem d_Model_back_63 : decode b_Model_back 63 = .ok (.invokevirtual 153, 3) := by decide +kernel
theorem d_Model_back_66 : decode b_Model_back 66 = .ok (.iinc 2 1, 3) := by decide +kernel
theorem d_Model_back_69 : decode b_Model_back 69 = .ok (.goto (-23), 3) := by decide +kernel
theorem d_Model_back_72 : decode b_Model_back 72 = .ok (.iload_n 2, 1) := by decide +kernel
theorem d_Model_back_73 : decode b_Model_back 73 = .ok (.istore 4, 2) := by decide +kernel
theorem d_Model_back_75 : decode b_Model_back 75 = .ok (.iload 4, 2) := by decide +kernel
theorem d_Model_back_77 : decode b_Model_back 77 = .ok (.iload_n 3, 1) := by decide +kernel
theorem d_Model_back_78 : decode b_Model_back 78 = .ok (.if_icmp .ge 19, 3) := by decide +kernel
theorem d_Model_back_81 : decode b_Model_back 81 = .ok (.aload_n 0, 1) := by decide +kernel
theorem d_Model_back_82 : decode b_Model_back 82 = .ok (.getfield 39, 3) := by decide +kernel
theorem d_Model_back_85 : decode b_Model_back 85 = .ok (.iload 4, 2) := by decide +kernel
theorem d_Model_back_87 : decode b_Model_back 87 = .ok (.iaload, 1) := by decide +kernel
theorem d_Model_back_88 : decode b_Model_back 88 = .ok (.ifCond .eq 9, 3) := by decide +kernel
theorem d_Model_back_91 : decode b_Model_back 91 = .ok (.iinc 4 1, 3) := by decide +kernel
theorem d_Model_back_94 : decode b_Model_back 94 = .ok (.goto (-19), 3) := by decide +kernel
theorem d_Model_back_97 : decode b_Model_back 97 = .ok (.aload_n 0, 1) := by decide +kernel
theorem d_Model_back_98 : decode b_Model_back 98 = .ok (.iload_n 2, 1) := by decide +kernel
theorem d_Model_back_99 : decode b_Model_back 99 = .ok (.iload 4, 2) := by decide +kernel
theorem d_Model_back_101 : decode b_Model_back 101 = .ok (.invokevirtual 164, 3) := by decide +kernel
theorem d_Model_back_104 : decode b_Model_back 104 = .ok (.iload 4, 2) := by decide +kernel
theorem d_Model_back_106 : decode b_Model_back 106 = .ok (.istore_n 2, 1) := by decide +kernel
theorem d_Model_back_107 : decode b_Model_back 107 = .ok (.goto (-61), 3) := by decide +kernel
theorem d_Model_back_110 : decode b_Model_back 110 = .ok (.aload_n 0, 1) := by decide +kernel
theorem d_Model_back_111 : decode b_Model_back 111 = .ok (.getfield 142, 3) := by decide +kernel
theorem d_Model_back_114 : decode b_Model_back 114 = .ok (.ireturn, 1) := by decide +kernel
theorem d_Model_heard_0 : decode b_Model_heard 0 = .ok (.aload_n 0, 1) := by decide +kernel
theorem d_Model_heard_1 : decode b_Model_heard 1 = .ok (.iconst 0, 1) := by decide +kernel
theorem d_Model_heard_2 : decode b_Model_heard 2 = .ok (.putfield 63, 3) := by decide +kernel
theorem d_Model_heard_5 : decode b_Model_heard 5 = .ok (.iload_n 1, 1) := by decide +kernel
theorem d_Model_heard_6 : decode b_Model_heard 6 = .ok (.ifCond .lt 11, 3) := by decide +kernel
theorem d_Model_heard_9 : decode b_Model_heard 9 = .ok (.iload_n 1, 1) := by decide +kernel
theorem d_Model_heard_10 : decode b_Model_heard 10 = .ok (.aload_n 0, 1) := by decide +kernel
theorem d_Model_heard_11 : decode b_Model_heard 11 = .ok (.getfield 142, 3) := by decide +kernel
theorem d_Model_heard_14 : decode b_Model_heard 14 = .ok (.if_icmp .lt 8, 3) := by decide +kernel
theorem d_Model_heard_17 : decode b_Model_heard 17 = .ok (.bipush 32, 2) := by decide +kernel
theorem d_Model_heard_19 : decode b_Model_heard 19 = .ok (.goto 9, 3) := by decide +kernel
theorem d_Model_heard_22 : decode b_Model_heard 22 = .ok (.aload_n 0, 1) := by decide +kernel
theorem d_Model_heard_23 : decode b_Model_heard 23 = .ok (.getfield 45, 3) := by decide +kernel
theorem d_Model_heard_26 : decode b_Model_heard 26 = .ok (.iload_n 1, 1) := by decide +kernel
theorem d_Model_heard_27 : decode b_Model_heard 27 = .ok (.caload, 1) := by decide +kernel
theorem d_Model_heard_28 : decode b_Model_heard 28 = .ok (.ireturn, 1) := by decide +kernel
theorem d_Model_putLine_0 : decode b_Model_putLine 0 = .ok (.aload_n 0, 1) := by decide +kernel
theorem d_Model_putLine_1 : decode b_Model_putLine 1 = .ok (.getfield 167, 3) := by decide +kernel
theorem d_Model_putLine_4 : decode b_Model_putLine 4 = .ok (.aload_n 0, 1) := by decide +kernel
theorem d_Model_putLine_5 : decode b_Model_putLine 5 = .ok (.getfield 60, 3) := by decide +kernel
theorem d_Model_putLine_8 : decode b_Model_putLine 8 = .ok (.iconst 1, 1) := by decide +kernel
theorem d_Model_putLine_9 : decode b_Model_putLine 9 = .ok (.isub, 1) := by decide +kernel
theorem d_Model_putLine_10 : decode b_Model_putLine 10 = .ok (.if_icmp .ne 18, 3) := by decide +kernel
theorem d_Model_putLine_13 : decode b_Model_putLine 13 = .ok (.aload_n 0, 1) := by decide +kernel
theorem d_Model_putLine_14 : decode b_Model_putLine 14 = .ok (.dup, 1) := by decide +kernel
theorem d_Model_putLine_15 : decode b_Model_putLine 15 = .ok (.getfield 170, 3) := by decide +kernel
theorem d_Model_putLine_18 : decode b_Model_putLine 18 = .ok (.iconst 1, 1) := by decide +kernel
theorem d_Model_putLine_19 : decode b_Model_putLine 19 = .ok (.iadd, 1) := by decide +kernel
theorem d_Model_putLine_20 : decode b_Model_putLine 20 = .ok (.putfield 170, 3) := by decide +kernel
theorem d_Model_putLine_23 : decode b_Model_putLine 23 = .ok (.aload_n 0, 1) := by decide +kernel
theorem d_Model_putLine_24 : decode b_Model_putLine 24 = .ok (.iconst 0, 1) := by decide +kernel
theorem d_Model_putLine_25 : decode b_Model_putLine 25 = .ok (.putfield 167, 3) := by decide +kernel
theorem d_Model_putLine_28 : decode b_Model_putLine 28 = .ok (.aload_n 0, 1) := by decide +kernel
theorem d_Model_putLine_29 : decode b_Model_putLine 29 = .ok (.getfield 54, 3) := by decide +kernel
theorem d_Model_putLine_32 : decode b_Model_putLine 32 = .ok (.iload_n 1, 1) := by decide +kernel
theorem d_Model_putLine_33 : decode b_Model_putLine 33 = .ok (.iaload, 1) := by decide +kernel
theorem d_Model_putLine_34 : decode b_Model_putLine 34 = .ok (.ifCond .ge 21, 3) := by decide +kernel
theorem d_Model_putLine_37 : decode b_Model_putLine 37 = .ok (.aload_n 0, 1) := by decide +kernel
theorem d_Model_putLine_38 : decode b_Model_putLine 38 = .ok (.getfield 54, 3) := by decide +kernel
theorem d_Model_putLine_41 : decode b_Model_putLine 41 = .ok (.iload_n 1, 1) := by decide +kernel
theorem d_Model_putLine_42 : decode b_Model_putLine 42 = .ok (.bipush 32, 2) := by decide +kernel
theorem d_Model_putLine_44 : decode b_Model_putLine 44 = .ok (.aload_n 0, 1) := by decide +kernel
theorem d_Model_putLine_45 : decode b_Model_putLine 45 = .ok (.getfield 170, 3) := by decide +kernel
theorem d_Model_putLine_48 : decode b_Model_putLine 48 = .ok (.imul, 1) := by decide +kernel
theorem d_Model_putLine_49 : decode b_Model_putLine 49 = .ok (.aload_n 0, 1) := by decide +kernel
theorem d_Model_putLine_50 : decode b_Model_putLine 50 = .ok (.getfield 167, 3) := by decide +kernel
theorem d_Model_putLine_53 : decode b_Model_putLine 53 = .ok (.iadd, 1) := by decide +kernel
theorem d_Model_putLine_54 : decode b_Model_putLine 54 = .ok (.iastore, 1) := by decide +kernel
theorem d_Model_putLine_55 : decode b_Model_putLine 55 = .ok (.aload_n 0, 1) := by decide +kernel
theorem d_Model_putLine_56 : decode b_Model_putLine 56 = .ok (.getfield 33, 3) := by decide +kernel
theorem d_Model_putLine_59 : decode b_Model_putLine 59 = .ok (.iload_n 1, 1) := by decide +kernel
theorem d_Model_putLine_60 : decode b_Model_putLine 60 = .ok (.iaload, 1) := by decide +kernel
theorem d_Model_putLine_61 : decode b_Model_putLine 61 = .ok (.iconst 1, 1) := by decide +kernel
theorem d_Model_putLine_62 : decode b_Model_putLine 62 = .ok (.if_icmp .ne 17, 3) := by decide +kernel
theorem d_Model_putLine_65 : decode b_Model_putLine 65 = .ok (.aload_n 0, 1) := by decide +kernel
theorem d_Model_putLine_66 : decode b_Model_putLine 66 = .ok (.getfield 57, 3) := by decide +kernel
theorem d_Model_putLine_69 : decode b_Model_putLine 69 = .ok (.aload_n 0, 1) := by decide +kernel
theorem d_Model_putLine_70 : decode b_Model_putLine 70 = .ok (.getfield 173, 3) := by decide +kernel
theorem d_Model_putLine_73 : decode b_Model_putLine 73 = .ok (.isub, 1) := by decide +kernel
theorem d_Model_putLine_74 : decode b_Model_putLine 74 = .ok (.iconst 2, 1) := by decide +kernel
theorem d_Model_putLine_75 : decode b_Model_putLine 75 = .ok (.idiv, 1) := by decide +kernel
theorem d_Model_putLine_76 : decode b_Model_putLine 76 = .ok (.goto 4, 3) := by decide +kernel
theorem d_Model_putLine_79 : decode b_Model_putLine 79 = .ok (.iload_n 2, 1) := by decide +kernel
theorem d_Model_putLine_80 : decode b_Model_putLine 80 = .ok (.istore_n 3, 1) := by decide +kernel
theorem d_Model_putLine_81 : decode b_Model_putLine 81 = .ok (.iconst 0, 1) := by decide +kernel
theorem d_Model_putLine_82 : decode b_Model_putLine 82 = .ok (.istore 4, 2) := by decide +kernel
theorem d_Model_putLine_84 : decode b_Model_putLine 84 = .ok (.iload 4, 2) := by decide +kernel
theorem d_Model_putLine_86 : decode b_Model_putLine 86 = .ok (.aload_n 0, 1) := by decide +kernel
theorem d_Model_putLine_87 : decode b_Model_putLine 87 = .ok (.getfield 173, 3) := by decide +kernel
theorem d_Model_putLine_90 : decode b_Model_putLine 90 = .ok (.if_icmp .ge 47, 3) := by decide +kernel
theorem d_Model_putLine_93 : decode b_Model_putLine 93 = .ok (.aload_n 0, 1) := by decide +kernel
theorem d_Model_putLine_94 : decode b_Model_putLine 94 = .ok (.getfield 170, 3) := by decide +kernel
theorem d_Model_putLine_97 : decode b_Model_putLine 97 = .ok (.aload_n 0, 1) := by decide +kernel
theorem d_Model_putLine_98 : decode b_Model_putLine 98 = .ok (.getfield 176, 3) := by decide +kernel
theorem d_Model_putLine_101 : decode b_Model_putLine 101 = .ok (.if_icmp .ne 36, 3) := by decide +kernel
theorem d_Model_putLine_104 : decode b_Model_putLine 104 = .ok (.aload_n 0, 1) := by decide +kernel
theorem d_Model_putLine_105 : decode b_Model_putLine 105 = .ok (.getfield 167, 3) := by decide +kernel
theorem d_Model_putLine_108 : decode b_Model_putLine 108 = .ok (.aload_n 0, 1) := by decide +kernel
theorem d_Model_putLine_109 : decode b_Model_putLine 109 = .ok (.getfield 179, 3) := by decide +kernel
theorem d_Model_putLine_112 : decode b_Model_putLine 112 = .ok (.if_icmp .ne 25, 3) := by decide +kernel
theorem d_Model_putLine_115 : decode b_Model_putLine 115 = .ok (.aload_n 0, 1) := by decide +kernel
theorem d_Model_putLine_116 : decode b_Model_putLine 116 = .ok (.getfield 51, 3) := by decide +kernel
theorem d_Model_putLine_119 : decode b_Model_putLine 119 = .ok (.iload_n 3, 1) := by decide +kernel
theorem d_Model_putLine_120 : decode b_Model_putLine 120 = .ok (.iload 4, 2) := by decide +kernel
theorem d_Model_putLine_122 : decode b_Model_putLine 122 = .ok (.iadd, 1) := by decide +kernel
theorem d_Model_putLine_123 : decode b_Model_putLine 123 = .ok (.aload_n 0, 1) := by decide +kernel
theorem d_Model_putLine_124 : decode b_Model_putLine 124 = .ok (.getfield 48, 3) := by decide +kernel
theorem d_Model_putLine_127 : decode b_Model_putLine 127 = .ok (.iload 4, 2) := by decide +kernel
theorem d_Model_putLine_129 : decode b_Model_putLine 129 = .ok (.iaload, 1) := by decide +kernel
theorem d_Model_putLine_130 : decode b_Model_putLine 130 = .ok (.iastore, 1) := by decide +kernel
theorem d_Model_putLine_131 : decode b_Model_putLine 131 = .ok (.iinc 4 1, 3) := by decide +kernel
theorem d_Model_putLine_134 : decode b_Model_putLine 134 = .ok (.goto (-50), 3) := by decide +kernel
theorem d_Model_putLine_137 : decode b_Model_putLine 137 = .ok (.aload_n 0, 1) := by decide +kernel
theorem d_Model_putLine_138 : decode b_Model_putLine 138 = .ok (.aload_n 0, 1) := by decide +kernel
theorem d_Model_putLine_139 : decode b_Model_putLine 139 = .ok (.getfield 170, 3) := by decide +kernel
theorem d_Model_putLine_142 : decode b_Model_putLine 142 = .ok (.putfield 182, 3) := by decide +kernel
theorem d_Model_putLine_145 : decode b_Model_putLine 145 = .ok (.aload_n 0, 1) := by decide +kernel
theorem d_Model_putLine_146 : decode b_Model_putLine 146 = .ok (.dup, 1) := by decide +kernel
theorem d_Model_putLine_147 : decode b_Model_putLine 147 = .ok (.getfield 167, 3) := by decide +kernel
theorem d_Model_putLine_150 : decode b_Model_putLine 150 = .ok (.iconst 1, 1) := by decide +kernel
theorem d_Model_putLine_151 : decode b_Model_putLine 151 = .ok (.iadd, 1) := by decide +kernel
theorem d_Model_putLine_152 : decode b_Model_putLine 152 = .ok (.putfield 167, 3) := by decide +kernel
theorem d_Model_putLine_155 : decode b_Model_putLine 155 = .ok (.aload_n 0, 1) := by decide +kernel
theorem d_Model_putLine_156 : decode b_Model_putLine 156 = .ok (.iconst 0, 1) := by decide +kernel
theorem d_Model_putLine_157 : decode b_Model_putLine 157 = .ok (.putfield 173, 3) := by decide +kernel
theorem d_Model_putLine_160 : decode b_Model_putLine 160 = .ok (.return_, 1) := by decide +kernel
theorem d_Model_indentOf_0 : decode b_Model_indentOf 0 = .ok (.iload_n 1, 1) := by decide +kernel
theorem d_Model_indentOf_1 : decode b_Model_indentOf 1 = .ok (.ifCond .ne 11, 3) := by decide +kernel
theorem d_Model_indentOf_4 : decode b_Model_indentOf 4 = .ok (.iload_n 2, 1) := by decide +kernel
theorem d_Model_indentOf_5 : decode b_Model_indentOf 5 = .ok (.ifCond .ne 7, 3) := by decide +kernel
theorem d_Model_indentOf_8 : decode b_Model_indentOf 8 = .ok (.iconst 2, 1) := by decide +kernel
theorem d_Model_indentOf_9 : decode b_Model_indentOf 9 = .ok (.goto 17, 3) := by decide +kernel
theorem d_Model_indentOf_12 : decode b_Model_indentOf 12 = .ok (.iload_n 1, 1) := by decide +kernel
theorem d_Model_indentOf_13 : decode b_Model_indentOf 13 = .ok (.iconst 2, 1) := by decide +kernel
theorem d_Model_indentOf_14 : decode b_Model_indentOf 14 = .ok (.if_icmp .ne 11, 3) := by decide +kernel
theorem d_Model_indentOf_17 : decode b_Model_indentOf 17 = .ok (.iload_n 2, 1) := by decide +kernel
theorem d_Model_indentOf_18 : decode b_Model_indentOf 18 = .ok (.ifCond .le 7, 3) := by decide +kernel
theorem d_Model_indentOf_21 : decode b_Model_indentOf 21 = .ok (.iconst 4, 1) := by decide +kernel
theorem d_Model_indentOf_22 : decode b_Model_indentOf 22 = .ok (.goto 4, 3) := by decide +kernel
theorem d_Model_indentOf_25 : decode b_Model_indentOf 25 = .ok (.iconst 0, 1) := by decide +kernel
theorem d_Model_indentOf_26 : decode b_Model_indentOf 26 = .ok (.ireturn, 1) := by decide +kernel
theorem d_Model_lay_0 : decode b_Model_lay 0 = .ok (.iconst 0, 1) := by decide +kernel
theorem d_Model_lay_1 : decode b_Model_lay 1 = .ok (.istore_n 3, 1) := by decide +kernel
theorem d_Model_lay_2 : decode b_Model_lay 2 = .ok (.aload_n 0, 1) := by decide +kernel
theorem d_Model_lay_3 : decode b_Model_lay 3 = .ok (.iconst 0, 1) := by decide +kernel
theorem d_Model_lay_4 : decode b_Model_lay 4 = .ok (.putfield 173, 3) := by decide +kernel
theorem d_Model_lay_7 : decode b_Model_lay 7 = .ok (.sipush 240, 3) := by decide +kernel
theorem d_Model_lay_10 : decode b_Model_lay 10 = .ok (.iload_n 1, 1) := by decide +kernel
theorem d_Model_lay_11 : decode b_Model_lay 11 = .ok (.imul, 1) := by decide +kernel
theorem d_Model_lay_12 : decode b_Model_lay 12 = .ok (.istore 4, 2) := by decide +kernel
theorem d_Model_lay_14 : decode b_Model_lay 14 = .ok (.iload 4, 2) := by decide +kernel
theorem d_Model_lay_16 : decode b_Model_lay 16 = .ok (.aload_n 0, 1) := by decide +kernel
theorem d_Model_lay_17 : decode b_Model_lay 17 = .ok (.getfield 36, 3) := by decide +kernel
theorem d_Model_lay_20 : decode b_Model_lay 20 = .ok (.iload_n 1, 1) := by decide +kernel
theorem d_Model_lay_21 : decode b_Model_lay 21 = .ok (.iaload, 1) := by decide +kernel
theorem d_Model_lay_22 : decode b_Model_lay 22 = .ok (.iadd, 1) := by decide +kernel
theorem d_Model_lay_23 : decode b_Model_lay 23 = .ok (.istore 5, 2) := by decide +kernel
theorem d_Model_lay_25 : decode b_Model_lay 25 = .ok (.iload 4, 2) := by decide +kernel
theorem d_Model_lay_27 : decode b_Model_lay 27 = .ok (.iload 5, 2) := by decide +kernel
theorem d_Model_lay_29 : decode b_Model_lay 29 = .ok (.if_icmp .ge 212, 3) := by decide +kernel
theorem d_Model_lay_32 : decode b_Model_lay 32 = .ok (.iload 4, 2) := by decide +kernel
theorem d_Model_lay_34 : decode b_Model_lay 34 = .ok (.istore 6, 2) := by decide +kernel
theorem d_Model_lay_36 : decode b_Model_lay 36 = .ok (.iload 6, 2) := by decide +kernel
theorem d_Model_lay_38 : decode b_Model_lay 38 = .ok (.iload 5, 2) := by decide +kernel
theorem d_Model_lay_40 : decode b_Model_lay 40 = .ok (.if_icmp .ge 19, 3) := by decide +kernel
theorem d_Model_lay_43 : decode b_Model_lay 43 = .ok (.aload_n 0, 1) := by decide +kernel
theorem d_Model_lay_44 : decode b_Model_lay 44 = .ok (.getfield 39, 3) := by decide +kernel
theorem d_Model_lay_47 : decode b_Model_lay 47 = .ok (.iload 6, 2) := by decide +kernel
theorem d_Model_lay_49 : decode b_Model_lay 49 = .ok (.iaload, 1) := by decide +kernel
theorem d_Model_lay_50 : decode b_Model_lay 50 = .ok (.ifCond .eq 9, 3) := by decide +kernel
theorem d_Model_lay_53 : decode b_Model_lay 53 = .ok (.iinc 6 1, 3) := by decide +kernel
theorem d_Model_lay_56 : decode b_Model_lay 56 = .ok (.goto (-20), 3) := by decide +kernel
theorem d_Model_lay_59 : decode b_Model_lay 59 = .ok (.iload 4, 2) := by decide +kernel
theorem d_Model_lay_61 : decode b_Model_lay 61 = .ok (.iload 6, 2) := by decide +kernel
theorem d_Model_lay_63 : decode b_Model_lay 63 = .ok (.if_icmp .ge 172, 3) := by decide +kernel
theorem d_Model_lay_66 : decode b_Model_lay 66 = .ok (.aload_n 0, 1) := by decide +kernel
theorem d_Model_lay_67 : decode b_Model_lay 67 = .ok (.getfield 57, 3) := by decide +kernel
theorem d_Model_lay_70 : decode b_Model_lay 70 = .ok (.aload_n 0, 1) := by decide +kernel
theorem d_Model_lay_71 : decode b_Model_lay 71 = .ok (.aload_n 0, 1) := by decide +kernel
theorem d_Model_lay_72 : decode b_Model_lay 72 = .ok (.getfield 33, 3) := by decide +kernel
theorem d_Model_lay_75 : decode b_Model_lay 75 = .ok (.iload_n 1, 1) := by decide +kernel
theorem d_Model_lay_76 : decode b_Model_lay 76 = .ok (.iaload, 1) := by decide +kernel
theorem d_Model_lay_77 : decode b_Model_lay 77 = .ok (.iload_n 3, 1) := by decide +kernel
theorem d_Model_lay_78 : decode b_Model_lay 78 = .ok (.invokevirtual 185, 3) := by decide +kernel
theorem d_Model_lay_81 : decode b_Model_lay 81 = .ok (.isub, 1) := by decide +kernel
theorem d_Model_lay_82 : decode b_Model_lay 82 = .ok (.istore 7, 2) := by decide +kernel
theorem d_Model_lay_84 : decode b_Model_lay 84 = .ok (.aload_n 0, 1) := by decide +kernel
theorem d_Model_lay_85 : decode b_Model_lay 85 = .ok (.getfield 173, 3) := by decide +kernel
theorem d_Model_lay_88 : decode b_Model_lay 88 = .ok (.ifCond .ne 11, 3) := by decide +kernel
theorem d_Model_lay_91 : decode b_Model_lay 91 = .ok (.iload 6, 2) := by decide +kernel
theorem d_Model_lay_93 : decode b_Model_lay 93 = .ok (.iload 4, 2) := by decide +kernel
theorem d_Model_lay_95 : decode b_Model_lay 95 = .ok (.isub, 1) := by decide +kernel
theorem d_Model_lay_96 : decode b_Model_lay 96 = .ok (.goto 15, 3) := by decide +kernel
theorem d_Model_lay_99 : decode b_Model_lay 99 = .ok (.aload_n 0, 1) := by decide +kernel
theorem d_Model_lay_100 : decode b_Model_lay 100 = .ok (.getfield 173, 3) := by decide +kernel
theorem d_Model_lay_103 : decode b_Model_lay 103 = .ok (.iconst 1, 1) := by decide +kernel
theorem d_Model_lay_104 : decode b_Model_lay 104 = .ok (.iadd, 1) := by decide +kernel
theorem d_Model_lay_105 : decode b_Model_lay 105 = .ok (.iload 6, 2) := by decide +kernel
theorem d_Model_lay_107 : decode b_Model_lay 107 = .ok (.iadd, 1) := by decide +kernel
theorem d_Model_lay_108 : decode b_Model_lay 108 = .ok (.iload 4, 2) := by decide +kernel
theorem d_Model_lay_110 : decode b_Model_lay 110 = .ok (.isub, 1) := by decide +kernel
theorem d_Model_lay_111 : decode b_Model_lay 111 = .ok (.istore 8, 2) := by decide +kernel
theorem d_Model_lay_113 : decode b_Model_lay 113 = .ok (.aload_n 0, 1) := by decide +kernel
theorem d_Model_lay_114 : decode b_Model_lay 114 = .ok (.getfield 173, 3) := by decide +kernel
theorem d_Model_lay_117 : decode b_Model_lay 117 = .ok (.ifCond .le 23, 3) := by decide +kernel
theorem d_Model_lay_120 : decode b_Model_lay 120 = .ok (.iload 8, 2) := by decide +kernel
theorem d_Model_lay_122 : decode b_Model_lay 122 = .ok (.iload 7, 2) := by decide +kernel
theorem d_Model_lay_124 : decode b_Model_lay 124 = .ok (.if_icmp .le 16, 3) := by decide +kernel
theorem d_Model_lay_127 : decode b_Model_lay 127 = .ok (.aload_n 0, 1) := by decide +kernel
theorem d_Model_lay_128 : decode b_Model_lay 128 = .ok (.iload_n 1, 1) := by decide +kernel
theorem d_Model_lay_129 : decode b_Model_lay 129 = .ok (.iload_n 3, 1) := by decide +kernel
theorem d_Model_lay_130 : decode b_Model_lay 130 = .ok (.iload_n 2, 1) := by decide +kernel
theorem d_Model_lay_131 : decode b_Model_lay 131 = .ok (.invokevirtual 189, 3) := by decide +kernel
theorem d_Model_lay_134 : decode b_Model_lay 134 = .ok (.iinc 3 1, 3) := by decide +kernel
theorem d_Model_lay_137 : decode b_Model_lay 137 = .ok (.goto 95, 3) := by decide +kernel
theorem d_Model_lay_140 : decode b_Model_lay 140 = .ok (.aload_n 0, 1) := by decide +kernel
theorem d_Model_lay_141 : decode b_Model_lay 141 = .ok (.getfield 173, 3) := by decide +kernel
theorem d_Model_lay_144 : decode b_Model_lay 144 = .ok (.ifCond .le 23, 3) := by decide +kernel
theorem d_Model_lay_147 : decode b_Model_lay 147 = .ok (.aload_n 0, 1) := by decide +kernel
theorem d_Model_lay_148 : decode b_Model_lay 148 = .ok (.getfield 48, 3) := by decide +kernel
theorem d_Model_lay_151 : decode b_Model_lay 151 = .ok (.aload_n 0, 1) := by decide +kernel
theorem d_Model_lay_152 : decode b_Model_lay 152 = .ok (.getfield 173, 3) := by decide +kernel
theorem d_Model_lay_155 : decode b_Model_lay 155 = .ok (.iconst 0, 1) := by decide +kernel
theorem d_Model_lay_156 : decode b_Model_lay 156 = .ok (.iastore, 1) := by decide +kernel
theorem d_Model_lay_157 : decode b_Model_lay 157 = .ok (.aload_n 0, 1) := by decide +kernel
theorem d_Model_lay_158 : decode b_Model_lay 158 = .ok (.dup, 1) := by decide +kernel
theorem d_Model_lay_159 : decode b_Model_lay 159 = .ok (.getfield 173, 3) := by decide +kernel
theorem d_Model_lay_162 : decode b_Model_lay 162 = .ok (.iconst 1, 1) := by decide +kernel
theorem d_Model_lay_163 : decode b_Model_lay 163 = .ok (.iadd, 1) := by decide +kernel
theorem d_Model_lay_164 : decode b_Model_lay 164 = .ok (.putfield 173, 3) := by decide +kernel
theorem d_Model_lay_167 : decode b_Model_lay 167 = .ok (.iload 4, 2) := by decide +kernel
theorem d_Model_lay_169 : decode b_Model_lay 169 = .ok (.iload 6, 2) := by decide +kernel
theorem d_Model_lay_171 : decode b_Model_lay 171 = .ok (.if_icmp .ge 44, 3) := by decide +kernel
theorem d_Model_lay_174 : decode b_Model_lay 174 = .ok (.aload_n 0, 1) := by decide +kernel
theorem d_Model_lay_175 : decode b_Model_lay 175 = .ok (.getfield 173, 3) := by decide +kernel
theorem d_Model_lay_178 : decode b_Model_lay 178 = .ok (.iload 7, 2) := by decide +kernel
theorem d_Model_lay_180 : decode b_Model_lay 180 = .ok (.if_icmp .ge 35, 3) := by decide +kernel
theorem d_Model_lay_183 : decode b_Model_lay 183 = .ok (.aload_n 0, 1) := by decide +kernel
theorem d_Model_lay_184 : decode b_Model_lay 184 = .ok (.getfield 48, 3) := by decide +kernel
theorem d_Model_lay_187 : decode b_Model_lay 187 = .ok (.aload_n 0, 1) := by decide +kernel
theorem d_Model_lay_188 : decode b_Model_lay 188 = .ok (.getfield 173, 3) := by decide +kernel
theorem d_Model_lay_191 : decode b_Model_lay 191 = .ok (.aload_n 0, 1) := by decide +kernel
theorem d_Model_lay_192 : decode b_Model_lay 192 = .ok (.getfield 39, 3) := by decide +kernel
theorem d_Model_lay_195 : decode b_Model_lay 195 = .ok (.iload 4, 2) := by decide +kernel
theorem d_Model_lay_197 : decode b_Model_lay 197 = .ok (.iaload, 1) := by decide +kernel
theorem d_Model_lay_198 : decode b_Model_lay 198 = .ok (.iastore, 1) := by decide +kernel
theorem d_Model_lay_199 : decode b_Model_lay 199 = .ok (.aload_n 0, 1) := by decide +kernel
theorem d_Model_lay_200 : decode b_Model_lay 200 = .ok (.dup, 1) := by decide +kernel
theorem d_Model_lay_201 : decode b_Model_lay 201 = .ok (.getfield 173, 3) := by decide +kernel
theorem d_Model_lay_204 : decode b_Model_lay 204 = .ok (.iconst 1, 1) := by decide +kernel
theorem d_Model_lay_205 : decode b_Model_lay 205 = .ok (.iadd, 1) := by decide +kernel
theorem d_Model_lay_206 : decode b_Model_lay 206 = .ok (.putfield 173, 3) := by decide +kernel
theorem d_Model_lay_209 : decode b_Model_lay 209 = .ok (.iinc 4 1, 3) := by decide +kernel
theorem d_Model_lay_212 : decode b_Model_lay 212 = .ok (.goto (-45), 3) := by decide +kernel
theorem d_Model_lay_215 : decode b_Model_lay 215 = .ok (.iload 4, 2) := by decide +kernel
theorem d_Model_lay_217 : decode b_Model_lay 217 = .ok (.iload 6, 2) := by decide +kernel
theorem d_Model_lay_219 : decode b_Model_lay 219 = .ok (.if_icmp .ge 13, 3) := by decide +kernel
theorem d_Model_lay_222 : decode b_Model_lay 222 = .ok (.aload_n 0, 1) := by decide +kernel
theorem d_Model_lay_223 : decode b_Model_lay 223 = .ok (.iload_n 1, 1) := by decide +kernel
theorem d_Model_lay_224 : decode b_Model_lay 224 = .ok (.iload_n 3, 1) := by decide +kernel
theorem d_Model_lay_225 : decode b_Model_lay 225 = .ok (.iload_n 2, 1) := by decide +kernel
theorem d_Model_lay_226 : decode b_Model_lay 226 = .ok (.invokevirtual 189, 3) := by decide +kernel
theorem d_Model_lay_229 : decode b_Model_lay 229 = .ok (.iinc 3 1, 3) := by decide +kernel
theorem d_Model_lay_232 : decode b_Model_lay 232 = .ok (.goto (-173), 3) := by decide +kernel
theorem d_Model_lay_235 : decode b_Model_lay 235 = .ok (.iinc 4 1, 3) := by decide +kernel
theorem d_Model_lay_238 : decode b_Model_lay 238 = .ok (.goto (-213), 3) := by decide +kernel
theorem d_Model_lay_241 : decode b_Model_lay 241 = .ok (.aload_n 0, 1) := by decide +kernel
theorem d_Model_lay_242 : decode b_Model_lay 242 = .ok (.getfield 173, 3) := by decide +kernel
theorem d_Model_lay_245 : decode b_Model_lay 245 = .ok (.ifCond .le 13, 3) := by decide +kernel
theorem d_Model_lay_248 : decode b_Model_lay 248 = .ok (.aload_n 0, 1) := by decide +kernel
theorem d_Model_lay_249 : decode b_Model_lay 249 = .ok (.iload_n 1, 1) := by decide +kernel
theorem d_Model_lay_250 : decode b_Model_lay 250 = .ok (.iload_n 3, 1) := by decide +kernel
theorem d_Model_lay_251 : decode b_Model_lay 251 = .ok (.iload_n 2, 1) := by decide +kernel
theorem d_Model_lay_252 : decode b_Model_lay 252 = .ok (.invokevirtual 189, 3) := by decide +kernel
theorem d_Model_lay_255 : decode b_Model_lay 255 = .ok (.iinc 3 1, 3) := by decide +kernel
theorem d_Model_lay_258 : decode b_Model_lay 258 = .ok (.iload_n 3, 1) := by decide +kernel
theorem d_Model_lay_259 : decode b_Model_lay 259 = .ok (.ireturn, 1) := by decide +kernel
theorem d_Model_closeLine_0 : decode b_Model_closeLine 0 = .ok (.iload_n 3, 1) := by decide +kernel
theorem d_Model_closeLine_1 : decode b_Model_closeLine 1 = .ok (.ifCond .eq 19, 3) := by decide +kernel
theorem d_Model_closeLine_4 : decode b_Model_closeLine 4 = .ok (.aload_n 0, 1) := by decide +kernel
theorem d_Model_closeLine_5 : decode b_Model_closeLine 5 = .ok (.iload_n 1, 1) := by decide +kernel
theorem d_Model_closeLine_6 : decode b_Model_closeLine 6 = .ok (.aload_n 0, 1) := by decide +kernel
theorem d_Model_closeLine_7 : decode b_Model_closeLine 7 = .ok (.aload_n 0, 1) := by decide +kernel
theorem d_Model_closeLine_8 : decode b_Model_closeLine 8 = .ok (.getfield 33, 3) := by decide +kernel
theorem d_Model_closeLine_11 : decode b_Model_closeLine 11 = .ok (.iload_n 1, 1) := by decide +kernel
theorem d_Model_closeLine_12 : decode b_Model_closeLine 12 = .ok (.iaload, 1) := by decide +kernel
theorem d_Model_closeLine_13 : decode b_Model_closeLine 13 = .ok (.iload_n 2, 1) := by decide +kernel
theorem d_Model_closeLine_14 : decode b_Model_closeLine 14 = .ok (.invokevirtual 185, 3) := by decide +kernel
theorem d_Model_closeLine_17 : decode b_Model_closeLine 17 = .ok (.invokevirtual 193, 3) := by decide +kernel
theorem d_Model_closeLine_20 : decode b_Model_closeLine 20 = .ok (.aload_n 0, 1) := by decide +kernel
theorem d_Model_closeLine_21 : decode b_Model_closeLine 21 = .ok (.iconst 0, 1) := by decide +kernel
theorem d_Model_closeLine_22 : decode b_Model_closeLine 22 = .ok (.putfield 173, 3) := by decide +kernel
theorem d_Model_closeLine_25 : decode b_Model_closeLine 25 = .ok (.return_, 1) := by decide +kernel
theorem d_Model_layOut_0 : decode b_Model_layOut 0 = .ok (.aload_n 0, 1) := by decide +kernel
theorem d_Model_layOut_1 : decode b_Model_layOut 1 = .ok (.iconst 1, 1) := by decide +kernel
theorem d_Model_layOut_2 : decode b_Model_layOut 2 = .ok (.putfield 170, 3) := by decide +kernel
theorem d_Model_layOut_5 : decode b_Model_layOut 5 = .ok (.aload_n 0, 1) := by decide +kernel
theorem d_Model_layOut_6 : decode b_Model_layOut 6 = .ok (.iconst 0, 1) := by decide +kernel
theorem d_Model_layOut_7 : decode b_Model_layOut 7 = .ok (.putfield 167, 3) := by decide +kernel
theorem d_Model_layOut_10 : decode b_Model_layOut 10 = .ok (.aload_n 0, 1) := by decide +kernel
theorem d_Model_layOut_11 : decode b_Model_layOut 11 = .ok (.iconst 1, 1) := by decide +kernel
theorem d_Model_layOut_12 : decode b_Model_layOut 12 = .ok (.putfield 182, 3) := by decide +kernel
theorem d_Model_layOut_15 : decode b_Model_layOut 15 = .ok (.aload_n 0, 1) := by decide +kernel
theorem d_Model_layOut_16 : decode b_Model_layOut 16 = .ok (.iload_n 1, 1) := by decide +kernel
theorem d_Model_layOut_17 : decode b_Model_layOut 17 = .ok (.putfield 176, 3) := by decide +kernel
theorem d_Model_layOut_20 : decode b_Model_layOut 20 = .ok (.aload_n 0, 1) := by decide +kernel
theorem d_Model_layOut_21 : decode b_Model_layOut 21 = .ok (.iload_n 2, 1) := by decide +kernel
theorem d_Model_layOut_22 : decode b_Model_layOut 22 = .ok (.putfield 179, 3) := by decide +kernel
theorem d_Model_layOut_25 : decode b_Model_layOut 25 = .ok (.iconst 0, 1) := by decide +kernel
theorem d_Model_layOut_26 : decode b_Model_layOut 26 = .ok (.istore_n 3, 1) := by decide +kernel
theorem d_Model_layOut_27 : decode b_Model_layOut 27 = .ok (.iload_n 3, 1) := by decide +kernel
theorem d_Model_layOut_28 : decode b_Model_layOut 28 = .ok (.bipush 40, 2) := by decide +kernel
theorem d_Model_layOut_30 : decode b_Model_layOut 30 = .ok (.if_icmp .ge 16, 3) := by decide +kernel
theorem d_Model_layOut_33 : decode b_Model_layOut 33 = .ok (.aload_n 0, 1) := by decide +kernel
theorem d_Model_layOut_34 : decode b_Model_layOut 34 = .ok (.getfield 51, 3) := by decide +kernel
theorem d_Model_layOut_37 : decode b_Model_layOut 37 = .ok (.iload_n 3, 1) := by decide +kernel
theorem d_Model_layOut_38 : decode b_Model_layOut 38 = .ok (.iconst 0, 1) := by decide +kernel
theorem d_Model_layOut_39 : decode b_Model_layOut 39 = .ok (.iastore, 1) := by decide +kernel
theorem d_Model_layOut_40 : decode b_Model_layOut 40 = .ok (.iinc 3 1, 3) := by decide +kernel
theorem d_Model_layOut_43 : decode b_Model_layOut 43 = .ok (.goto (-16), 3) := by decide +kernel
theorem d_Model_layOut_46 : decode b_Model_layOut 46 = .ok (.iconst 0, 1) := by decide +kernel
theorem d_Model_layOut_47 : decode b_Model_layOut 47 = .ok (.istore_n 3, 1) := by decide +kernel
theorem d_Model_layOut_48 : decode b_Model_layOut 48 = .ok (.iload_n 3, 1) := by decide +kernel
theorem d_Model_layOut_49 : decode b_Model_layOut 49 = .ok (.aload_n 0, 1) := by decide +kernel
theorem d_Model_layOut_50 : decode b_Model_layOut 50 = .ok (.getfield 100, 3) := by decide +kernel
theorem d_Model_layOut_53 : decode b_Model_layOut 53 = .ok (.if_icmp .ge 168, 3) := by decide +kernel
theorem d_Model_layOut_56 : decode b_Model_layOut 56 = .ok (.aload_n 0, 1) := by decide +kernel
theorem d_Model_layOut_57 : decode b_Model_layOut 57 = .ok (.getfield 54, 3) := by decide +kernel
theorem d_Model_layOut_60 : decode b_Model_layOut 60 = .ok (.iload_n 3, 1) := by decide +kernel
theorem d_Model_layOut_61 : decode b_Model_layOut 61 = .ok (.iconst (-1), 1) := by decide +kernel
theorem d_Model_layOut_62 : decode b_Model_layOut 62 = .ok (.iastore, 1) := by decide +kernel
theorem d_Model_layOut_63 : decode b_Model_layOut 63 = .ok (.aload_n 0, 1) := by decide +kernel
theorem d_Model_layOut_64 : decode b_Model_layOut 64 = .ok (.getfield 33, 3) := by decide +kernel
theorem d_Model_layOut_67 : decode b_Model_layOut 67 = .ok (.iload_n 3, 1) := by decide +kernel
theorem d_Model_layOut_68 : decode b_Model_layOut 68 = .ok (.iaload, 1) := by decide +kernel
theorem d_Model_layOut_69 : decode b_Model_layOut 69 = .ok (.iconst 3, 1) := by decide +kernel
theorem d_Model_layOut_70 : decode b_Model_layOut 70 = .ok (.if_icmp .ne 35, 3) := by decide +kernel
theorem d_Model_layOut_73 : decode b_Model_layOut 73 = .ok (.aload_n 0, 1) := by decide +kernel
theorem d_Model_layOut_74 : decode b_Model_layOut 74 = .ok (.aload_n 0, 1) := by decide +kernel
theorem d_Model_layOut_75 : decode b_Model_layOut 75 = .ok (.getfield 167, 3) := by decide +kernel
theorem d_Model_layOut_78 : decode b_Model_layOut 78 = .ok (.ifCond .le 12, 3) := by decide +kernel
theorem d_Model_layOut_81 : decode b_Model_layOut 81 = .ok (.aload_n 0, 1) := by decide +kernel
theorem d_Model_layOut_82 : decode b_Model_layOut 82 = .ok (.getfield 170, 3) := by decide +kernel
theorem d_Model_layOut_85 : decode b_Model_layOut 85 = .ok (.iconst 1, 1) := by decide +kernel
theorem d_Model_layOut_86 : decode b_Model_layOut 86 = .ok (.iadd, 1) := by decide +kernel
theorem d_Model_layOut_87 : decode b_Model_layOut 87 = .ok (.goto 7, 3) := by decide +kernel
theorem d_Model_layOut_90 : decode b_Model_layOut 90 = .ok (.aload_n 0, 1) := by decide +kernel
theorem d_Model_layOut_91 : decode b_Model_layOut 91 = .ok (.getfield 170, 3) := by decide +kernel
theorem d_Model_layOut_94 : decode b_Model_layOut 94 = .ok (.putfield 170, 3) := by decide +kernel
theorem d_Model_layOut_97 : decode b_Model_layOut 97 = .ok (.aload_n 0, 1) := by decide +kernel
theorem d_Model_layOut_98 : decode b_Model_layOut 98 = .ok (.iconst 0, 1) := by decide +kernel
theorem d_Model_layOut_99 : decode b_Model_layOut 99 = .ok (.putfield 167, 3) := by decide +kernel
theorem d_Model_layOut_102 : decode b_Model_layOut 102 = .ok (.goto 113, 3) := by decide +kernel
theorem d_Model_layOut_105 : decode b_Model_layOut 105 = .ok (.aload_n 0, 1) := by decide +kernel
theorem d_Model_layOut_106 : decode b_Model_layOut 106 = .ok (.getfield 33, 3) := by decide +kernel
theorem d_Model_layOut_109 : decode b_Model_layOut 109 = .ok (.iload_n 3, 1) := by decide +kernel
theorem d_Model_layOut_110 : decode b_Model_layOut 110 = .ok (.iaload, 1) := by decide +kernel
theorem d_Model_layOut_111 : decode b_Model_layOut 111 = .ok (.iconst 1, 1) := by decide +kernel
theorem d_Model_layOut_112 : decode b_Model_layOut 112 = .ok (.if_icmp .ne 12, 3) := by decide +kernel
theorem d_Model_layOut_115 : decode b_Model_layOut 115 = .ok (.aload_n 0, 1) := by decide +kernel
theorem d_Model_layOut_116 : decode b_Model_layOut 116 = .ok (.iload_n 3, 1) := by decide +kernel
theorem d_Model_layOut_117 : decode b_Model_layOut 117 = .ok (.iconst 0, 1) := by decide +kernel
theorem d_Model_layOut_118 : decode b_Model_layOut 118 = .ok (.invokevirtual 196, 3) := by decide +kernel
theorem d_Model_layOut_121 : decode b_Model_layOut 121 = .ok (.goto 4, 3) := by decide +kernel
theorem d_Model_layOut_124 : decode b_Model_layOut 124 = .ok (.iconst 0, 1) := by decide +kernel
theorem d_Model_layOut_125 : decode b_Model_layOut 125 = .ok (.istore 4, 2) := by decide +kernel
theorem d_Model_layOut_127 : decode b_Model_layOut 127 = .ok (.iload 4, 2) := by decide +kernel
theorem d_Model_layOut_129 : decode b_Model_layOut 129 = .ok (.ifCond .le 78, 3) := by decide +kernel
theorem d_Model_layOut_132 : decode b_Model_layOut 132 = .ok (.aload_n 0, 1) := by decide +kernel
theorem d_Model_layOut_133 : decode b_Model_layOut 133 = .ok (.getfield 167, 3) := by decide +kernel
theorem d_Model_layOut_136 : decode b_Model_layOut 136 = .ok (.ifCond .le 71, 3) := by decide +kernel
theorem d_Model_layOut_139 : decode b_Model_layOut 139 = .ok (.aload_n 0, 1) := by decide +kernel
theorem d_Model_layOut_140 : decode b_Model_layOut 140 = .ok (.getfield 60, 3) := by decide +kernel
theorem d_Model_layOut_143 : decode b_Model_layOut 143 = .ok (.iconst 1, 1) := by decide +kernel
theorem d_Model_layOut_144 : decode b_Model_layOut 144 = .ok (.isub, 1) := by decide +kernel
theorem d_Model_layOut_145 : decode b_Model_layOut 145 = .ok (.aload_n 0, 1) := by decide +kernel
theorem d_Model_layOut_146 : decode b_Model_layOut 146 = .ok (.getfield 167, 3) := by decide +kernel
theorem d_Model_layOut_149 : decode b_Model_layOut 149 = .ok (.isub, 1) := by decide +kernel
theorem d_Model_layOut_150 : decode b_Model_layOut 150 = .ok (.iconst 1, 1) := by decide +kernel
theorem d_Model_layOut_151 : decode b_Model_layOut 151 = .ok (.isub, 1) := by decide +kernel
theorem d_Model_layOut_152 : decode b_Model_layOut 152 = .ok (.iload 4, 2) := by decide +kernel
theorem d_Model_layOut_154 : decode b_Model_layOut 154 = .ok (.iconst 1, 1) := by decide +kernel
theorem d_Model_layOut_155 : decode b_Model_layOut 155 = .ok (.iadd, 1) := by decide +kernel
theorem d_Model_layOut_156 : decode b_Model_layOut 156 = .ok (.if_icmp .lt 7, 3) := by decide +kernel
theorem d_Model_layOut_159 : decode b_Model_layOut 159 = .ok (.iconst 1, 1) := by decide +kernel
theorem d_Model_layOut_160 : decode b_Model_layOut 160 = .ok (.goto 4, 3) := by decide +kernel
theorem d_Model_layOut_163 : decode b_Model_layOut 163 = .ok (.iconst 0, 1) := by decide +kernel
theorem d_Model_layOut_164 : decode b_Model_layOut 164 = .ok (.istore 5, 2) := by decide +kernel
theorem d_Model_layOut_166 : decode b_Model_layOut 166 = .ok (.aload_n 0, 1) := by decide +kernel
theorem d_Model_layOut_167 : decode b_Model_layOut 167 = .ok (.iload 5, 2) := by decide +kernel
theorem d_Model_layOut_169 : decode b_Model_layOut 169 = .ok (.ifCond .eq 10, 3) := by decide +kernel
theorem d_Model_layOut_172 : decode b_Model_layOut 172 = .ok (.aload_n 0, 1) := by decide +kernel
theorem d_Model_layOut_173 : decode b_Model_layOut 173 = .ok (.getfield 170, 3) := by decide +kernel
theorem d_Model_layOut_176 : decode b_Model_layOut 176 = .ok (.goto 9, 3) := by decide +kernel
theorem d_Model_layOut_179 : decode b_Model_layOut 179 = .ok (.aload_n 0, 1) := by decide +kernel
theorem d_Model_layOut_180 : decode b_Model_layOut 180 = .ok (.getfield 170, 3) := by decide +kernel
theorem d_Model_layOut_183 : decode b_Model_layOut 183 = .ok (.iconst 1, 1) := by decide +kernel
theorem d_Model_layOut_184 : decode b_Model_layOut 184 = .ok (.iadd, 1) := by decide +kernel
theorem d_Model_layOut_185 : decode b_Model_layOut 185 = .ok (.putfield 170, 3) := by decide +kernel
theorem d_Model_layOut_188 : decode b_Model_layOut 188 = .ok (.aload_n 0, 1) := by decide +kernel
theorem d_Model_layOut_189 : decode b_Model_layOut 189 = .ok (.iload 5, 2) := by decide +kernel
theorem d_Model_layOut_191 : decode b_Model_layOut 191 = .ok (.ifCond .eq 12, 3) := by decide +kernel
theorem d_Model_layOut_194 : decode b_Model_layOut 194 = .ok (.aload_n 0, 1) := by decide +kernel
theorem d_Model_layOut_195 : decode b_Model_layOut 195 = .ok (.getfield 167, 3) := by decide +kernel
theorem d_Model_layOut_198 : decode b_Model_layOut 198 = .ok (.iconst 1, 1) := by decide +kernel
theorem d_Model_layOut_199 : decode b_Model_layOut 199 = .ok (.iadd, 1) := by decide +kernel
theorem d_Model_layOut_200 : decode b_Model_layOut 200 = .ok (.goto 4, 3) := by decide +kernel
theorem d_Model_layOut_203 : decode b_Model_layOut 203 = .ok (.iconst 0, 1) := by decide +kernel
theorem d_Model_layOut_204 : decode b_Model_layOut 204 = .ok (.putfield 167, 3) := by decide +kernel
theorem d_Model_layOut_207 : decode b_Model_layOut 207 = .ok (.aload_n 0, 1) := by decide +kernel
theorem d_Model_layOut_208 : decode b_Model_layOut 208 = .ok (.iload_n 3, 1) := by decide +kernel
theorem d_Model_layOut_209 : decode b_Model_layOut 209 = .ok (.iconst 1, 1) := by decide +kernel
theorem d_Model_layOut_210 : decode b_Model_layOut 210 = .ok (.invokevirtual 196, 3) := by decide +kernel
theorem d_Model_layOut_213 : decode b_Model_layOut 213 = .ok (.istore 4, 2) := by decide +kernel
theorem d_Model_layOut_215 : decode b_Model_layOut 215 = .ok (.iinc 3 1, 3) := by decide +kernel
theorem d_Model_layOut_218 : decode b_Model_layOut 218 = .ok (.goto (-170), 3) := by decide +kernel
theorem d_Model_layOut_221 : decode b_Model_layOut 221 = .ok (.return_, 1) := by decide +kernel
theorem d_Model_pages_0 : decode b_Model_pages 0 = .ok (.aload_n 0, 1) := by decide +kernel
theorem d_Model_pages_1 : decode b_Model_pages 1 = .ok (.iconst 0, 1) := by decide +kernel
theorem d_Model_pages_2 : decode b_Model_pages 2 = .ok (.putfield 63, 3) := by decide +kernel
theorem d_Model_pages_5 : decode b_Model_pages 5 = .ok (.aload_n 0, 1) := by decide +kernel
theorem d_Model_pages_6 : decode b_Model_pages 6 = .ok (.iconst 0, 1) := by decide +kernel
theorem d_Model_pages_7 : decode b_Model_pages 7 = .ok (.iconst 0, 1) := by decide +kernel
theorem d_Model_pages_8 : decode b_Model_pages 8 = .ok (.invokevirtual 200, 3) := by decide +kernel
theorem d_Model_pages_11 : decode b_Model_pages 11 = .ok (.aload_n 0, 1) := by decide +kernel
theorem d_Model_pages_12 : decode b_Model_pages 12 = .ok (.getfield 182, 3) := by decide +kernel
theorem d_Model_pages_15 : decode b_Model_pages 15 = .ok (.ireturn, 1) := by decide +kernel
theorem d_Model_number_0 : decode b_Model_number 0 = .ok (.aload_n 0, 1) := by decide +kernel
theorem d_Model_number_1 : decode b_Model_number 1 = .ok (.getfield 57, 3) := by decide +kernel
theorem d_Model_number_4 : decode b_Model_number 4 = .ok (.iconst 1, 1) := by decide +kernel
theorem d_Model_number_5 : decode b_Model_number 5 = .ok (.isub, 1) := by decide +kernel
theorem d_Model_number_6 : decode b_Model_number 6 = .ok (.istore_n 2, 1) := by decide +kernel
theorem d_Model_number_7 : decode b_Model_number 7 = .ok (.iload_n 1, 1) := by decide +kernel
theorem d_Model_number_8 : decode b_Model_number 8 = .ok (.istore_n 3, 1) := by decide +kernel
theorem d_Model_number_9 : decode b_Model_number 9 = .ok (.iload_n 3, 1) := by decide +kernel
theorem d_Model_number_10 : decode b_Model_number 10 = .ok (.ifCond .le 28, 3) := by decide +kernel
theorem d_Model_number_13 : decode b_Model_number 13 = .ok (.aload_n 0, 1) := by decide +kernel
theorem d_Model_number_14 : decode b_Model_number 14 = .ok (.getfield 51, 3) := by decide +kernel
theorem d_Model_number_17 : decode b_Model_number 17 = .ok (.iload_n 2, 1) := by decide +kernel
theorem d_Model_number_18 : decode b_Model_number 18 = .ok (.aload_n 0, 1) := by decide +kernel
theorem d_Model_number_19 : decode b_Model_number 19 = .ok (.iload_n 3, 1) := by decide +kernel
theorem d_Model_number_20 : decode b_Model_number 20 = .ok (.bipush 10, 2) := by decide +kernel
theorem d_Model_number_22 : decode b_Model_number 22 = .ok (.irem, 1) := by decide +kernel
theorem d_Model_number_23 : decode b_Model_number 23 = .ok (.invokevirtual 128, 3) := by decide +kernel
theorem d_Model_number_26 : decode b_Model_number 26 = .ok (.iastore, 1) := by decide +kernel
theorem d_Model_number_27 : decode b_Model_number 27 = .ok (.iload_n 3, 1) := by decide +kernel
theorem d_Model_number_28 : decode b_Model_number 28 = .ok (.bipush 10, 2) := by decide +kernel
theorem d_Model_number_30 : decode b_Model_number 30 = .ok (.idiv, 1) := by decide +kernel
theorem d_Model_number_31 : decode b_Model_number 31 = .ok (.istore_n 3, 1) := by decide +kernel
theorem d_Model_number_32 : decode b_Model_number 32 = .ok (.iinc 2 (-1), 3) := by decide +kernel
theorem d_Model_number_35 : decode b_Model_number 35 = .ok (.goto (-26), 3) := by decide +kernel
theorem d_Model_number_38 : decode b_Model_number 38 = .ok (.aload_n 0, 1) := by decide +kernel
theorem d_Model_number_39 : decode b_Model_number 39 = .ok (.getfield 51, 3) := by decide +kernel
theorem d_Model_number_42 : decode b_Model_number 42 = .ok (.iload_n 2, 1) := by decide +kernel
theorem d_Model_number_43 : decode b_Model_number 43 = .ok (.bipush 60, 2) := by decide +kernel
theorem d_Model_number_45 : decode b_Model_number 45 = .ok (.iastore, 1) := by decide +kernel
theorem d_Model_number_46 : decode b_Model_number 46 = .ok (.return_, 1) := by decide +kernel
theorem d_Model_at_0 : decode b_Model_at 0 = .ok (.aload_n 0, 1) := by decide +kernel
theorem d_Model_at_1 : decode b_Model_at 1 = .ok (.iload_n 1, 1) := by decide +kernel
theorem d_Model_at_2 : decode b_Model_at 2 = .ok (.iload_n 2, 1) := by decide +kernel
theorem d_Model_at_3 : decode b_Model_at 3 = .ok (.invokevirtual 200, 3) := by decide +kernel
theorem d_Model_at_6 : decode b_Model_at 6 = .ok (.aload_n 0, 1) := by decide +kernel
theorem d_Model_at_7 : decode b_Model_at 7 = .ok (.iload_n 1, 1) := by decide +kernel
theorem d_Model_at_8 : decode b_Model_at 8 = .ok (.iconst 1, 1) := by decide +kernel
theorem d_Model_at_9 : decode b_Model_at 9 = .ok (.if_icmp .lt 35, 3) := by decide +kernel
theorem d_Model_at_12 : decode b_Model_at 12 = .ok (.iload_n 1, 1) := by decide +kernel
theorem d_Model_at_13 : decode b_Model_at 13 = .ok (.aload_n 0, 1) := by decide +kernel
theorem d_Model_at_14 : decode b_Model_at 14 = .ok (.getfield 182, 3) := by decide +kernel
theorem d_Model_at_17 : decode b_Model_at 17 = .ok (.if_icmp .gt 27, 3) := by decide +kernel
theorem d_Model_at_20 : decode b_Model_at 20 = .ok (.iload_n 2, 1) := by decide +kernel
theorem d_Model_at_21 : decode b_Model_at 21 = .ok (.ifCond .lt 23, 3) := by decide +kernel
theorem d_Model_at_24 : decode b_Model_at 24 = .ok (.iload_n 2, 1) := by decide +kernel
theorem d_Model_at_25 : decode b_Model_at 25 = .ok (.aload_n 0, 1) := by decide +kernel
theorem d_Model_at_26 : decode b_Model_at 26 = .ok (.getfield 60, 3) := by decide +kernel
theorem d_Model_at_29 : decode b_Model_at 29 = .ok (.if_icmp .ge 15, 3) := by decide +kernel
theorem d_Model_at_32 : decode b_Model_at 32 = .ok (.iload_n 3, 1) := by decide +kernel
theorem d_Model_at_33 : decode b_Model_at 33 = .ok (.ifCond .lt 11, 3) := by decide +kernel
theorem d_Model_at_36 : decode b_Model_at 36 = .ok (.iload_n 3, 1) := by decide +kernel
theorem d_Model_at_37 : decode b_Model_at 37 = .ok (.aload_n 0, 1) := by decide +kernel
theorem d_Model_at_38 : decode b_Model_at 38 = .ok (.getfield 57, 3) := by decide +kernel
theorem d_Model_at_41 : decode b_Model_at 41 = .ok (.if_icmp .lt 7, 3) := by decide +kernel
theorem d_Model_at_44 : decode b_Model_at 44 = .ok (.iconst 1, 1) := by decide +kernel
theorem d_Model_at_45 : decode b_Model_at 45 = .ok (.goto 4, 3) := by decide +kernel
theorem d_Model_at_48 : decode b_Model_at 48 = .ok (.iconst 0, 1) := by decide +kernel
theorem d_Model_at_49 : decode b_Model_at 49 = .ok (.putfield 63, 3) := by decide +kernel
theorem d_Model_at_52 : decode b_Model_at 52 = .ok (.aload_n 0, 1) := by decide +kernel
theorem d_Model_at_53 : decode b_Model_at 53 = .ok (.getfield 63, 3) := by decide +kernel
theorem d_Model_at_56 : decode b_Model_at 56 = .ok (.ifCond .eq 5, 3) := by decide +kernel
theorem d_Model_at_59 : decode b_Model_at 59 = .ok (.iconst 0, 1) := by decide +kernel
theorem d_Model_at_60 : decode b_Model_at 60 = .ok (.ireturn, 1) := by decide +kernel
theorem d_Model_at_61 : decode b_Model_at 61 = .ok (.iload_n 2, 1) := by decide +kernel
theorem d_Model_at_62 : decode b_Model_at 62 = .ok (.aload_n 0, 1) := by decide +kernel
theorem d_Model_at_63 : decode b_Model_at 63 = .ok (.getfield 60, 3) := by decide +kernel
theorem d_Model_at_66 : decode b_Model_at 66 = .ok (.iconst 1, 1) := by decide +kernel
theorem d_Model_at_67 : decode b_Model_at 67 = .ok (.isub, 1) := by decide +kernel
theorem d_Model_at_68 : decode b_Model_at 68 = .ok (.if_icmp .ne 8, 3) := by decide +kernel
theorem d_Model_at_71 : decode b_Model_at 71 = .ok (.aload_n 0, 1) := by decide +kernel
theorem d_Model_at_72 : decode b_Model_at 72 = .ok (.iload_n 1, 1) := by decide +kernel
theorem d_Model_at_73 : decode b_Model_at 73 = .ok (.invokevirtual 203, 3) := by decide +kernel
theorem d_Model_at_76 : decode b_Model_at 76 = .ok (.aload_n 0, 1) := by decide +kernel
theorem d_Model_at_77 : decode b_Model_at 77 = .ok (.getfield 51, 3) := by decide +kernel
theorem d_Model_at_80 : decode b_Model_at 80 = .ok (.iload_n 3, 1) := by decide +kernel
theorem d_Model_at_81 : decode b_Model_at 81 = .ok (.iaload, 1) := by decide +kernel
theorem d_Model_at_82 : decode b_Model_at 82 = .ok (.ireturn, 1) := by decide +kernel
theorem d_Model_where_0 : decode b_Model_where 0 = .ok (.aload_n 0, 1) := by decide +kernel
theorem d_Model_where_1 : decode b_Model_where 1 = .ok (.aload_n 0, 1) := by decide +kernel
theorem d_Model_where_2 : decode b_Model_where 2 = .ok (.iload_n 1, 1) := by decide +kernel
theorem d_Model_where_3 : decode b_Model_where 3 = .ok (.invokevirtual 135, 3) := by decide +kernel
theorem d_Model_where_6 : decode b_Model_where 6 = .ok (.ifCond .eq 7, 3) := by decide +kernel
theorem d_Model_where_9 : decode b_Model_where 9 = .ok (.iconst 1, 1) := by decide +kernel
theorem d_Model_where_10 : decode b_Model_where 10 = .ok (.goto 4, 3) := by decide +kernel
theorem d_Model_where_13 : decode b_Model_where 13 = .ok (.iconst 0, 1) := by decide +kernel
theorem d_Model_where_14 : decode b_Model_where 14 = .ok (.putfield 63, 3) := by decide +kernel
theorem d_Model_where_17 : decode b_Model_where 17 = .ok (.aload_n 0, 1) := by decide +kernel
theorem d_Model_where_18 : decode b_Model_where 18 = .ok (.getfield 63, 3) := by decide +kernel
theorem d_Model_where_21 : decode b_Model_where 21 = .ok (.ifCond .eq 5, 3) := by decide +kernel
theorem d_Model_where_24 : decode b_Model_where 24 = .ok (.iconst 0, 1) := by decide +kernel
theorem d_Model_where_25 : decode b_Model_where 25 = .ok (.ireturn, 1) := by decide +kernel
theorem d_Model_where_26 : decode b_Model_where 26 = .ok (.aload_n 0, 1) := by decide +kernel
theorem d_Model_where_27 : decode b_Model_where 27 = .ok (.iconst 0, 1) := by decide +kernel
theorem d_Model_where_28 : decode b_Model_where 28 = .ok (.iconst 0, 1) := by decide +kernel
theorem d_Model_where_29 : decode b_Model_where 29 = .ok (.invokevirtual 200, 3) := by decide +kernel
theorem d_Model_where_32 : decode b_Model_where 32 = .ok (.aload_n 0, 1) := by decide +kernel
theorem d_Model_where_33 : decode b_Model_where 33 = .ok (.getfield 54, 3) := by decide +kernel
theorem d_Model_where_36 : decode b_Model_where 36 = .ok (.iload_n 1, 1) := by decide +kernel
theorem d_Model_where_37 : decode b_Model_where 37 = .ok (.iaload, 1) := by decide +kernel
theorem d_Model_where_38 : decode b_Model_where 38 = .ok (.ireturn, 1) := by decide +kernel
theorem d_Model_heading_0 : decode b_Model_heading 0 = .ok (.aload_n 0, 1) := by decide +kernel
theorem d_Model_heading_1 : decode b_Model_heading 1 = .ok (.iconst 0, 1) := by decide +kernel
theorem d_Model_heading_2 : decode b_Model_heading 2 = .ok (.putfield 63, 3) := by decide +kernel
theorem d_Model_heading_5 : decode b_Model_heading 5 = .ok (.aload_n 0, 1) := by decide +kernel
theorem d_Model_heading_6 : decode b_Model_heading 6 = .ok (.iconst 0, 1) := by decide +kernel
theorem d_Model_heading_7 : decode b_Model_heading 7 = .ok (.iconst 0, 1) := by decide +kernel
theorem d_Model_heading_8 : decode b_Model_heading 8 = .ok (.invokevirtual 200, 3) := by decide +kernel
theorem d_Model_heading_11 : decode b_Model_heading 11 = .ok (.iload_n 1, 1) := by decide +kernel
theorem d_Model_heading_12 : decode b_Model_heading 12 = .ok (.istore_n 2, 1) := by decide +kernel
theorem d_Model_heading_13 : decode b_Model_heading 13 = .ok (.iconst 0, 1) := by decide +kernel
theorem d_Model_heading_14 : decode b_Model_heading 14 = .ok (.istore_n 3, 1) := by decide +kernel
theorem d_Model_heading_15 : decode b_Model_heading 15 = .ok (.iload_n 3, 1) := by decide +kernel
theorem d_Model_heading_16 : decode b_Model_heading 16 = .ok (.aload_n 0, 1) := by decide +kernel
theorem d_Model_heading_17 : decode b_Model_heading 17 = .ok (.getfield 100, 3) := by decide +kernel
theorem d_Model_heading_20 : decode b_Model_heading 20 = .ok (.if_icmp .ge 41, 3) := by decide +kernel
theorem d_Model_heading_23 : decode b_Model_heading 23 = .ok (.iload_n 1, 1) := by decide +kernel
theorem d_Model_heading_24 : decode b_Model_heading 24 = .ok (.ifCond .lt 37, 3) := by decide +kernel
theorem d_Model_heading_27 : decode b_Model_heading 27 = .ok (.aload_n 0, 1) := by decide +kernel
theorem d_Model_heading_28 : decode b_Model_heading 28 = .ok (.getfield 33, 3) := by decide +kernel
theorem d_Model_heading_31 : decode b_Model_heading 31 = .ok (.iload_n 3, 1) := by decide +kernel
theorem d_Model_heading_32 : decode b_Model_heading 32 = .ok (.iaload, 1) := by decide +kernel
theorem d_Model_heading_33 : decode b_Model_heading 33 = .ok (.iconst 1, 1) := by decide +kernel
theorem d_Model_heading_34 : decode b_Model_heading 34 = .ok (.if_icmp .ne 21, 3) := by decide +kernel
theorem d_Model_heading_37 : decode b_Model_heading 37 = .ok (.aload_n 0, 1) := by decide +kernel
theorem d_Model_heading_38 : decode b_Model_heading 38 = .ok (.getfield 54, 3) := by decide +kernel
theorem d_Model_heading_41 : decode b_Model_heading 41 = .ok (.iload_n 3, 1) := by decide +kernel
theorem d_Model_heading_42 : decode b_Model_heading 42 = .ok (.iaload, 1) := by decide +kernel
theorem d_Model_heading_43 : decode b_Model_heading 43 = .ok (.ifCond .lt 12, 3) := by decide +kernel
theorem d_Model_heading_46 : decode b_Model_heading 46 = .ok (.iload_n 2, 1) := by decide +kernel
theorem d_Model_heading_47 : decode b_Model_heading 47 = .ok (.ifCond .ne 5, 3) := by decide +kernel
theorem d_Model_heading_50 : decode b_Model_heading 50 = .ok (.iload_n 3, 1) := by decide +kernel
theorem d_Model_heading_51 : decode b_Model_heading 51 = .ok (.ireturn, 1) := by decide +kernel
theorem d_Model_heading_52 : decode b_Model_heading 52 = .ok (.iinc 2 (-1), 3) := by decide +kernel
theorem d_Model_heading_55 : decode b_Model_heading 55 = .ok (.iinc 3 1, 3) := by decide +kernel
theorem d_Model_heading_58 : decode b_Model_heading 58 = .ok (.goto (-43), 3) := by decide +kernel
theorem d_Model_heading_61 : decode b_Model_heading 61 = .ok (.iconst (-1), 1) := by decide +kernel
theorem d_Model_heading_62 : decode b_Model_heading 62 = .ok (.ireturn, 1) := by decide +kernel
theorem d_Model_clear_0 : decode b_Model_clear 0 = .ok (.aload_n 0, 1) := by decide +kernel
theorem d_Model_clear_1 : decode b_Model_clear 1 = .ok (.iconst 0, 1) := by decide +kernel
theorem d_Model_clear_2 : decode b_Model_clear 2 = .ok (.putfield 63, 3) := by decide +kernel
theorem d_Model_clear_5 : decode b_Model_clear 5 = .ok (.aload_n 0, 1) := by decide +kernel
theorem d_Model_clear_6 : decode b_Model_clear 6 = .ok (.iconst 0, 1) := by decide +kernel
theorem d_Model_clear_7 : decode b_Model_clear 7 = .ok (.putfield 100, 3) := by decide +kernel
theorem d_Model_clear_10 : decode b_Model_clear 10 = .ok (.return_, 1) := by decide +kernel

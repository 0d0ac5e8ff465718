/-! decode rows of 26.model1 (by program) -/
theorem d_Model_byteAt_0 : decode M_Model_byteAt.2.1 0 = .ok (.iload_n 1, 1) := by decide +kernel
theorem d_Model_byteAt_1 : decode M_Model_byteAt.2.1 1 = .ok (.aload_n 0, 1) := by decide +kernel
theorem d_Model_byteAt_2 : decode M_Model_byteAt.2.1 2 = .ok (.getfield 129, 3) := by decide +kernel
theorem d_Model_byteAt_5 : decode M_Model_byteAt.2.1 5 = .ok (.if_icmp .ge 12, 3) := by decide +kernel
theorem d_Model_byteAt_8 : decode M_Model_byteAt.2.1 8 = .ok (.aload_n 0, 1) := by decide +kernel
theorem d_Model_byteAt_9 : decode M_Model_byteAt.2.1 9 = .ok (.getfield 71, 3) := by decide +kernel
theorem d_Model_byteAt_12 : decode M_Model_byteAt.2.1 12 = .ok (.iload_n 1, 1) := by decide +kernel
theorem d_Model_byteAt_13 : decode M_Model_byteAt.2.1 13 = .ok (.iaload, 1) := by decide +kernel
theorem d_Model_byteAt_14 : decode M_Model_byteAt.2.1 14 = .ok (.goto 4, 3) := by decide +kernel
theorem d_Model_byteAt_17 : decode M_Model_byteAt.2.1 17 = .ok (.iconst (-1), 1) := by decide +kernel
theorem d_Model_byteAt_18 : decode M_Model_byteAt.2.1 18 = .ok (.ireturn, 1) := by decide +kernel
theorem d_Model_isLetter_0 : decode M_Model_isLetter.2.1 0 = .ok (.iload_n 0, 1) := by decide +kernel
theorem d_Model_isLetter_1 : decode M_Model_isLetter.2.1 1 = .ok (.bipush 97, 2) := by decide +kernel
theorem d_Model_isLetter_3 : decode M_Model_isLetter.2.1 3 = .ok (.if_icmp .lt 13, 3) := by decide +kernel
theorem d_Model_isLetter_6 : decode M_Model_isLetter.2.1 6 = .ok (.iload_n 0, 1) := by decide +kernel
theorem d_Model_isLetter_7 : decode M_Model_isLetter.2.1 7 = .ok (.bipush 122, 2) := by decide +kernel
theorem d_Model_isLetter_9 : decode M_Model_isLetter.2.1 9 = .ok (.if_icmp .gt 7, 3) := by decide +kernel
theorem d_Model_isLetter_12 : decode M_Model_isLetter.2.1 12 = .ok (.iconst 1, 1) := by decide +kernel
theorem d_Model_isLetter_13 : decode M_Model_isLetter.2.1 13 = .ok (.goto 4, 3) := by decide +kernel
theorem d_Model_isLetter_16 : decode M_Model_isLetter.2.1 16 = .ok (.iconst 0, 1) := by decide +kernel
theorem d_Model_isLetter_17 : decode M_Model_isLetter.2.1 17 = .ok (.ireturn, 1) := by decide +kernel
theorem d_Model_isDigit_0 : decode M_Model_isDigit.2.1 0 = .ok (.iload_n 0, 1) := by decide +kernel
theorem d_Model_isDigit_1 : decode M_Model_isDigit.2.1 1 = .ok (.bipush 48, 2) := by decide +kernel
theorem d_Model_isDigit_3 : decode M_Model_isDigit.2.1 3 = .ok (.if_icmp .lt 13, 3) := by decide +kernel
theorem d_Model_isDigit_6 : decode M_Model_isDigit.2.1 6 = .ok (.iload_n 0, 1) := by decide +kernel
theorem d_Model_isDigit_7 : decode M_Model_isDigit.2.1 7 = .ok (.bipush 57, 2) := by decide +kernel
theorem d_Model_isDigit_9 : decode M_Model_isDigit.2.1 9 = .ok (.if_icmp .gt 7, 3) := by decide +kernel
theorem d_Model_isDigit_12 : decode M_Model_isDigit.2.1 12 = .ok (.iconst 1, 1) := by decide +kernel
theorem d_Model_isDigit_13 : decode M_Model_isDigit.2.1 13 = .ok (.goto 4, 3) := by decide +kernel
theorem d_Model_isDigit_16 : decode M_Model_isDigit.2.1 16 = .ok (.iconst 0, 1) := by decide +kernel
theorem d_Model_isDigit_17 : decode M_Model_isDigit.2.1 17 = .ok (.ireturn, 1) := by decide +kernel
theorem d_Model_isMark_0 : decode M_Model_isMark.2.1 0 = .ok (.iload_n 0, 1) := by decide +kernel
theorem d_Model_isMark_1 : decode M_Model_isMark.2.1 1 = .ok (.bipush 59, 2) := by decide +kernel
theorem d_Model_isMark_3 : decode M_Model_isMark.2.1 3 = .ok (.if_icmp .eq 51, 3) := by decide +kernel
theorem d_Model_isMark_6 : decode M_Model_isMark.2.1 6 = .ok (.iload_n 0, 1) := by decide +kernel
theorem d_Model_isMark_7 : decode M_Model_isMark.2.1 7 = .ok (.bipush 40, 2) := by decide +kernel
theorem d_Model_isMark_9 : decode M_Model_isMark.2.1 9 = .ok (.if_icmp .eq 45, 3) := by decide +kernel
theorem d_Model_isMark_12 : decode M_Model_isMark.2.1 12 = .ok (.iload_n 0, 1) := by decide +kernel
theorem d_Model_isMark_13 : decode M_Model_isMark.2.1 13 = .ok (.bipush 41, 2) := by decide +kernel
theorem d_Model_isMark_15 : decode M_Model_isMark.2.1 15 = .ok (.if_icmp .eq 39, 3) := by decide +kernel
theorem d_Model_isMark_18 : decode M_Model_isMark.2.1 18 = .ok (.iload_n 0, 1) := by decide +kernel
theorem d_Model_isMark_19 : decode M_Model_isMark.2.1 19 = .ok (.bipush 43, 2) := by decide +kernel
theorem d_Model_isMark_21 : decode M_Model_isMark.2.1 21 = .ok (.if_icmp .eq 33, 3) := by decide +kernel
theorem d_Model_isMark_24 : decode M_Model_isMark.2.1 24 = .ok (.iload_n 0, 1) := by decide +kernel
theorem d_Model_isMark_25 : decode M_Model_isMark.2.1 25 = .ok (.bipush 45, 2) := by decide +kernel
theorem d_Model_isMark_27 : decode M_Model_isMark.2.1 27 = .ok (.if_icmp .eq 27, 3) := by decide +kernel
theorem d_Model_isMark_30 : decode M_Model_isMark.2.1 30 = .ok (.iload_n 0, 1) := by decide +kernel
theorem d_Model_isMark_31 : decode M_Model_isMark.2.1 31 = .ok (.bipush 42, 2) := by decide +kernel
theorem d_Model_isMark_33 : decode M_Model_isMark.2.1 33 = .ok (.if_icmp .eq 21, 3) := by decide +kernel
theorem d_Model_isMark_36 : decode M_Model_isMark.2.1 36 = .ok (.iload_n 0, 1) := by decide +kernel
theorem d_Model_isMark_37 : decode M_Model_isMark.2.1 37 = .ok (.bipush 47, 2) := by decide +kernel
theorem d_Model_isMark_39 : decode M_Model_isMark.2.1 39 = .ok (.if_icmp .eq 15, 3) := by decide +kernel
theorem d_Model_isMark_42 : decode M_Model_isMark.2.1 42 = .ok (.iload_n 0, 1) := by decide +kernel
theorem d_Model_isMark_43 : decode M_Model_isMark.2.1 43 = .ok (.bipush 60, 2) := by decide +kernel
theorem d_Model_isMark_45 : decode M_Model_isMark.2.1 45 = .ok (.if_icmp .eq 9, 3) := by decide +kernel
theorem d_Model_isMark_48 : decode M_Model_isMark.2.1 48 = .ok (.iload_n 0, 1) := by decide +kernel
theorem d_Model_isMark_49 : decode M_Model_isMark.2.1 49 = .ok (.bipush 61, 2) := by decide +kernel
theorem d_Model_isMark_51 : decode M_Model_isMark.2.1 51 = .ok (.if_icmp .ne 7, 3) := by decide +kernel
theorem d_Model_isMark_54 : decode M_Model_isMark.2.1 54 = .ok (.iconst 1, 1) := by decide +kernel
theorem d_Model_isMark_55 : decode M_Model_isMark.2.1 55 = .ok (.goto 4, 3) := by decide +kernel
theorem d_Model_isMark_58 : decode M_Model_isMark.2.1 58 = .ok (.iconst 0, 1) := by decide +kernel
theorem d_Model_isMark_59 : decode M_Model_isMark.2.1 59 = .ok (.ireturn, 1) := by decide +kernel
theorem d_Model_stepOn_0 : decode M_Model_stepOn.2.1 0 = .ok (.aload_n 0, 1) := by decide +kernel
theorem d_Model_stepOn_1 : decode M_Model_stepOn.2.1 1 = .ok (.aload_n 0, 1) := by decide +kernel
theorem d_Model_stepOn_2 : decode M_Model_stepOn.2.1 2 = .ok (.getfield 132, 3) := by decide +kernel
theorem d_Model_stepOn_5 : decode M_Model_stepOn.2.1 5 = .ok (.invokevirtual 135, 3) := by decide +kernel
theorem d_Model_stepOn_8 : decode M_Model_stepOn.2.1 8 = .ok (.bipush 32, 2) := by decide +kernel
theorem d_Model_stepOn_10 : decode M_Model_stepOn.2.1 10 = .ok (.if_icmp .eq 16, 3) := by decide +kernel
theorem d_Model_stepOn_13 : decode M_Model_stepOn.2.1 13 = .ok (.aload_n 0, 1) := by decide +kernel
theorem d_Model_stepOn_14 : decode M_Model_stepOn.2.1 14 = .ok (.aload_n 0, 1) := by decide +kernel
theorem d_Model_stepOn_15 : decode M_Model_stepOn.2.1 15 = .ok (.getfield 132, 3) := by decide +kernel
theorem d_Model_stepOn_18 : decode M_Model_stepOn.2.1 18 = .ok (.invokevirtual 135, 3) := by decide +kernel
theorem d_Model_stepOn_21 : decode M_Model_stepOn.2.1 21 = .ok (.bipush 10, 2) := by decide +kernel
theorem d_Model_stepOn_23 : decode M_Model_stepOn.2.1 23 = .ok (.if_icmp .ne 16, 3) := by decide +kernel
theorem d_Model_stepOn_26 : decode M_Model_stepOn.2.1 26 = .ok (.aload_n 0, 1) := by decide +kernel
theorem d_Model_stepOn_27 : decode M_Model_stepOn.2.1 27 = .ok (.dup, 1) := by decide +kernel
theorem d_Model_stepOn_28 : decode M_Model_stepOn.2.1 28 = .ok (.getfield 132, 3) := by decide +kernel
theorem d_Model_stepOn_31 : decode M_Model_stepOn.2.1 31 = .ok (.iconst 1, 1) := by decide +kernel
theorem d_Model_stepOn_32 : decode M_Model_stepOn.2.1 32 = .ok (.iadd, 1) := by decide +kernel
theorem d_Model_stepOn_33 : decode M_Model_stepOn.2.1 33 = .ok (.putfield 132, 3) := by decide +kernel
theorem d_Model_stepOn_36 : decode M_Model_stepOn.2.1 36 = .ok (.goto (-36), 3) := by decide +kernel
theorem d_Model_stepOn_39 : decode M_Model_stepOn.2.1 39 = .ok (.aload_n 0, 1) := by decide +kernel
theorem d_Model_stepOn_40 : decode M_Model_stepOn.2.1 40 = .ok (.aload_n 0, 1) := by decide +kernel
theorem d_Model_stepOn_41 : decode M_Model_stepOn.2.1 41 = .ok (.getfield 132, 3) := by decide +kernel
theorem d_Model_stepOn_44 : decode M_Model_stepOn.2.1 44 = .ok (.putfield 139, 3) := by decide +kernel
theorem d_Model_stepOn_47 : decode M_Model_stepOn.2.1 47 = .ok (.aload_n 0, 1) := by decide +kernel
theorem d_Model_stepOn_48 : decode M_Model_stepOn.2.1 48 = .ok (.aload_n 0, 1) := by decide +kernel
theorem d_Model_stepOn_49 : decode M_Model_stepOn.2.1 49 = .ok (.getfield 132, 3) := by decide +kernel
theorem d_Model_stepOn_52 : decode M_Model_stepOn.2.1 52 = .ok (.invokevirtual 135, 3) := by decide +kernel
theorem d_Model_stepOn_55 : decode M_Model_stepOn.2.1 55 = .ok (.istore_n 1, 1) := by decide +kernel
theorem d_Model_stepOn_56 : decode M_Model_stepOn.2.1 56 = .ok (.iload_n 1, 1) := by decide +kernel
theorem d_Model_stepOn_57 : decode M_Model_stepOn.2.1 57 = .ok (.iconst (-1), 1) := by decide +kernel
theorem d_Model_stepOn_58 : decode M_Model_stepOn.2.1 58 = .ok (.if_icmp .ne 11, 3) := by decide +kernel
theorem d_Model_stepOn_61 : decode M_Model_stepOn.2.1 61 = .ok (.aload_n 0, 1) := by decide +kernel
theorem d_Model_stepOn_62 : decode M_Model_stepOn.2.1 62 = .ok (.iconst 0, 1) := by decide +kernel
theorem d_Model_stepOn_63 : decode M_Model_stepOn.2.1 63 = .ok (.putfield 142, 3) := by decide +kernel
theorem d_Model_stepOn_66 : decode M_Model_stepOn.2.1 66 = .ok (.goto 146, 3) := by decide +kernel
theorem d_Model_stepOn_69 : decode M_Model_stepOn.2.1 69 = .ok (.iload_n 1, 1) := by decide +kernel
theorem d_Model_stepOn_70 : decode M_Model_stepOn.2.1 70 = .ok (.invokestatic 145, 3) := by decide +kernel
theorem d_Model_stepOn_73 : decode M_Model_stepOn.2.1 73 = .ok (.ifCond .eq 38, 3) := by decide +kernel
theorem d_Model_stepOn_76 : decode M_Model_stepOn.2.1 76 = .ok (.aload_n 0, 1) := by decide +kernel
theorem d_Model_stepOn_77 : decode M_Model_stepOn.2.1 77 = .ok (.aload_n 0, 1) := by decide +kernel
theorem d_Model_stepOn_78 : decode M_Model_stepOn.2.1 78 = .ok (.getfield 132, 3) := by decide +kernel
theorem d_Model_stepOn_81 : decode M_Model_stepOn.2.1 81 = .ok (.invokevirtual 135, 3) := by decide +kernel
theorem d_Model_stepOn_84 : decode M_Model_stepOn.2.1 84 = .ok (.invokestatic 145, 3) := by decide +kernel
theorem d_Model_stepOn_87 : decode M_Model_stepOn.2.1 87 = .ok (.ifCond .eq 16, 3) := by decide +kernel
theorem d_Model_stepOn_90 : decode M_Model_stepOn.2.1 90 = .ok (.aload_n 0, 1) := by decide +kernel
theorem d_Model_stepOn_91 : decode M_Model_stepOn.2.1 91 = .ok (.dup, 1) := by decide +kernel
theorem d_Model_stepOn_92 : decode M_Model_stepOn.2.1 92 = .ok (.getfield 132, 3) := by decide +kernel
theorem d_Model_stepOn_95 : decode M_Model_stepOn.2.1 95 = .ok (.iconst 1, 1) := by decide +kernel
theorem d_Model_stepOn_96 : decode M_Model_stepOn.2.1 96 = .ok (.iadd, 1) := by decide +kernel
theorem d_Model_stepOn_97 : decode M_Model_stepOn.2.1 97 = .ok (.putfield 132, 3) := by decide +kernel
theorem d_Model_stepOn_100 : decode M_Model_stepOn.2.1 100 = .ok (.goto (-24), 3) := by decide +kernel
theorem d_Model_stepOn_103 : decode M_Model_stepOn.2.1 103 = .ok (.aload_n 0, 1) := by decide +kernel
theorem d_Model_stepOn_104 : decode M_Model_stepOn.2.1 104 = .ok (.iconst 1, 1) := by decide +kernel
theorem d_Model_stepOn_105 : decode M_Model_stepOn.2.1 105 = .ok (.putfield 142, 3) := by decide +kernel
theorem d_Model_stepOn_108 : decode M_Model_stepOn.2.1 108 = .ok (.goto 104, 3) := by decide +kernel
theorem d_Model_stepOn_111 : decode M_Model_stepOn.2.1 111 = .ok (.iload_n 1, 1) := by decide +kernel
theorem d_Model_stepOn_112 : decode M_Model_stepOn.2.1 112 = .ok (.invokestatic 149, 3) := by decide +kernel
theorem d_Model_stepOn_115 : decode M_Model_stepOn.2.1 115 = .ok (.ifCond .eq 71, 3) := by decide +kernel
theorem d_Model_stepOn_118 : decode M_Model_stepOn.2.1 118 = .ok (.aload_n 0, 1) := by decide +kernel
theorem d_Model_stepOn_119 : decode M_Model_stepOn.2.1 119 = .ok (.iconst 0, 1) := by decide +kernel
theorem d_Model_stepOn_120 : decode M_Model_stepOn.2.1 120 = .ok (.putfield 152, 3) := by decide +kernel
theorem d_Model_stepOn_123 : decode M_Model_stepOn.2.1 123 = .ok (.aload_n 0, 1) := by decide +kernel
theorem d_Model_stepOn_124 : decode M_Model_stepOn.2.1 124 = .ok (.aload_n 0, 1) := by decide +kernel
theorem d_Model_stepOn_125 : decode M_Model_stepOn.2.1 125 = .ok (.getfield 132, 3) := by decide +kernel
theorem d_Model_stepOn_128 : decode M_Model_stepOn.2.1 128 = .ok (.invokevirtual 135, 3) := by decide +kernel
theorem d_Model_stepOn_131 : decode M_Model_stepOn.2.1 131 = .ok (.invokestatic 149, 3) := by decide +kernel
theorem d_Model_stepOn_134 : decode M_Model_stepOn.2.1 134 = .ok (.ifCond .eq 44, 3) := by decide +kernel
theorem d_Model_stepOn_137 : decode M_Model_stepOn.2.1 137 = .ok (.aload_n 0, 1) := by decide +kernel
theorem d_Model_stepOn_138 : decode M_Model_stepOn.2.1 138 = .ok (.ldc 155, 2) := by decide +kernel
theorem d_Model_stepOn_140 : decode M_Model_stepOn.2.1 140 = .ok (.bipush 10, 2) := by decide +kernel
theorem d_Model_stepOn_142 : decode M_Model_stepOn.2.1 142 = .ok (.aload_n 0, 1) := by decide +kernel
theorem d_Model_stepOn_143 : decode M_Model_stepOn.2.1 143 = .ok (.getfield 152, 3) := by decide +kernel
theorem d_Model_stepOn_146 : decode M_Model_stepOn.2.1 146 = .ok (.imul, 1) := by decide +kernel
theorem d_Model_stepOn_147 : decode M_Model_stepOn.2.1 147 = .ok (.aload_n 0, 1) := by decide +kernel
theorem d_Model_stepOn_148 : decode M_Model_stepOn.2.1 148 = .ok (.aload_n 0, 1) := by decide +kernel
theorem d_Model_stepOn_149 : decode M_Model_stepOn.2.1 149 = .ok (.getfield 132, 3) := by decide +kernel
theorem d_Model_stepOn_152 : decode M_Model_stepOn.2.1 152 = .ok (.invokevirtual 135, 3) := by decide +kernel
theorem d_Model_stepOn_155 : decode M_Model_stepOn.2.1 155 = .ok (.iadd, 1) := by decide +kernel
theorem d_Model_stepOn_156 : decode M_Model_stepOn.2.1 156 = .ok (.bipush 48, 2) := by decide +kernel
theorem d_Model_stepOn_158 : decode M_Model_stepOn.2.1 158 = .ok (.isub, 1) := by decide +kernel
theorem d_Model_stepOn_159 : decode M_Model_stepOn.2.1 159 = .ok (.invokestatic 156, 3) := by decide +kernel
theorem d_Model_stepOn_162 : decode M_Model_stepOn.2.1 162 = .ok (.putfield 152, 3) := by decide +kernel
theorem d_Model_stepOn_165 : decode M_Model_stepOn.2.1 165 = .ok (.aload_n 0, 1) := by decide +kernel
theorem d_Model_stepOn_166 : decode M_Model_stepOn.2.1 166 = .ok (.dup, 1) := by decide +kernel
theorem d_Model_stepOn_167 : decode M_Model_stepOn.2.1 167 = .ok (.getfield 132, 3) := by decide +kernel
theorem d_Model_stepOn_170 : decode M_Model_stepOn.2.1 170 = .ok (.iconst 1, 1) := by decide +kernel
theorem d_Model_stepOn_171 : decode M_Model_stepOn.2.1 171 = .ok (.iadd, 1) := by decide +kernel
theorem d_Model_stepOn_172 : decode M_Model_stepOn.2.1 172 = .ok (.putfield 132, 3) := by decide +kernel
theorem d_Model_stepOn_175 : decode M_Model_stepOn.2.1 175 = .ok (.goto (-52), 3) := by decide +kernel
theorem d_Model_stepOn_178 : decode M_Model_stepOn.2.1 178 = .ok (.aload_n 0, 1) := by decide +kernel
theorem d_Model_stepOn_179 : decode M_Model_stepOn.2.1 179 = .ok (.iconst 2, 1) := by decide +kernel
theorem d_Model_stepOn_180 : decode M_Model_stepOn.2.1 180 = .ok (.putfield 142, 3) := by decide +kernel
theorem d_Model_stepOn_183 : decode M_Model_stepOn.2.1 183 = .ok (.goto 29, 3) := by decide +kernel
theorem d_Model_stepOn_186 : decode M_Model_stepOn.2.1 186 = .ok (.aload_n 0, 1) := by decide +kernel
theorem d_Model_stepOn_187 : decode M_Model_stepOn.2.1 187 = .ok (.dup, 1) := by decide +kernel
theorem d_Model_stepOn_188 : decode M_Model_stepOn.2.1 188 = .ok (.getfield 132, 3) := by decide +kernel
theorem d_Model_stepOn_191 : decode M_Model_stepOn.2.1 191 = .ok (.iconst 1, 1) := by decide +kernel
theorem d_Model_stepOn_192 : decode M_Model_stepOn.2.1 192 = .ok (.iadd, 1) := by decide +kernel
theorem d_Model_stepOn_193 : decode M_Model_stepOn.2.1 193 = .ok (.putfield 132, 3) := by decide +kernel
theorem d_Model_stepOn_196 : decode M_Model_stepOn.2.1 196 = .ok (.aload_n 0, 1) := by decide +kernel
theorem d_Model_stepOn_197 : decode M_Model_stepOn.2.1 197 = .ok (.iload_n 1, 1) := by decide +kernel
theorem d_Model_stepOn_198 : decode M_Model_stepOn.2.1 198 = .ok (.invokestatic 162, 3) := by decide +kernel
theorem d_Model_stepOn_201 : decode M_Model_stepOn.2.1 201 = .ok (.ifCond .eq 7, 3) := by decide +kernel
theorem d_Model_stepOn_204 : decode M_Model_stepOn.2.1 204 = .ok (.iconst 3, 1) := by decide +kernel
theorem d_Model_stepOn_205 : decode M_Model_stepOn.2.1 205 = .ok (.goto 4, 3) := by decide +kernel
theorem d_Model_stepOn_208 : decode M_Model_stepOn.2.1 208 = .ok (.iconst 4, 1) := by decide +kernel
theorem d_Model_stepOn_209 : decode M_Model_stepOn.2.1 209 = .ok (.putfield 142, 3) := by decide +kernel
theorem d_Model_stepOn_212 : decode M_Model_stepOn.2.1 212 = .ok (.aload_n 0, 1) := by decide +kernel
theorem d_Model_stepOn_213 : decode M_Model_stepOn.2.1 213 = .ok (.aload_n 0, 1) := by decide +kernel
theorem d_Model_stepOn_214 : decode M_Model_stepOn.2.1 214 = .ok (.getfield 132, 3) := by decide +kernel
theorem d_Model_stepOn_217 : decode M_Model_stepOn.2.1 217 = .ok (.putfield 165, 3) := by decide +kernel
theorem d_Model_stepOn_220 : decode M_Model_stepOn.2.1 220 = .ok (.return_, 1) := by decide +kernel
theorem d_Model_wrong_0 : decode M_Model_wrong.2.1 0 = .ok (.aload_n 0, 1) := by decide +kernel
theorem d_Model_wrong_1 : decode M_Model_wrong.2.1 1 = .ok (.getfield 168, 3) := by decide +kernel
theorem d_Model_wrong_4 : decode M_Model_wrong.2.1 4 = .ok (.ifCond .eq 4, 3) := by decide +kernel
theorem d_Model_wrong_7 : decode M_Model_wrong.2.1 7 = .ok (.return_, 1) := by decide +kernel
theorem d_Model_wrong_8 : decode M_Model_wrong.2.1 8 = .ok (.aload_n 0, 1) := by decide +kernel
theorem d_Model_wrong_9 : decode M_Model_wrong.2.1 9 = .ok (.iload_n 1, 1) := by decide +kernel
theorem d_Model_wrong_10 : decode M_Model_wrong.2.1 10 = .ok (.putfield 168, 3) := by decide +kernel
theorem d_Model_wrong_13 : decode M_Model_wrong.2.1 13 = .ok (.aload_n 0, 1) := by decide +kernel
theorem d_Model_wrong_14 : decode M_Model_wrong.2.1 14 = .ok (.aload_n 0, 1) := by decide +kernel
theorem d_Model_wrong_15 : decode M_Model_wrong.2.1 15 = .ok (.getfield 139, 3) := by decide +kernel
theorem d_Model_wrong_18 : decode M_Model_wrong.2.1 18 = .ok (.putfield 171, 3) := by decide +kernel
theorem d_Model_wrong_21 : decode M_Model_wrong.2.1 21 = .ok (.return_, 1) := by decide +kernel
theorem d_Model_is_0 : decode M_Model_is.2.1 0 = .ok (.aload_n 0, 1) := by decide +kernel
theorem d_Model_is_1 : decode M_Model_is.2.1 1 = .ok (.getfield 168, 3) := by decide +kernel
theorem d_Model_is_4 : decode M_Model_is.2.1 4 = .ok (.ifCond .ne 31, 3) := by decide +kernel
theorem d_Model_is_7 : decode M_Model_is.2.1 7 = .ok (.aload_n 0, 1) := by decide +kernel
theorem d_Model_is_8 : decode M_Model_is.2.1 8 = .ok (.getfield 142, 3) := by decide +kernel
theorem d_Model_is_11 : decode M_Model_is.2.1 11 = .ok (.iconst 1, 1) := by decide +kernel
theorem d_Model_is_12 : decode M_Model_is.2.1 12 = .ok (.if_icmp .ne 23, 3) := by decide +kernel
theorem d_Model_is_15 : decode M_Model_is.2.1 15 = .ok (.aload_n 1, 1) := by decide +kernel
theorem d_Model_is_16 : decode M_Model_is.2.1 16 = .ok (.invokevirtual 174, 3) := by decide +kernel
theorem d_Model_is_19 : decode M_Model_is.2.1 19 = .ok (.aload_n 0, 1) := by decide +kernel
theorem d_Model_is_20 : decode M_Model_is.2.1 20 = .ok (.getfield 165, 3) := by decide +kernel
theorem d_Model_is_23 : decode M_Model_is.2.1 23 = .ok (.aload_n 0, 1) := by decide +kernel
theorem d_Model_is_24 : decode M_Model_is.2.1 24 = .ok (.getfield 139, 3) := by decide +kernel
theorem d_Model_is_27 : decode M_Model_is.2.1 27 = .ok (.isub, 1) := by decide +kernel
theorem d_Model_is_28 : decode M_Model_is.2.1 28 = .ok (.if_icmp .ne 7, 3) := by decide +kernel
theorem d_Model_is_31 : decode M_Model_is.2.1 31 = .ok (.iconst 1, 1) := by decide +kernel
theorem d_Model_is_32 : decode M_Model_is.2.1 32 = .ok (.goto 4, 3) := by decide +kernel
theorem d_Model_is_35 : decode M_Model_is.2.1 35 = .ok (.iconst 0, 1) := by decide +kernel
theorem d_Model_is_36 : decode M_Model_is.2.1 36 = .ok (.istore_n 2, 1) := by decide +kernel
theorem d_Model_is_37 : decode M_Model_is.2.1 37 = .ok (.iconst 0, 1) := by decide +kernel
theorem d_Model_is_38 : decode M_Model_is.2.1 38 = .ok (.istore_n 3, 1) := by decide +kernel
theorem d_Model_is_39 : decode M_Model_is.2.1 39 = .ok (.iload_n 2, 1) := by decide +kernel
theorem d_Model_is_40 : decode M_Model_is.2.1 40 = .ok (.ifCond .eq 42, 3) := by decide +kernel
theorem d_Model_is_43 : decode M_Model_is.2.1 43 = .ok (.iload_n 3, 1) := by decide +kernel
theorem d_Model_is_44 : decode M_Model_is.2.1 44 = .ok (.aload_n 1, 1) := by decide +kernel
theorem d_Model_is_45 : decode M_Model_is.2.1 45 = .ok (.invokevirtual 174, 3) := by decide +kernel
theorem d_Model_is_48 : decode M_Model_is.2.1 48 = .ok (.if_icmp .ge 34, 3) := by decide +kernel
theorem d_Model_is_51 : decode M_Model_is.2.1 51 = .ok (.aload_n 1, 1) := by decide +kernel
theorem d_Model_is_52 : decode M_Model_is.2.1 52 = .ok (.iload_n 3, 1) := by decide +kernel
theorem d_Model_is_53 : decode M_Model_is.2.1 53 = .ok (.invokevirtual 178, 3) := by decide +kernel
theorem d_Model_is_56 : decode M_Model_is.2.1 56 = .ok (.aload_n 0, 1) := by decide +kernel
theorem d_Model_is_57 : decode M_Model_is.2.1 57 = .ok (.getfield 71, 3) := by decide +kernel
theorem d_Model_is_60 : decode M_Model_is.2.1 60 = .ok (.aload_n 0, 1) := by decide +kernel
theorem d_Model_is_61 : decode M_Model_is.2.1 61 = .ok (.getfield 139, 3) := by decide +kernel
theorem d_Model_is_64 : decode M_Model_is.2.1 64 = .ok (.iload_n 3, 1) := by decide +kernel
theorem d_Model_is_65 : decode M_Model_is.2.1 65 = .ok (.iadd, 1) := by decide +kernel
theorem d_Model_is_66 : decode M_Model_is.2.1 66 = .ok (.iaload, 1) := by decide +kernel
theorem d_Model_is_67 : decode M_Model_is.2.1 67 = .ok (.if_icmp .ne 7, 3) := by decide +kernel
theorem d_Model_is_70 : decode M_Model_is.2.1 70 = .ok (.iconst 1, 1) := by decide +kernel
theorem d_Model_is_71 : decode M_Model_is.2.1 71 = .ok (.goto 4, 3) := by decide +kernel
theorem d_Model_is_74 : decode M_Model_is.2.1 74 = .ok (.iconst 0, 1) := by decide +kernel
theorem d_Model_is_75 : decode M_Model_is.2.1 75 = .ok (.istore_n 2, 1) := by decide +kernel
theorem d_Model_is_76 : decode M_Model_is.2.1 76 = .ok (.iinc 3 1, 3) := by decide +kernel
theorem d_Model_is_79 : decode M_Model_is.2.1 79 = .ok (.goto (-40), 3) := by decide +kernel
theorem d_Model_is_82 : decode M_Model_is.2.1 82 = .ok (.iload_n 2, 1) := by decide +kernel
theorem d_Model_is_83 : decode M_Model_is.2.1 83 = .ok (.ireturn, 1) := by decide +kernel
theorem d_Model_which_0 : decode M_Model_which.2.1 0 = .ok (.iconst 0, 1) := by decide +kernel
theorem d_Model_which_1 : decode M_Model_which.2.1 1 = .ok (.istore_n 2, 1) := by decide +kernel
theorem d_Model_which_2 : decode M_Model_which.2.1 2 = .ok (.iload_n 2, 1) := by decide +kernel
theorem d_Model_which_3 : decode M_Model_which.2.1 3 = .ok (.aload_n 1, 1) := by decide +kernel
theorem d_Model_which_4 : decode M_Model_which.2.1 4 = .ok (.arraylength, 1) := by decide +kernel
theorem d_Model_which_5 : decode M_Model_which.2.1 5 = .ok (.if_icmp .ge 21, 3) := by decide +kernel
theorem d_Model_which_8 : decode M_Model_which.2.1 8 = .ok (.aload_n 0, 1) := by decide +kernel
theorem d_Model_which_9 : decode M_Model_which.2.1 9 = .ok (.aload_n 1, 1) := by decide +kernel
theorem d_Model_which_10 : decode M_Model_which.2.1 10 = .ok (.iload_n 2, 1) := by decide +kernel
theorem d_Model_which_11 : decode M_Model_which.2.1 11 = .ok (.aaload, 1) := by decide +kernel
theorem d_Model_which_12 : decode M_Model_which.2.1 12 = .ok (.invokevirtual 182, 3) := by decide +kernel
theorem d_Model_which_15 : decode M_Model_which.2.1 15 = .ok (.ifCond .eq 5, 3) := by decide +kernel
theorem d_Model_which_18 : decode M_Model_which.2.1 18 = .ok (.iload_n 2, 1) := by decide +kernel
theorem d_Model_which_19 : decode M_Model_which.2.1 19 = .ok (.ireturn, 1) := by decide +kernel
theorem d_Model_which_20 : decode M_Model_which.2.1 20 = .ok (.iinc 2 1, 3) := by decide +kernel
theorem d_Model_which_23 : decode M_Model_which.2.1 23 = .ok (.goto (-21), 3) := by decide +kernel
theorem d_Model_which_26 : decode M_Model_which.2.1 26 = .ok (.iconst (-1), 1) := by decide +kernel
theorem d_Model_which_27 : decode M_Model_which.2.1 27 = .ok (.ireturn, 1) := by decide +kernel
theorem d_Model_isMarked_0 : decode M_Model_isMarked.2.1 0 = .ok (.aload_n 0, 1) := by decide +kernel
theorem d_Model_isMarked_1 : decode M_Model_isMarked.2.1 1 = .ok (.getfield 168, 3) := by decide +kernel
theorem d_Model_isMarked_4 : decode M_Model_isMarked.2.1 4 = .ok (.ifCond .ne 28, 3) := by decide +kernel
theorem d_Model_isMarked_7 : decode M_Model_isMarked.2.1 7 = .ok (.aload_n 0, 1) := by decide +kernel
theorem d_Model_isMarked_8 : decode M_Model_isMarked.2.1 8 = .ok (.getfield 142, 3) := by decide +kernel
theorem d_Model_isMarked_11 : decode M_Model_isMarked.2.1 11 = .ok (.iconst 3, 1) := by decide +kernel
theorem d_Model_isMarked_12 : decode M_Model_isMarked.2.1 12 = .ok (.if_icmp .ne 20, 3) := by decide +kernel
theorem d_Model_isMarked_15 : decode M_Model_isMarked.2.1 15 = .ok (.aload_n 0, 1) := by decide +kernel
theorem d_Model_isMarked_16 : decode M_Model_isMarked.2.1 16 = .ok (.getfield 71, 3) := by decide +kernel
theorem d_Model_isMarked_19 : decode M_Model_isMarked.2.1 19 = .ok (.aload_n 0, 1) := by decide +kernel
theorem d_Model_isMarked_20 : decode M_Model_isMarked.2.1 20 = .ok (.getfield 139, 3) := by decide +kernel
theorem d_Model_isMarked_23 : decode M_Model_isMarked.2.1 23 = .ok (.iaload, 1) := by decide +kernel
theorem d_Model_isMarked_24 : decode M_Model_isMarked.2.1 24 = .ok (.iload_n 1, 1) := by decide +kernel
theorem d_Model_isMarked_25 : decode M_Model_isMarked.2.1 25 = .ok (.if_icmp .ne 7, 3) := by decide +kernel
theorem d_Model_isMarked_28 : decode M_Model_isMarked.2.1 28 = .ok (.iconst 1, 1) := by decide +kernel
theorem d_Model_isMarked_29 : decode M_Model_isMarked.2.1 29 = .ok (.goto 4, 3) := by decide +kernel
theorem d_Model_isMarked_32 : decode M_Model_isMarked.2.1 32 = .ok (.iconst 0, 1) := by decide +kernel
theorem d_Model_isMarked_33 : decode M_Model_isMarked.2.1 33 = .ok (.ireturn, 1) := by decide +kernel
theorem d_Model_mark_0 : decode M_Model_mark.2.1 0 = .ok (.aload_n 0, 1) := by decide +kernel
theorem d_Model_mark_1 : decode M_Model_mark.2.1 1 = .ok (.getfield 168, 3) := by decide +kernel
theorem d_Model_mark_4 : decode M_Model_mark.2.1 4 = .ok (.ifCond .ne 16, 3) := by decide +kernel
theorem d_Model_mark_7 : decode M_Model_mark.2.1 7 = .ok (.aload_n 0, 1) := by decide +kernel
theorem d_Model_mark_8 : decode M_Model_mark.2.1 8 = .ok (.iload_n 1, 1) := by decide +kernel
theorem d_Model_mark_9 : decode M_Model_mark.2.1 9 = .ok (.invokevirtual 186, 3) := by decide +kernel
theorem d_Model_mark_12 : decode M_Model_mark.2.1 12 = .ok (.ifCond .ne 8, 3) := by decide +kernel
theorem d_Model_mark_15 : decode M_Model_mark.2.1 15 = .ok (.aload_n 0, 1) := by decide +kernel
theorem d_Model_mark_16 : decode M_Model_mark.2.1 16 = .ok (.iconst 1, 1) := by decide +kernel
theorem d_Model_mark_17 : decode M_Model_mark.2.1 17 = .ok (.invokevirtual 189, 3) := by decide +kernel
theorem d_Model_mark_20 : decode M_Model_mark.2.1 20 = .ok (.aload_n 0, 1) := by decide +kernel
theorem d_Model_mark_21 : decode M_Model_mark.2.1 21 = .ok (.getfield 168, 3) := by decide +kernel
theorem d_Model_mark_24 : decode M_Model_mark.2.1 24 = .ok (.ifCond .ne 7, 3) := by decide +kernel
theorem d_Model_mark_27 : decode M_Model_mark.2.1 27 = .ok (.aload_n 0, 1) := by decide +kernel
theorem d_Model_mark_28 : decode M_Model_mark.2.1 28 = .ok (.invokevirtual 193, 3) := by decide +kernel
theorem d_Model_mark_31 : decode M_Model_mark.2.1 31 = .ok (.return_, 1) := by decide +kernel
theorem d_Model_numberNow_0 : decode M_Model_numberNow.2.1 0 = .ok (.aload_n 0, 1) := by decide +kernel
theorem d_Model_numberNow_1 : decode M_Model_numberNow.2.1 1 = .ok (.getfield 168, 3) := by decide +kernel
theorem d_Model_numberNow_4 : decode M_Model_numberNow.2.1 4 = .ok (.ifCond .eq 5, 3) := by decide +kernel
theorem d_Model_numberNow_7 : decode M_Model_numberNow.2.1 7 = .ok (.iconst 0, 1) := by decide +kernel
theorem d_Model_numberNow_8 : decode M_Model_numberNow.2.1 8 = .ok (.ireturn, 1) := by decide +kernel
theorem d_Model_numberNow_9 : decode M_Model_numberNow.2.1 9 = .ok (.aload_n 0, 1) := by decide +kernel
theorem d_Model_numberNow_10 : decode M_Model_numberNow.2.1 10 = .ok (.getfield 142, 3) := by decide +kernel
theorem d_Model_numberNow_13 : decode M_Model_numberNow.2.1 13 = .ok (.iconst 2, 1) := by decide +kernel
theorem d_Model_numberNow_14 : decode M_Model_numberNow.2.1 14 = .ok (.if_icmp .eq 11, 3) := by decide +kernel
theorem d_Model_numberNow_17 : decode M_Model_numberNow.2.1 17 = .ok (.aload_n 0, 1) := by decide +kernel
theorem d_Model_numberNow_18 : decode M_Model_numberNow.2.1 18 = .ok (.iconst 1, 1) := by decide +kernel
theorem d_Model_numberNow_19 : decode M_Model_numberNow.2.1 19 = .ok (.invokevirtual 189, 3) := by decide +kernel
theorem d_Model_numberNow_22 : decode M_Model_numberNow.2.1 22 = .ok (.goto 37, 3) := by decide +kernel
theorem d_Model_numberNow_25 : decode M_Model_numberNow.2.1 25 = .ok (.aload_n 0, 1) := by decide +kernel
theorem d_Model_numberNow_26 : decode M_Model_numberNow.2.1 26 = .ok (.getfield 165, 3) := by decide +kernel
theorem d_Model_numberNow_29 : decode M_Model_numberNow.2.1 29 = .ok (.aload_n 0, 1) := by decide +kernel
theorem d_Model_numberNow_30 : decode M_Model_numberNow.2.1 30 = .ok (.getfield 139, 3) := by decide +kernel
theorem d_Model_numberNow_33 : decode M_Model_numberNow.2.1 33 = .ok (.isub, 1) := by decide +kernel
theorem d_Model_numberNow_34 : decode M_Model_numberNow.2.1 34 = .ok (.iconst 4, 1) := by decide +kernel
theorem d_Model_numberNow_35 : decode M_Model_numberNow.2.1 35 = .ok (.if_icmp .gt 19, 3) := by decide +kernel
theorem d_Model_numberNow_38 : decode M_Model_numberNow.2.1 38 = .ok (.aload_n 0, 1) := by decide +kernel
theorem d_Model_numberNow_39 : decode M_Model_numberNow.2.1 39 = .ok (.getfield 152, 3) := by decide +kernel
theorem d_Model_numberNow_42 : decode M_Model_numberNow.2.1 42 = .ok (.iload_n 1, 1) := by decide +kernel
theorem d_Model_numberNow_43 : decode M_Model_numberNow.2.1 43 = .ok (.if_icmp .lt 11, 3) := by decide +kernel
theorem d_Model_numberNow_46 : decode M_Model_numberNow.2.1 46 = .ok (.aload_n 0, 1) := by decide +kernel
theorem d_Model_numberNow_47 : decode M_Model_numberNow.2.1 47 = .ok (.getfield 152, 3) := by decide +kernel
theorem d_Model_numberNow_50 : decode M_Model_numberNow.2.1 50 = .ok (.iload_n 2, 1) := by decide +kernel
theorem d_Model_numberNow_51 : decode M_Model_numberNow.2.1 51 = .ok (.if_icmp .le 8, 3) := by decide +kernel
theorem d_Model_numberNow_54 : decode M_Model_numberNow.2.1 54 = .ok (.aload_n 0, 1) := by decide +kernel
theorem d_Model_numberNow_55 : decode M_Model_numberNow.2.1 55 = .ok (.iconst 2, 1) := by decide +kernel
theorem d_Model_numberNow_56 : decode M_Model_numberNow.2.1 56 = .ok (.invokevirtual 189, 3) := by decide +kernel
theorem d_Model_numberNow_59 : decode M_Model_numberNow.2.1 59 = .ok (.aload_n 0, 1) := by decide +kernel
theorem d_Model_numberNow_60 : decode M_Model_numberNow.2.1 60 = .ok (.getfield 168, 3) := by decide +kernel
theorem d_Model_numberNow_63 : decode M_Model_numberNow.2.1 63 = .ok (.ifCond .ne 10, 3) := by decide +kernel
theorem d_Model_numberNow_66 : decode M_Model_numberNow.2.1 66 = .ok (.aload_n 0, 1) := by decide +kernel
theorem d_Model_numberNow_67 : decode M_Model_numberNow.2.1 67 = .ok (.getfield 152, 3) := by decide +kernel
theorem d_Model_numberNow_70 : decode M_Model_numberNow.2.1 70 = .ok (.goto 4, 3) := by decide +kernel
theorem d_Model_numberNow_73 : decode M_Model_numberNow.2.1 73 = .ok (.iconst 0, 1) := by decide +kernel
theorem d_Model_numberNow_74 : decode M_Model_numberNow.2.1 74 = .ok (.ireturn, 1) := by decide +kernel
theorem d_Model_readNumber_0 : decode M_Model_readNumber.2.1 0 = .ok (.aload_n 0, 1) := by decide +kernel
theorem d_Model_readNumber_1 : decode M_Model_readNumber.2.1 1 = .ok (.iload_n 1, 1) := by decide +kernel
theorem d_Model_readNumber_2 : decode M_Model_readNumber.2.1 2 = .ok (.iload_n 2, 1) := by decide +kernel
theorem d_Model_readNumber_3 : decode M_Model_readNumber.2.1 3 = .ok (.invokevirtual 196, 3) := by decide +kernel
theorem d_Model_readNumber_6 : decode M_Model_readNumber.2.1 6 = .ok (.istore_n 3, 1) := by decide +kernel
theorem d_Model_readNumber_7 : decode M_Model_readNumber.2.1 7 = .ok (.aload_n 0, 1) := by decide +kernel
theorem d_Model_readNumber_8 : decode M_Model_readNumber.2.1 8 = .ok (.getfield 168, 3) := by decide +kernel
theorem d_Model_readNumber_11 : decode M_Model_readNumber.2.1 11 = .ok (.ifCond .ne 7, 3) := by decide +kernel
theorem d_Model_readNumber_14 : decode M_Model_readNumber.2.1 14 = .ok (.aload_n 0, 1) := by decide +kernel
theorem d_Model_readNumber_15 : decode M_Model_readNumber.2.1 15 = .ok (.invokevirtual 193, 3) := by decide +kernel
theorem d_Model_readNumber_18 : decode M_Model_readNumber.2.1 18 = .ok (.iload_n 3, 1) := by decide +kernel
theorem d_Model_readNumber_19 : decode M_Model_readNumber.2.1 19 = .ok (.ireturn, 1) := by decide +kernel
theorem d_Model_lay_0 : decode M_Model_lay.2.1 0 = .ok (.aload_n 0, 1) := by decide +kernel
theorem d_Model_lay_1 : decode M_Model_lay.2.1 1 = .ok (.getfield 168, 3) := by decide +kernel
theorem d_Model_lay_4 : decode M_Model_lay.2.1 4 = .ok (.ifCond .eq 4, 3) := by decide +kernel
theorem d_Model_lay_7 : decode M_Model_lay.2.1 7 = .ok (.return_, 1) := by decide +kernel
theorem d_Model_lay_8 : decode M_Model_lay.2.1 8 = .ok (.aload_n 0, 1) := by decide +kernel
theorem d_Model_lay_9 : decode M_Model_lay.2.1 9 = .ok (.getfield 65, 3) := by decide +kernel
theorem d_Model_lay_12 : decode M_Model_lay.2.1 12 = .ok (.sipush 700, 3) := by decide +kernel
theorem d_Model_lay_15 : decode M_Model_lay.2.1 15 = .ok (.aload_n 0, 1) := by decide +kernel
theorem d_Model_lay_16 : decode M_Model_lay.2.1 16 = .ok (.getfield 51, 3) := by decide +kernel
theorem d_Model_lay_19 : decode M_Model_lay.2.1 19 = .ok (.bipush 11, 2) := by decide +kernel
theorem d_Model_lay_21 : decode M_Model_lay.2.1 21 = .ok (.iaload, 1) := by decide +kernel
theorem d_Model_lay_22 : decode M_Model_lay.2.1 22 = .ok (.iadd, 1) := by decide +kernel
theorem d_Model_lay_23 : decode M_Model_lay.2.1 23 = .ok (.iload_n 1, 1) := by decide +kernel
theorem d_Model_lay_24 : decode M_Model_lay.2.1 24 = .ok (.iastore, 1) := by decide +kernel
theorem d_Model_lay_25 : decode M_Model_lay.2.1 25 = .ok (.aload_n 0, 1) := by decide +kernel
theorem d_Model_lay_26 : decode M_Model_lay.2.1 26 = .ok (.getfield 51, 3) := by decide +kernel
theorem d_Model_lay_29 : decode M_Model_lay.2.1 29 = .ok (.bipush 11, 2) := by decide +kernel
theorem d_Model_lay_31 : decode M_Model_lay.2.1 31 = .ok (.dup2, 1) := by decide +kernel
theorem d_Model_lay_32 : decode M_Model_lay.2.1 32 = .ok (.iaload, 1) := by decide +kernel
theorem d_Model_lay_33 : decode M_Model_lay.2.1 33 = .ok (.iconst 1, 1) := by decide +kernel
theorem d_Model_lay_34 : decode M_Model_lay.2.1 34 = .ok (.iadd, 1) := by decide +kernel
theorem d_Model_lay_35 : decode M_Model_lay.2.1 35 = .ok (.iastore, 1) := by decide +kernel
theorem d_Model_lay_36 : decode M_Model_lay.2.1 36 = .ok (.return_, 1) := by decide +kernel
theorem d_Model_readPart_0 : decode M_Model_readPart.2.1 0 = .ok (.aload_n 0, 1) := by decide +kernel
theorem d_Model_readPart_1 : decode M_Model_readPart.2.1 1 = .ok (.getfield 168, 3) := by decide +kernel
theorem d_Model_readPart_4 : decode M_Model_readPart.2.1 4 = .ok (.ifCond .eq 4, 3) := by decide +kernel
theorem d_Model_readPart_7 : decode M_Model_readPart.2.1 7 = .ok (.return_, 1) := by decide +kernel
theorem d_Model_readPart_8 : decode M_Model_readPart.2.1 8 = .ok (.aload_n 0, 1) := by decide +kernel
theorem d_Model_readPart_9 : decode M_Model_readPart.2.1 9 = .ok (.getfield 142, 3) := by decide +kernel
theorem d_Model_readPart_12 : decode M_Model_readPart.2.1 12 = .ok (.iconst 2, 1) := by decide +kernel
theorem d_Model_readPart_13 : decode M_Model_readPart.2.1 13 = .ok (.if_icmp .ne 16, 3) := by decide +kernel
theorem d_Model_readPart_16 : decode M_Model_readPart.2.1 16 = .ok (.aload_n 0, 1) := by decide +kernel
theorem d_Model_readPart_17 : decode M_Model_readPart.2.1 17 = .ok (.aload_n 0, 1) := by decide +kernel
theorem d_Model_readPart_18 : decode M_Model_readPart.2.1 18 = .ok (.iconst 0, 1) := by decide +kernel
theorem d_Model_readPart_19 : decode M_Model_readPart.2.1 19 = .ok (.sipush 9999, 3) := by decide +kernel
theorem d_Model_readPart_22 : decode M_Model_readPart.2.1 22 = .ok (.invokevirtual 202, 3) := by decide +kernel
theorem d_Model_readPart_25 : decode M_Model_readPart.2.1 25 = .ok (.invokevirtual 205, 3) := by decide +kernel
theorem d_Model_readPart_28 : decode M_Model_readPart.2.1 28 = .ok (.return_, 1) := by decide +kernel
theorem d_Model_readPart_29 : decode M_Model_readPart.2.1 29 = .ok (.aload_n 0, 1) := by decide +kernel
theorem d_Model_readPart_30 : decode M_Model_readPart.2.1 30 = .ok (.getfield 142, 3) := by decide +kernel
theorem d_Model_readPart_33 : decode M_Model_readPart.2.1 33 = .ok (.iconst 1, 1) := by decide +kernel
theorem d_Model_readPart_34 : decode M_Model_readPart.2.1 34 = .ok (.if_icmp .ne 41, 3) := by decide +kernel
theorem d_Model_readPart_37 : decode M_Model_readPart.2.1 37 = .ok (.aload_n 0, 1) := by decide +kernel
theorem d_Model_readPart_38 : decode M_Model_readPart.2.1 38 = .ok (.aload_n 0, 1) := by decide +kernel
theorem d_Model_readPart_39 : decode M_Model_readPart.2.1 39 = .ok (.getfield 48, 3) := by decide +kernel
theorem d_Model_readPart_42 : decode M_Model_readPart.2.1 42 = .ok (.invokevirtual 208, 3) := by decide +kernel
theorem d_Model_readPart_45 : decode M_Model_readPart.2.1 45 = .ok (.istore_n 2, 1) := by decide +kernel
theorem d_Model_readPart_46 : decode M_Model_readPart.2.1 46 = .ok (.iload_n 2, 1) := by decide +kernel
theorem d_Model_readPart_47 : decode M_Model_readPart.2.1 47 = .ok (.iconst (-1), 1) := by decide +kernel
theorem d_Model_readPart_48 : decode M_Model_readPart.2.1 48 = .ok (.if_icmp .ne 8, 3) := by decide +kernel
theorem d_Model_readPart_51 : decode M_Model_readPart.2.1 51 = .ok (.aload_n 0, 1) := by decide +kernel
theorem d_Model_readPart_52 : decode M_Model_readPart.2.1 52 = .ok (.iconst 3, 1) := by decide +kernel
theorem d_Model_readPart_53 : decode M_Model_readPart.2.1 53 = .ok (.invokevirtual 189, 3) := by decide +kernel
theorem d_Model_readPart_56 : decode M_Model_readPart.2.1 56 = .ok (.aload_n 0, 1) := by decide +kernel
theorem d_Model_readPart_57 : decode M_Model_readPart.2.1 57 = .ok (.iconst (-1), 1) := by decide +kernel
theorem d_Model_readPart_58 : decode M_Model_readPart.2.1 58 = .ok (.iload_n 2, 1) := by decide +kernel
theorem d_Model_readPart_59 : decode M_Model_readPart.2.1 59 = .ok (.isub, 1) := by decide +kernel
theorem d_Model_readPart_60 : decode M_Model_readPart.2.1 60 = .ok (.invokevirtual 205, 3) := by decide +kernel
theorem d_Model_readPart_63 : decode M_Model_readPart.2.1 63 = .ok (.aload_n 0, 1) := by decide +kernel
theorem d_Model_readPart_64 : decode M_Model_readPart.2.1 64 = .ok (.getfield 168, 3) := by decide +kernel
theorem d_Model_readPart_67 : decode M_Model_readPart.2.1 67 = .ok (.ifCond .ne 7, 3) := by decide +kernel
theorem d_Model_readPart_70 : decode M_Model_readPart.2.1 70 = .ok (.aload_n 0, 1) := by decide +kernel
theorem d_Model_readPart_71 : decode M_Model_readPart.2.1 71 = .ok (.invokevirtual 193, 3) := by decide +kernel
theorem d_Model_readPart_74 : decode M_Model_readPart.2.1 74 = .ok (.return_, 1) := by decide +kernel
theorem d_Model_readPart_75 : decode M_Model_readPart.2.1 75 = .ok (.aload_n 0, 1) := by decide +kernel
theorem d_Model_readPart_76 : decode M_Model_readPart.2.1 76 = .ok (.bipush 40, 2) := by decide +kernel
theorem d_Model_readPart_78 : decode M_Model_readPart.2.1 78 = .ok (.invokevirtual 212, 3) := by decide +kernel
theorem d_Model_readPart_81 : decode M_Model_readPart.2.1 81 = .ok (.aload_n 0, 1) := by decide +kernel
theorem d_Model_readPart_82 : decode M_Model_readPart.2.1 82 = .ok (.iload_n 1, 1) := by decide +kernel
theorem d_Model_readPart_83 : decode M_Model_readPart.2.1 83 = .ok (.iconst 1, 1) := by decide +kernel
theorem d_Model_readPart_84 : decode M_Model_readPart.2.1 84 = .ok (.iadd, 1) := by decide +kernel
theorem d_Model_readPart_85 : decode M_Model_readPart.2.1 85 = .ok (.invokevirtual 215, 3) := by decide +kernel
theorem d_Model_readPart_88 : decode M_Model_readPart.2.1 88 = .ok (.aload_n 0, 1) := by decide +kernel
theorem d_Model_readPart_89 : decode M_Model_readPart.2.1 89 = .ok (.bipush 41, 2) := by decide +kernel
theorem d_Model_readPart_91 : decode M_Model_readPart.2.1 91 = .ok (.invokevirtual 212, 3) := by decide +kernel
theorem d_Model_readPart_94 : decode M_Model_readPart.2.1 94 = .ok (.return_, 1) := by decide +kernel
theorem d_Model_readProduct_0 : decode M_Model_readProduct.2.1 0 = .ok (.aload_n 0, 1) := by decide +kernel
theorem d_Model_readProduct_1 : decode M_Model_readProduct.2.1 1 = .ok (.iload_n 1, 1) := by decide +kernel
theorem d_Model_readProduct_2 : decode M_Model_readProduct.2.1 2 = .ok (.invokevirtual 218, 3) := by decide +kernel
theorem d_Model_readProduct_5 : decode M_Model_readProduct.2.1 5 = .ok (.aload_n 0, 1) := by decide +kernel
theorem d_Model_readProduct_6 : decode M_Model_readProduct.2.1 6 = .ok (.bipush 42, 2) := by decide +kernel
theorem d_Model_readProduct_8 : decode M_Model_readProduct.2.1 8 = .ok (.invokevirtual 186, 3) := by decide +kernel
theorem d_Model_readProduct_11 : decode M_Model_readProduct.2.1 11 = .ok (.ifCond .ne 12, 3) := by decide +kernel
theorem d_Model_readProduct_14 : decode M_Model_readProduct.2.1 14 = .ok (.aload_n 0, 1) := by decide +kernel
theorem d_Model_readProduct_15 : decode M_Model_readProduct.2.1 15 = .ok (.bipush 47, 2) := by decide +kernel
theorem d_Model_readProduct_17 : decode M_Model_readProduct.2.1 17 = .ok (.invokevirtual 186, 3) := by decide +kernel
theorem d_Model_readProduct_20 : decode M_Model_readProduct.2.1 20 = .ok (.ifCond .eq 37, 3) := by decide +kernel
theorem d_Model_readProduct_23 : decode M_Model_readProduct.2.1 23 = .ok (.aload_n 0, 1) := by decide +kernel
theorem d_Model_readProduct_24 : decode M_Model_readProduct.2.1 24 = .ok (.bipush 42, 2) := by decide +kernel
theorem d_Model_readProduct_26 : decode M_Model_readProduct.2.1 26 = .ok (.invokevirtual 186, 3) := by decide +kernel
theorem d_Model_readProduct_29 : decode M_Model_readProduct.2.1 29 = .ok (.ifCond .eq 8, 3) := by decide +kernel
theorem d_Model_readProduct_32 : decode M_Model_readProduct.2.1 32 = .ok (.bipush (-22), 2) := by decide +kernel
theorem d_Model_readProduct_34 : decode M_Model_readProduct.2.1 34 = .ok (.goto 5, 3) := by decide +kernel
theorem d_Model_readProduct_37 : decode M_Model_readProduct.2.1 37 = .ok (.bipush (-23), 2) := by decide +kernel
theorem d_Model_readProduct_39 : decode M_Model_readProduct.2.1 39 = .ok (.istore_n 2, 1) := by decide +kernel
theorem d_Model_readProduct_40 : decode M_Model_readProduct.2.1 40 = .ok (.aload_n 0, 1) := by decide +kernel
theorem d_Model_readProduct_41 : decode M_Model_readProduct.2.1 41 = .ok (.invokevirtual 193, 3) := by decide +kernel
theorem d_Model_readProduct_44 : decode M_Model_readProduct.2.1 44 = .ok (.aload_n 0, 1) := by decide +kernel
theorem d_Model_readProduct_45 : decode M_Model_readProduct.2.1 45 = .ok (.iload_n 1, 1) := by decide +kernel
theorem d_Model_readProduct_46 : decode M_Model_readProduct.2.1 46 = .ok (.invokevirtual 218, 3) := by decide +kernel
theorem d_Model_readProduct_49 : decode M_Model_readProduct.2.1 49 = .ok (.aload_n 0, 1) := by decide +kernel
theorem d_Model_readProduct_50 : decode M_Model_readProduct.2.1 50 = .ok (.iload_n 2, 1) := by decide +kernel
theorem d_Model_readProduct_51 : decode M_Model_readProduct.2.1 51 = .ok (.invokevirtual 205, 3) := by decide +kernel
theorem d_Model_readProduct_54 : decode M_Model_readProduct.2.1 54 = .ok (.goto (-49), 3) := by decide +kernel
theorem d_Model_readProduct_57 : decode M_Model_readProduct.2.1 57 = .ok (.return_, 1) := by decide +kernel
theorem d_Model_readSum_0 : decode M_Model_readSum.2.1 0 = .ok (.aload_n 0, 1) := by decide +kernel
theorem d_Model_readSum_1 : decode M_Model_readSum.2.1 1 = .ok (.iload_n 1, 1) := by decide +kernel
theorem d_Model_readSum_2 : decode M_Model_readSum.2.1 2 = .ok (.invokevirtual 221, 3) := by decide +kernel
theorem d_Model_readSum_5 : decode M_Model_readSum.2.1 5 = .ok (.aload_n 0, 1) := by decide +kernel
theorem d_Model_readSum_6 : decode M_Model_readSum.2.1 6 = .ok (.bipush 43, 2) := by decide +kernel
theorem d_Model_readSum_8 : decode M_Model_readSum.2.1 8 = .ok (.invokevirtual 186, 3) := by decide +kernel
theorem d_Model_readSum_11 : decode M_Model_readSum.2.1 11 = .ok (.ifCond .ne 12, 3) := by decide +kernel
theorem d_Model_readSum_14 : decode M_Model_readSum.2.1 14 = .ok (.aload_n 0, 1) := by decide +kernel
theorem d_Model_readSum_15 : decode M_Model_readSum.2.1 15 = .ok (.bipush 45, 2) := by decide +kernel
theorem d_Model_readSum_17 : decode M_Model_readSum.2.1 17 = .ok (.invokevirtual 186, 3) := by decide +kernel
theorem d_Model_readSum_20 : decode M_Model_readSum.2.1 20 = .ok (.ifCond .eq 37, 3) := by decide +kernel
theorem d_Model_readSum_23 : decode M_Model_readSum.2.1 23 = .ok (.aload_n 0, 1) := by decide +kernel
theorem d_Model_readSum_24 : decode M_Model_readSum.2.1 24 = .ok (.bipush 43, 2) := by decide +kernel
theorem d_Model_readSum_26 : decode M_Model_readSum.2.1 26 = .ok (.invokevirtual 186, 3) := by decide +kernel
theorem d_Model_readSum_29 : decode M_Model_readSum.2.1 29 = .ok (.ifCond .eq 8, 3) := by decide +kernel
theorem d_Model_readSum_32 : decode M_Model_readSum.2.1 32 = .ok (.bipush (-20), 2) := by decide +kernel
theorem d_Model_readSum_34 : decode M_Model_readSum.2.1 34 = .ok (.goto 5, 3) := by decide +kernel
theorem d_Model_readSum_37 : decode M_Model_readSum.2.1 37 = .ok (.bipush (-21), 2) := by decide +kernel
theorem d_Model_readSum_39 : decode M_Model_readSum.2.1 39 = .ok (.istore_n 2, 1) := by decide +kernel
theorem d_Model_readSum_40 : decode M_Model_readSum.2.1 40 = .ok (.aload_n 0, 1) := by decide +kernel
theorem d_Model_readSum_41 : decode M_Model_readSum.2.1 41 = .ok (.invokevirtual 193, 3) := by decide +kernel
theorem d_Model_readSum_44 : decode M_Model_readSum.2.1 44 = .ok (.aload_n 0, 1) := by decide +kernel
theorem d_Model_readSum_45 : decode M_Model_readSum.2.1 45 = .ok (.iload_n 1, 1) := by decide +kernel
theorem d_Model_readSum_46 : decode M_Model_readSum.2.1 46 = .ok (.invokevirtual 221, 3) := by decide +kernel
theorem d_Model_readSum_49 : decode M_Model_readSum.2.1 49 = .ok (.aload_n 0, 1) := by decide +kernel
theorem d_Model_readSum_50 : decode M_Model_readSum.2.1 50 = .ok (.iload_n 2, 1) := by decide +kernel
theorem d_Model_readSum_51 : decode M_Model_readSum.2.1 51 = .ok (.invokevirtual 205, 3) := by decide +kernel
theorem d_Model_readSum_54 : decode M_Model_readSum.2.1 54 = .ok (.goto (-49), 3) := by decide +kernel
theorem d_Model_readSum_57 : decode M_Model_readSum.2.1 57 = .ok (.return_, 1) := by decide +kernel
theorem d_Model_readNot_0 : decode M_Model_readNot.2.1 0 = .ok (.iconst 0, 1) := by decide +kernel
theorem d_Model_readNot_1 : decode M_Model_readNot.2.1 1 = .ok (.istore_n 2, 1) := by decide +kernel
theorem d_Model_readNot_2 : decode M_Model_readNot.2.1 2 = .ok (.aload_n 0, 1) := by decide +kernel
theorem d_Model_readNot_3 : decode M_Model_readNot.2.1 3 = .ok (.ldc 224, 2) := by decide +kernel
theorem d_Model_readNot_5 : decode M_Model_readNot.2.1 5 = .ok (.invokevirtual 182, 3) := by decide +kernel
theorem d_Model_readNot_8 : decode M_Model_readNot.2.1 8 = .ok (.ifCond .eq 31, 3) := by decide +kernel
theorem d_Model_readNot_11 : decode M_Model_readNot.2.1 11 = .ok (.iload_n 2, 1) := by decide +kernel
theorem d_Model_readNot_12 : decode M_Model_readNot.2.1 12 = .ok (.bipush 6, 2) := by decide +kernel
theorem d_Model_readNot_14 : decode M_Model_readNot.2.1 14 = .ok (.if_icmp .ne 8, 3) := by decide +kernel
theorem d_Model_readNot_17 : decode M_Model_readNot.2.1 17 = .ok (.aload_n 0, 1) := by decide +kernel
theorem d_Model_readNot_18 : decode M_Model_readNot.2.1 18 = .ok (.iconst 2, 1) := by decide +kernel
theorem d_Model_readNot_19 : decode M_Model_readNot.2.1 19 = .ok (.invokevirtual 189, 3) := by decide +kernel
theorem d_Model_readNot_22 : decode M_Model_readNot.2.1 22 = .ok (.iinc 2 1, 3) := by decide +kernel
theorem d_Model_readNot_25 : decode M_Model_readNot.2.1 25 = .ok (.aload_n 0, 1) := by decide +kernel
theorem d_Model_readNot_26 : decode M_Model_readNot.2.1 26 = .ok (.getfield 168, 3) := by decide +kernel
theorem d_Model_readNot_29 : decode M_Model_readNot.2.1 29 = .ok (.ifCond .ne (-27), 3) := by decide +kernel
theorem d_Model_readNot_32 : decode M_Model_readNot.2.1 32 = .ok (.aload_n 0, 1) := by decide +kernel
theorem d_Model_readNot_33 : decode M_Model_readNot.2.1 33 = .ok (.invokevirtual 193, 3) := by decide +kernel
theorem d_Model_readNot_36 : decode M_Model_readNot.2.1 36 = .ok (.goto (-34), 3) := by decide +kernel
theorem d_Model_readNot_39 : decode M_Model_readNot.2.1 39 = .ok (.aload_n 0, 1) := by decide +kernel
theorem d_Model_readNot_40 : decode M_Model_readNot.2.1 40 = .ok (.iload_n 1, 1) := by decide +kernel
theorem d_Model_readNot_41 : decode M_Model_readNot.2.1 41 = .ok (.invokevirtual 226, 3) := by decide +kernel
theorem d_Model_readNot_44 : decode M_Model_readNot.2.1 44 = .ok (.aload_n 0, 1) := by decide +kernel
theorem d_Model_readNot_45 : decode M_Model_readNot.2.1 45 = .ok (.bipush 60, 2) := by decide +kernel
theorem d_Model_readNot_47 : decode M_Model_readNot.2.1 47 = .ok (.invokevirtual 186, 3) := by decide +kernel
theorem d_Model_readNot_50 : decode M_Model_readNot.2.1 50 = .ok (.ifCond .ne 12, 3) := by decide +kernel
theorem d_Model_readNot_53 : decode M_Model_readNot.2.1 53 = .ok (.aload_n 0, 1) := by decide +kernel
theorem d_Model_readNot_54 : decode M_Model_readNot.2.1 54 = .ok (.bipush 61, 2) := by decide +kernel
theorem d_Model_readNot_56 : decode M_Model_readNot.2.1 56 = .ok (.invokevirtual 186, 3) := by decide +kernel
theorem d_Model_readNot_59 : decode M_Model_readNot.2.1 59 = .ok (.ifCond .eq 34, 3) := by decide +kernel
theorem d_Model_readNot_62 : decode M_Model_readNot.2.1 62 = .ok (.aload_n 0, 1) := by decide +kernel
theorem d_Model_readNot_63 : decode M_Model_readNot.2.1 63 = .ok (.bipush 60, 2) := by decide +kernel
theorem d_Model_readNot_65 : decode M_Model_readNot.2.1 65 = .ok (.invokevirtual 186, 3) := by decide +kernel
theorem d_Model_readNot_68 : decode M_Model_readNot.2.1 68 = .ok (.ifCond .eq 8, 3) := by decide +kernel
theorem d_Model_readNot_71 : decode M_Model_readNot.2.1 71 = .ok (.bipush (-24), 2) := by decide +kernel
theorem d_Model_readNot_73 : decode M_Model_readNot.2.1 73 = .ok (.goto 5, 3) := by decide +kernel
theorem d_Model_readNot_76 : decode M_Model_readNot.2.1 76 = .ok (.bipush (-25), 2) := by decide +kernel
theorem d_Model_readNot_78 : decode M_Model_readNot.2.1 78 = .ok (.istore_n 3, 1) := by decide +kernel
theorem d_Model_readNot_79 : decode M_Model_readNot.2.1 79 = .ok (.aload_n 0, 1) := by decide +kernel
theorem d_Model_readNot_80 : decode M_Model_readNot.2.1 80 = .ok (.invokevirtual 193, 3) := by decide +kernel
theorem d_Model_readNot_83 : decode M_Model_readNot.2.1 83 = .ok (.aload_n 0, 1) := by decide +kernel
theorem d_Model_readNot_84 : decode M_Model_readNot.2.1 84 = .ok (.iload_n 1, 1) := by decide +kernel
theorem d_Model_readNot_85 : decode M_Model_readNot.2.1 85 = .ok (.invokevirtual 226, 3) := by decide +kernel
theorem d_Model_readNot_88 : decode M_Model_readNot.2.1 88 = .ok (.aload_n 0, 1) := by decide +kernel
theorem d_Model_readNot_89 : decode M_Model_readNot.2.1 89 = .ok (.iload_n 3, 1) := by decide +kernel
theorem d_Model_readNot_90 : decode M_Model_readNot.2.1 90 = .ok (.invokevirtual 205, 3) := by decide +kernel
theorem d_Model_readNot_93 : decode M_Model_readNot.2.1 93 = .ok (.iconst 0, 1) := by decide +kernel
theorem d_Model_readNot_94 : decode M_Model_readNot.2.1 94 = .ok (.istore_n 3, 1) := by decide +kernel
theorem d_Model_readNot_95 : decode M_Model_readNot.2.1 95 = .ok (.iload_n 3, 1) := by decide +kernel
theorem d_Model_readNot_96 : decode M_Model_readNot.2.1 96 = .ok (.iload_n 2, 1) := by decide +kernel
theorem d_Model_readNot_97 : decode M_Model_readNot.2.1 97 = .ok (.if_icmp .ge 15, 3) := by decide +kernel
theorem d_Model_readNot_100 : decode M_Model_readNot.2.1 100 = .ok (.aload_n 0, 1) := by decide +kernel
theorem d_Model_readNot_101 : decode M_Model_readNot.2.1 101 = .ok (.bipush (-28), 2) := by decide +kernel
theorem d_Model_readNot_103 : decode M_Model_readNot.2.1 103 = .ok (.invokevirtual 205, 3) := by decide +kernel
theorem d_Model_readNot_106 : decode M_Model_readNot.2.1 106 = .ok (.iinc 3 1, 3) := by decide +kernel
theorem d_Model_readNot_109 : decode M_Model_readNot.2.1 109 = .ok (.goto (-14), 3) := by decide +kernel
theorem d_Model_readNot_112 : decode M_Model_readNot.2.1 112 = .ok (.return_, 1) := by decide +kernel
theorem d_Model_readAnd_0 : decode M_Model_readAnd.2.1 0 = .ok (.aload_n 0, 1) := by decide +kernel
theorem d_Model_readAnd_1 : decode M_Model_readAnd.2.1 1 = .ok (.iload_n 1, 1) := by decide +kernel
theorem d_Model_readAnd_2 : decode M_Model_readAnd.2.1 2 = .ok (.invokevirtual 229, 3) := by decide +kernel
theorem d_Model_readAnd_5 : decode M_Model_readAnd.2.1 5 = .ok (.aload_n 0, 1) := by decide +kernel
theorem d_Model_readAnd_6 : decode M_Model_readAnd.2.1 6 = .ok (.ldc 232, 2) := by decide +kernel
theorem d_Model_readAnd_8 : decode M_Model_readAnd.2.1 8 = .ok (.invokevirtual 182, 3) := by decide +kernel
theorem d_Model_readAnd_11 : decode M_Model_readAnd.2.1 11 = .ok (.ifCond .eq 21, 3) := by decide +kernel
theorem d_Model_readAnd_14 : decode M_Model_readAnd.2.1 14 = .ok (.aload_n 0, 1) := by decide +kernel
theorem d_Model_readAnd_15 : decode M_Model_readAnd.2.1 15 = .ok (.invokevirtual 193, 3) := by decide +kernel
theorem d_Model_readAnd_18 : decode M_Model_readAnd.2.1 18 = .ok (.aload_n 0, 1) := by decide +kernel
theorem d_Model_readAnd_19 : decode M_Model_readAnd.2.1 19 = .ok (.iload_n 1, 1) := by decide +kernel
theorem d_Model_readAnd_20 : decode M_Model_readAnd.2.1 20 = .ok (.invokevirtual 229, 3) := by decide +kernel
theorem d_Model_readAnd_23 : decode M_Model_readAnd.2.1 23 = .ok (.aload_n 0, 1) := by decide +kernel
theorem d_Model_readAnd_24 : decode M_Model_readAnd.2.1 24 = .ok (.bipush (-26), 2) := by decide +kernel
theorem d_Model_readAnd_26 : decode M_Model_readAnd.2.1 26 = .ok (.invokevirtual 205, 3) := by decide +kernel
theorem d_Model_readAnd_29 : decode M_Model_readAnd.2.1 29 = .ok (.goto (-24), 3) := by decide +kernel
theorem d_Model_readAnd_32 : decode M_Model_readAnd.2.1 32 = .ok (.return_, 1) := by decide +kernel
theorem d_Model_readExpression_0 : decode M_Model_readExpression.2.1 0 = .ok (.aload_n 0, 1) := by decide +kernel
theorem d_Model_readExpression_1 : decode M_Model_readExpression.2.1 1 = .ok (.getfield 168, 3) := by decide +kernel
theorem d_Model_readExpression_4 : decode M_Model_readExpression.2.1 4 = .ok (.ifCond .eq 4, 3) := by decide +kernel
theorem d_Model_readExpression_7 : decode M_Model_readExpression.2.1 7 = .ok (.return_, 1) := by decide +kernel
theorem d_Model_readExpression_8 : decode M_Model_readExpression.2.1 8 = .ok (.aload_n 0, 1) := by decide +kernel
theorem d_Model_readExpression_9 : decode M_Model_readExpression.2.1 9 = .ok (.getfield 142, 3) := by decide +kernel
theorem d_Model_readExpression_12 : decode M_Model_readExpression.2.1 12 = .ok (.iconst 2, 1) := by decide +kernel
theorem d_Model_readExpression_13 : decode M_Model_readExpression.2.1 13 = .ok (.if_icmp .eq 20, 3) := by decide +kernel
theorem d_Model_readExpression_16 : decode M_Model_readExpression.2.1 16 = .ok (.aload_n 0, 1) := by decide +kernel
theorem d_Model_readExpression_17 : decode M_Model_readExpression.2.1 17 = .ok (.getfield 142, 3) := by decide +kernel
theorem d_Model_readExpression_20 : decode M_Model_readExpression.2.1 20 = .ok (.iconst 1, 1) := by decide +kernel
theorem d_Model_readExpression_21 : decode M_Model_readExpression.2.1 21 = .ok (.if_icmp .eq 12, 3) := by decide +kernel
theorem d_Model_readExpression_24 : decode M_Model_readExpression.2.1 24 = .ok (.aload_n 0, 1) := by decide +kernel
theorem d_Model_readExpression_25 : decode M_Model_readExpression.2.1 25 = .ok (.bipush 40, 2) := by decide +kernel
theorem d_Model_readExpression_27 : decode M_Model_readExpression.2.1 27 = .ok (.invokevirtual 186, 3) := by decide +kernel
theorem d_Model_readExpression_30 : decode M_Model_readExpression.2.1 30 = .ok (.ifCond .eq 7, 3) := by decide +kernel
theorem d_Model_readExpression_33 : decode M_Model_readExpression.2.1 33 = .ok (.iconst 1, 1) := by decide +kernel
theorem d_Model_readExpression_34 : decode M_Model_readExpression.2.1 34 = .ok (.goto 4, 3) := by decide +kernel
theorem d_Model_readExpression_37 : decode M_Model_readExpression.2.1 37 = .ok (.iconst 0, 1) := by decide +kernel
theorem d_Model_readExpression_38 : decode M_Model_readExpression.2.1 38 = .ok (.istore_n 2, 1) := by decide +kernel
theorem d_Model_readExpression_39 : decode M_Model_readExpression.2.1 39 = .ok (.iload_n 2, 1) := by decide +kernel
theorem d_Model_readExpression_40 : decode M_Model_readExpression.2.1 40 = .ok (.ifCond .ne 11, 3) := by decide +kernel
theorem d_Model_readExpression_43 : decode M_Model_readExpression.2.1 43 = .ok (.aload_n 0, 1) := by decide +kernel
theorem d_Model_readExpression_44 : decode M_Model_readExpression.2.1 44 = .ok (.iconst 1, 1) := by decide +kernel
theorem d_Model_readExpression_45 : decode M_Model_readExpression.2.1 45 = .ok (.invokevirtual 189, 3) := by decide +kernel
theorem d_Model_readExpression_48 : decode M_Model_readExpression.2.1 48 = .ok (.goto 14, 3) := by decide +kernel
theorem d_Model_readExpression_51 : decode M_Model_readExpression.2.1 51 = .ok (.iload_n 1, 1) := by decide +kernel
theorem d_Model_readExpression_52 : decode M_Model_readExpression.2.1 52 = .ok (.bipush 6, 2) := by decide +kernel
theorem d_Model_readExpression_54 : decode M_Model_readExpression.2.1 54 = .ok (.if_icmp .ne 8, 3) := by decide +kernel
theorem d_Model_readExpression_57 : decode M_Model_readExpression.2.1 57 = .ok (.aload_n 0, 1) := by decide +kernel
theorem d_Model_readExpression_58 : decode M_Model_readExpression.2.1 58 = .ok (.iconst 2, 1) := by decide +kernel
theorem d_Model_readExpression_59 : decode M_Model_readExpression.2.1 59 = .ok (.invokevirtual 189, 3) := by decide +kernel
theorem d_Model_readExpression_62 : decode M_Model_readExpression.2.1 62 = .ok (.aload_n 0, 1) := by decide +kernel
theorem d_Model_readExpression_63 : decode M_Model_readExpression.2.1 63 = .ok (.iload_n 1, 1) := by decide +kernel
theorem d_Model_readExpression_64 : decode M_Model_readExpression.2.1 64 = .ok (.invokevirtual 234, 3) := by decide +kernel
theorem d_Model_readExpression_67 : decode M_Model_readExpression.2.1 67 = .ok (.aload_n 0, 1) := by decide +kernel
theorem d_Model_readExpression_68 : decode M_Model_readExpression.2.1 68 = .ok (.ldc 237, 2) := by decide +kernel
theorem d_Model_readExpression_70 : decode M_Model_readExpression.2.1 70 = .ok (.invokevirtual 182, 3) := by decide +kernel
theorem d_Model_readExpression_73 : decode M_Model_readExpression.2.1 73 = .ok (.ifCond .eq 21, 3) := by decide +kernel
theorem d_Model_readExpression_76 : decode M_Model_readExpression.2.1 76 = .ok (.aload_n 0, 1) := by decide +kernel
theorem d_Model_readExpression_77 : decode M_Model_readExpression.2.1 77 = .ok (.invokevirtual 193, 3) := by decide +kernel
theorem d_Model_readExpression_80 : decode M_Model_readExpression.2.1 80 = .ok (.aload_n 0, 1) := by decide +kernel
theorem d_Model_readExpression_81 : decode M_Model_readExpression.2.1 81 = .ok (.iload_n 1, 1) := by decide +kernel
theorem d_Model_readExpression_82 : decode M_Model_readExpression.2.1 82 = .ok (.invokevirtual 234, 3) := by decide +kernel
theorem d_Model_readExpression_85 : decode M_Model_readExpression.2.1 85 = .ok (.aload_n 0, 1) := by decide +kernel
theorem d_Model_readExpression_86 : decode M_Model_readExpression.2.1 86 = .ok (.bipush (-27), 2) := by decide +kernel
theorem d_Model_readExpression_88 : decode M_Model_readExpression.2.1 88 = .ok (.invokevirtual 205, 3) := by decide +kernel
theorem d_Model_readExpression_91 : decode M_Model_readExpression.2.1 91 = .ok (.goto (-24), 3) := by decide +kernel
theorem d_Model_readExpression_94 : decode M_Model_readExpression.2.1 94 = .ok (.return_, 1) := by decide +kernel
theorem d_Model_fail_0 : decode M_Model_fail.2.1 0 = .ok (.aload_n 0, 1) := by decide +kernel
theorem d_Model_fail_1 : decode M_Model_fail.2.1 1 = .ok (.iload_n 1, 1) := by decide +kernel
theorem d_Model_fail_2 : decode M_Model_fail.2.1 2 = .ok (.putfield 114, 3) := by decide +kernel
theorem d_Model_fail_5 : decode M_Model_fail.2.1 5 = .ok (.iconst 0, 1) := by decide +kernel
theorem d_Model_fail_6 : decode M_Model_fail.2.1 6 = .ok (.ireturn, 1) := by decide +kernel
theorem d_Model_failing_0 : decode M_Model_failing.2.1 0 = .ok (.aload_n 0, 1) := by decide +kernel
theorem d_Model_failing_1 : decode M_Model_failing.2.1 1 = .ok (.iload_n 1, 1) := by decide +kernel
theorem d_Model_failing_2 : decode M_Model_failing.2.1 2 = .ok (.putfield 114, 3) := by decide +kernel
theorem d_Model_failing_5 : decode M_Model_failing.2.1 5 = .ok (.iconst 0, 1) := by decide +kernel
theorem d_Model_failing_6 : decode M_Model_failing.2.1 6 = .ok (.ireturn, 1) := by decide +kernel
theorem d_Model_isIn_0 : decode M_Model_isIn.2.1 0 = .ok (.lload_n 0, 1) := by decide +kernel
theorem d_Model_isIn_1 : decode M_Model_isIn.2.1 1 = .ok (.lload_n 2, 1) := by decide +kernel
theorem d_Model_isIn_2 : decode M_Model_isIn.2.1 2 = .ok (.lcmp, 1) := by decide +kernel
theorem d_Model_isIn_3 : decode M_Model_isIn.2.1 3 = .ok (.ifCond .lt 14, 3) := by decide +kernel
theorem d_Model_isIn_6 : decode M_Model_isIn.2.1 6 = .ok (.lload_n 0, 1) := by decide +kernel
theorem d_Model_isIn_7 : decode M_Model_isIn.2.1 7 = .ok (.lload 4, 2) := by decide +kernel
theorem d_Model_isIn_9 : decode M_Model_isIn.2.1 9 = .ok (.lcmp, 1) := by decide +kernel
theorem d_Model_isIn_10 : decode M_Model_isIn.2.1 10 = .ok (.ifCond .gt 7, 3) := by decide +kernel
theorem d_Model_isIn_13 : decode M_Model_isIn.2.1 13 = .ok (.iconst 1, 1) := by decide +kernel
theorem d_Model_isIn_14 : decode M_Model_isIn.2.1 14 = .ok (.goto 4, 3) := by decide +kernel
theorem d_Model_isIn_17 : decode M_Model_isIn.2.1 17 = .ok (.iconst 0, 1) := by decide +kernel
theorem d_Model_isIn_18 : decode M_Model_isIn.2.1 18 = .ok (.ireturn, 1) := by decide +kernel
theorem d_Model_isOf_0 : decode M_Model_isOf.2.1 0 = .ok (.iload_n 0, 1) := by decide +kernel
theorem d_Model_isOf_1 : decode M_Model_isOf.2.1 1 = .ok (.iload_n 1, 1) := by decide +kernel
theorem d_Model_isOf_2 : decode M_Model_isOf.2.1 2 = .ok (.ishr, 1) := by decide +kernel
theorem d_Model_isOf_3 : decode M_Model_isOf.2.1 3 = .ok (.iconst 1, 1) := by decide +kernel
theorem d_Model_isOf_4 : decode M_Model_isOf.2.1 4 = .ok (.iand, 1) := by decide +kernel
theorem d_Model_isOf_5 : decode M_Model_isOf.2.1 5 = .ok (.iconst 1, 1) := by decide +kernel
theorem d_Model_isOf_6 : decode M_Model_isOf.2.1 6 = .ok (.if_icmp .ne 7, 3) := by decide +kernel
theorem d_Model_isOf_9 : decode M_Model_isOf.2.1 9 = .ok (.iconst 1, 1) := by decide +kernel
theorem d_Model_isOf_10 : decode M_Model_isOf.2.1 10 = .ok (.goto 4, 3) := by decide +kernel
theorem d_Model_isOf_13 : decode M_Model_isOf.2.1 13 = .ok (.iconst 0, 1) := by decide +kernel
theorem d_Model_isOf_14 : decode M_Model_isOf.2.1 14 = .ok (.ireturn, 1) := by decide +kernel
theorem d_Model_isMonk_0 : decode M_Model_isMonk.2.1 0 = .ok (.iload_n 1, 1) := by decide +kernel
theorem d_Model_isMonk_1 : decode M_Model_isMonk.2.1 1 = .ok (.i2l, 1) := by decide +kernel
theorem d_Model_isMonk_2 : decode M_Model_isMonk.2.1 2 = .ok (.lconst 0, 1) := by decide +kernel
theorem d_Model_isMonk_3 : decode M_Model_isMonk.2.1 3 = .ok (.aload_n 0, 1) := by decide +kernel
theorem d_Model_isMonk_4 : decode M_Model_isMonk.2.1 4 = .ok (.getfield 51, 3) := by decide +kernel
theorem d_Model_isMonk_7 : decode M_Model_isMonk.2.1 7 = .ok (.iconst 0, 1) := by decide +kernel
theorem d_Model_isMonk_8 : decode M_Model_isMonk.2.1 8 = .ok (.iaload, 1) := by decide +kernel
theorem d_Model_isMonk_9 : decode M_Model_isMonk.2.1 9 = .ok (.iconst 1, 1) := by decide +kernel
theorem d_Model_isMonk_10 : decode M_Model_isMonk.2.1 10 = .ok (.isub, 1) := by decide +kernel
theorem d_Model_isMonk_11 : decode M_Model_isMonk.2.1 11 = .ok (.i2l, 1) := by decide +kernel
theorem d_Model_isMonk_12 : decode M_Model_isMonk.2.1 12 = .ok (.invokestatic 117, 3) := by decide +kernel
theorem d_Model_isMonk_15 : decode M_Model_isMonk.2.1 15 = .ok (.ireturn, 1) := by decide +kernel
theorem d_Model_isEntry_0 : decode M_Model_isEntry.2.1 0 = .ok (.iload_n 1, 1) := by decide +kernel
theorem d_Model_isEntry_1 : decode M_Model_isEntry.2.1 1 = .ok (.i2l, 1) := by decide +kernel
theorem d_Model_isEntry_2 : decode M_Model_isEntry.2.1 2 = .ok (.lconst 0, 1) := by decide +kernel
theorem d_Model_isEntry_3 : decode M_Model_isEntry.2.1 3 = .ok (.aload_n 0, 1) := by decide +kernel
theorem d_Model_isEntry_4 : decode M_Model_isEntry.2.1 4 = .ok (.getfield 121, 3) := by decide +kernel
theorem d_Model_isEntry_7 : decode M_Model_isEntry.2.1 7 = .ok (.iconst 1, 1) := by decide +kernel
theorem d_Model_isEntry_8 : decode M_Model_isEntry.2.1 8 = .ok (.isub, 1) := by decide +kernel
theorem d_Model_isEntry_9 : decode M_Model_isEntry.2.1 9 = .ok (.i2l, 1) := by decide +kernel
theorem d_Model_isEntry_10 : decode M_Model_isEntry.2.1 10 = .ok (.invokestatic 117, 3) := by decide +kernel
theorem d_Model_isEntry_13 : decode M_Model_isEntry.2.1 13 = .ok (.ireturn, 1) := by decide +kernel
theorem d_Model_isAbout_0 : decode M_Model_isAbout.2.1 0 = .ok (.iload_n 0, 1) := by decide +kernel
theorem d_Model_isAbout_1 : decode M_Model_isAbout.2.1 1 = .ok (.i2l, 1) := by decide +kernel
theorem d_Model_isAbout_2 : decode M_Model_isAbout.2.1 2 = .ok (.lconst 0, 1) := by decide +kernel
theorem d_Model_isAbout_3 : decode M_Model_isAbout.2.1 3 = .ok (.ldc2_w 124, 3) := by decide +kernel
theorem d_Model_isAbout_6 : decode M_Model_isAbout.2.1 6 = .ok (.invokestatic 117, 3) := by decide +kernel
theorem d_Model_isAbout_9 : decode M_Model_isAbout.2.1 9 = .ok (.ireturn, 1) := by decide +kernel
theorem d_Model_feed_0 : decode M_Model_feed.2.1 0 = .ok (.aload_n 0, 1) := by decide +kernel
theorem d_Model_feed_1 : decode M_Model_feed.2.1 1 = .ok (.iconst 0, 1) := by decide +kernel
theorem d_Model_feed_2 : decode M_Model_feed.2.1 2 = .ok (.putfield 114, 3) := by decide +kernel
theorem d_Model_feed_5 : decode M_Model_feed.2.1 5 = .ok (.aload_n 0, 1) := by decide +kernel
theorem d_Model_feed_6 : decode M_Model_feed.2.1 6 = .ok (.getfield 126, 3) := by decide +kernel
theorem d_Model_feed_9 : decode M_Model_feed.2.1 9 = .ok (.bipush 20, 2) := by decide +kernel
theorem d_Model_feed_11 : decode M_Model_feed.2.1 11 = .ok (.iadd, 1) := by decide +kernel
theorem d_Model_feed_12 : decode M_Model_feed.2.1 12 = .ok (.sipush 700, 3) := by decide +kernel
theorem d_Model_feed_15 : decode M_Model_feed.2.1 15 = .ok (.if_icmp .le 5, 3) := by decide +kernel
theorem d_Model_feed_18 : decode M_Model_feed.2.1 18 = .ok (.iconst (-1), 1) := by decide +kernel
theorem d_Model_feed_19 : decode M_Model_feed.2.1 19 = .ok (.ireturn, 1) := by decide +kernel
theorem d_Model_feed_20 : decode M_Model_feed.2.1 20 = .ok (.iconst 0, 1) := by decide +kernel
theorem d_Model_feed_21 : decode M_Model_feed.2.1 21 = .ok (.istore 6, 2) := by decide +kernel
theorem d_Model_feed_23 : decode M_Model_feed.2.1 23 = .ok (.iload 6, 2) := by decide +kernel
theorem d_Model_feed_25 : decode M_Model_feed.2.1 25 = .ok (.bipush 20, 2) := by decide +kernel
theorem d_Model_feed_27 : decode M_Model_feed.2.1 27 = .ok (.if_icmp .ge 93, 3) := by decide +kernel
theorem d_Model_feed_30 : decode M_Model_feed.2.1 30 = .ok (.iload 6, 2) := by decide +kernel
theorem d_Model_feed_32 : decode M_Model_feed.2.1 32 = .ok (.iconst 4, 1) := by decide +kernel
theorem d_Model_feed_33 : decode M_Model_feed.2.1 33 = .ok (.if_icmp .ge 7, 3) := by decide +kernel
theorem d_Model_feed_36 : decode M_Model_feed.2.1 36 = .ok (.iload_n 1, 1) := by decide +kernel
theorem d_Model_feed_37 : decode M_Model_feed.2.1 37 = .ok (.goto 39, 3) := by decide +kernel
theorem d_Model_feed_40 : decode M_Model_feed.2.1 40 = .ok (.iload 6, 2) := by decide +kernel
theorem d_Model_feed_42 : decode M_Model_feed.2.1 42 = .ok (.bipush 8, 2) := by decide +kernel
theorem d_Model_feed_44 : decode M_Model_feed.2.1 44 = .ok (.if_icmp .ge 7, 3) := by decide +kernel
theorem d_Model_feed_47 : decode M_Model_feed.2.1 47 = .ok (.iload_n 2, 1) := by decide +kernel
theorem d_Model_feed_48 : decode M_Model_feed.2.1 48 = .ok (.goto 28, 3) := by decide +kernel
theorem d_Model_feed_51 : decode M_Model_feed.2.1 51 = .ok (.iload 6, 2) := by decide +kernel
theorem d_Model_feed_53 : decode M_Model_feed.2.1 53 = .ok (.bipush 12, 2) := by decide +kernel
theorem d_Model_feed_55 : decode M_Model_feed.2.1 55 = .ok (.if_icmp .ge 7, 3) := by decide +kernel
theorem d_Model_feed_58 : decode M_Model_feed.2.1 58 = .ok (.iload_n 3, 1) := by decide +kernel
theorem d_Model_feed_59 : decode M_Model_feed.2.1 59 = .ok (.goto 17, 3) := by decide +kernel
theorem d_Model_feed_62 : decode M_Model_feed.2.1 62 = .ok (.iload 6, 2) := by decide +kernel
theorem d_Model_feed_64 : decode M_Model_feed.2.1 64 = .ok (.bipush 16, 2) := by decide +kernel
theorem d_Model_feed_66 : decode M_Model_feed.2.1 66 = .ok (.if_icmp .ge 8, 3) := by decide +kernel
theorem d_Model_feed_69 : decode M_Model_feed.2.1 69 = .ok (.iload 4, 2) := by decide +kernel
theorem d_Model_feed_71 : decode M_Model_feed.2.1 71 = .ok (.goto 5, 3) := by decide +kernel
theorem d_Model_feed_74 : decode M_Model_feed.2.1 74 = .ok (.iload 5, 2) := by decide +kernel
theorem d_Model_feed_76 : decode M_Model_feed.2.1 76 = .ok (.istore 7, 2) := by decide +kernel
theorem d_Model_feed_78 : decode M_Model_feed.2.1 78 = .ok (.aload_n 0, 1) := by decide +kernel
theorem d_Model_feed_79 : decode M_Model_feed.2.1 79 = .ok (.getfield 71, 3) := by decide +kernel
theorem d_Model_feed_82 : decode M_Model_feed.2.1 82 = .ok (.aload_n 0, 1) := by decide +kernel
theorem d_Model_feed_83 : decode M_Model_feed.2.1 83 = .ok (.getfield 126, 3) := by decide +kernel
theorem d_Model_feed_86 : decode M_Model_feed.2.1 86 = .ok (.iload 7, 2) := by decide +kernel
theorem d_Model_feed_88 : decode M_Model_feed.2.1 88 = .ok (.bipush 24, 2) := by decide +kernel
theorem d_Model_feed_90 : decode M_Model_feed.2.1 90 = .ok (.bipush 8, 2) := by decide +kernel
theorem d_Model_feed_92 : decode M_Model_feed.2.1 92 = .ok (.iload 6, 2) := by decide +kernel
theorem d_Model_feed_94 : decode M_Model_feed.2.1 94 = .ok (.iconst 4, 1) := by decide +kernel
theorem d_Model_feed_95 : decode M_Model_feed.2.1 95 = .ok (.irem, 1) := by decide +kernel
theorem d_Model_feed_96 : decode M_Model_feed.2.1 96 = .ok (.imul, 1) := by decide +kernel
theorem d_Model_feed_97 : decode M_Model_feed.2.1 97 = .ok (.isub, 1) := by decide +kernel
theorem d_Model_feed_98 : decode M_Model_feed.2.1 98 = .ok (.ishr, 1) := by decide +kernel
theorem d_Model_feed_99 : decode M_Model_feed.2.1 99 = .ok (.sipush 255, 3) := by decide +kernel
theorem d_Model_feed_102 : decode M_Model_feed.2.1 102 = .ok (.iand, 1) := by decide +kernel
theorem d_Model_feed_103 : decode M_Model_feed.2.1 103 = .ok (.iastore, 1) := by decide +kernel
theorem d_Model_feed_104 : decode M_Model_feed.2.1 104 = .ok (.aload_n 0, 1) := by decide +kernel
theorem d_Model_feed_105 : decode M_Model_feed.2.1 105 = .ok (.dup, 1) := by decide +kernel
theorem d_Model_feed_106 : decode M_Model_feed.2.1 106 = .ok (.getfield 126, 3) := by decide +kernel
theorem d_Model_feed_109 : decode M_Model_feed.2.1 109 = .ok (.iconst 1, 1) := by decide +kernel
theorem d_Model_feed_110 : decode M_Model_feed.2.1 110 = .ok (.iadd, 1) := by decide +kernel
theorem d_Model_feed_111 : decode M_Model_feed.2.1 111 = .ok (.putfield 126, 3) := by decide +kernel
theorem d_Model_feed_114 : decode M_Model_feed.2.1 114 = .ok (.iinc 6 1, 3) := by decide +kernel
theorem d_Model_feed_117 : decode M_Model_feed.2.1 117 = .ok (.goto (-94), 3) := by decide +kernel
theorem d_Model_feed_120 : decode M_Model_feed.2.1 120 = .ok (.aload_n 0, 1) := by decide +kernel
theorem d_Model_feed_121 : decode M_Model_feed.2.1 121 = .ok (.getfield 126, 3) := by decide +kernel
theorem d_Model_feed_124 : decode M_Model_feed.2.1 124 = .ok (.ireturn, 1) := by decide +kernel
theorem d_Model_oneNow_0 : decode M_Model_oneNow.2.1 0 = .ok (.aload_n 0, 1) := by decide +kernel
theorem d_Model_oneNow_1 : decode M_Model_oneNow.2.1 1 = .ok (.iconst 0, 1) := by decide +kernel
theorem d_Model_oneNow_2 : decode M_Model_oneNow.2.1 2 = .ok (.sipush 9999, 3) := by decide +kernel
theorem d_Model_oneNow_5 : decode M_Model_oneNow.2.1 5 = .ok (.invokevirtual 196, 3) := by decide +kernel
theorem d_Model_oneNow_8 : decode M_Model_oneNow.2.1 8 = .ok (.istore_n 2, 1) := by decide +kernel
theorem d_Model_oneNow_9 : decode M_Model_oneNow.2.1 9 = .ok (.aload_n 0, 1) := by decide +kernel
theorem d_Model_oneNow_10 : decode M_Model_oneNow.2.1 10 = .ok (.getfield 168, 3) := by decide +kernel
theorem d_Model_oneNow_13 : decode M_Model_oneNow.2.1 13 = .ok (.ifCond .ne 13, 3) := by decide +kernel
theorem d_Model_oneNow_16 : decode M_Model_oneNow.2.1 16 = .ok (.iload_n 2, 1) := by decide +kernel
theorem d_Model_oneNow_17 : decode M_Model_oneNow.2.1 17 = .ok (.iload_n 1, 1) := by decide +kernel
theorem d_Model_oneNow_18 : decode M_Model_oneNow.2.1 18 = .ok (.if_icmp .lt 8, 3) := by decide +kernel
theorem d_Model_oneNow_21 : decode M_Model_oneNow.2.1 21 = .ok (.aload_n 0, 1) := by decide +kernel
theorem d_Model_oneNow_22 : decode M_Model_oneNow.2.1 22 = .ok (.iconst 3, 1) := by decide +kernel
theorem d_Model_oneNow_23 : decode M_Model_oneNow.2.1 23 = .ok (.invokevirtual 189, 3) := by decide +kernel
theorem d_Model_oneNow_26 : decode M_Model_oneNow.2.1 26 = .ok (.aload_n 0, 1) := by decide +kernel
theorem d_Model_oneNow_27 : decode M_Model_oneNow.2.1 27 = .ok (.getfield 168, 3) := by decide +kernel
theorem d_Model_oneNow_30 : decode M_Model_oneNow.2.1 30 = .ok (.ifCond .ne 7, 3) := by decide +kernel
theorem d_Model_oneNow_33 : decode M_Model_oneNow.2.1 33 = .ok (.iload_n 2, 1) := by decide +kernel
theorem d_Model_oneNow_34 : decode M_Model_oneNow.2.1 34 = .ok (.goto 4, 3) := by decide +kernel
theorem d_Model_oneNow_37 : decode M_Model_oneNow.2.1 37 = .ok (.iconst 0, 1) := by decide +kernel
theorem d_Model_oneNow_38 : decode M_Model_oneNow.2.1 38 = .ok (.ireturn, 1) := by decide +kernel
theorem d_Model_readOne_0 : decode M_Model_readOne.2.1 0 = .ok (.aload_n 0, 1) := by decide +kernel
theorem d_Model_readOne_1 : decode M_Model_readOne.2.1 1 = .ok (.iload_n 1, 1) := by decide +kernel
theorem d_Model_readOne_2 : decode M_Model_readOne.2.1 2 = .ok (.invokevirtual 199, 3) := by decide +kernel
theorem d_Model_readOne_5 : decode M_Model_readOne.2.1 5 = .ok (.istore_n 2, 1) := by decide +kernel
theorem d_Model_readOne_6 : decode M_Model_readOne.2.1 6 = .ok (.aload_n 0, 1) := by decide +kernel
theorem d_Model_readOne_7 : decode M_Model_readOne.2.1 7 = .ok (.getfield 168, 3) := by decide +kernel
theorem d_Model_readOne_10 : decode M_Model_readOne.2.1 10 = .ok (.ifCond .ne 7, 3) := by decide +kernel
theorem d_Model_readOne_13 : decode M_Model_readOne.2.1 13 = .ok (.aload_n 0, 1) := by decide +kernel
theorem d_Model_readOne_14 : decode M_Model_readOne.2.1 14 = .ok (.invokevirtual 193, 3) := by decide +kernel
theorem d_Model_readOne_17 : decode M_Model_readOne.2.1 17 = .ok (.iload_n 2, 1) := by decide +kernel
theorem d_Model_readOne_18 : decode M_Model_readOne.2.1 18 = .ok (.ireturn, 1) := by decide +kernel
theorem d_Model_mayHave_0 : decode M_Model_mayHave.2.1 0 = .ok (.iload_n 0, 1) := by decide +kernel
theorem d_Model_mayHave_1 : decode M_Model_mayHave.2.1 1 = .ok (.iconst 2, 1) := by decide +kernel
theorem d_Model_mayHave_2 : decode M_Model_mayHave.2.1 2 = .ok (.if_icmp .ne 7, 3) := by decide +kernel
theorem d_Model_mayHave_5 : decode M_Model_mayHave.2.1 5 = .ok (.iconst 0, 1) := by decide +kernel
theorem d_Model_mayHave_6 : decode M_Model_mayHave.2.1 6 = .ok (.goto 17, 3) := by decide +kernel
theorem d_Model_mayHave_9 : decode M_Model_mayHave.2.1 9 = .ok (.iload_n 0, 1) := by decide +kernel
theorem d_Model_mayHave_10 : decode M_Model_mayHave.2.1 10 = .ok (.iconst 1, 1) := by decide +kernel
theorem d_Model_mayHave_11 : decode M_Model_mayHave.2.1 11 = .ok (.if_icmp .ne 11, 3) := by decide +kernel
theorem d_Model_mayHave_14 : decode M_Model_mayHave.2.1 14 = .ok (.iconst 5, 1) := by decide +kernel
theorem d_Model_mayHave_15 : decode M_Model_mayHave.2.1 15 = .ok (.iload_n 1, 1) := by decide +kernel
theorem d_Model_mayHave_16 : decode M_Model_mayHave.2.1 16 = .ok (.invokestatic 156, 3) := by decide +kernel
theorem d_Model_mayHave_19 : decode M_Model_mayHave.2.1 19 = .ok (.goto 4, 3) := by decide +kernel
theorem d_Model_mayHave_22 : decode M_Model_mayHave.2.1 22 = .ok (.iload_n 1, 1) := by decide +kernel
theorem d_Model_mayHave_23 : decode M_Model_mayHave.2.1 23 = .ok (.ireturn, 1) := by decide +kernel
theorem d_Model_readMonk_0 : decode M_Model_readMonk.2.1 0 = .ok (.aload_n 0, 1) := by decide +kernel
theorem d_Model_readMonk_1 : decode M_Model_readMonk.2.1 1 = .ok (.getfield 51, 3) := by decide +kernel
theorem d_Model_readMonk_4 : decode M_Model_readMonk.2.1 4 = .ok (.bipush 6, 2) := by decide +kernel
theorem d_Model_readMonk_6 : decode M_Model_readMonk.2.1 6 = .ok (.iaload, 1) := by decide +kernel
theorem d_Model_readMonk_7 : decode M_Model_readMonk.2.1 7 = .ok (.bipush 6, 2) := by decide +kernel
theorem d_Model_readMonk_9 : decode M_Model_readMonk.2.1 9 = .ok (.if_icmp .ne 8, 3) := by decide +kernel
theorem d_Model_readMonk_12 : decode M_Model_readMonk.2.1 12 = .ok (.aload_n 0, 1) := by decide +kernel
theorem d_Model_readMonk_13 : decode M_Model_readMonk.2.1 13 = .ok (.iconst 2, 1) := by decide +kernel
theorem d_Model_readMonk_14 : decode M_Model_readMonk.2.1 14 = .ok (.invokevirtual 189, 3) := by decide +kernel
theorem d_Model_readMonk_17 : decode M_Model_readMonk.2.1 17 = .ok (.aload_n 0, 1) := by decide +kernel
theorem d_Model_readMonk_18 : decode M_Model_readMonk.2.1 18 = .ok (.getfield 168, 3) := by decide +kernel
theorem d_Model_readMonk_21 : decode M_Model_readMonk.2.1 21 = .ok (.ifCond .eq 4, 3) := by decide +kernel
theorem d_Model_readMonk_24 : decode M_Model_readMonk.2.1 24 = .ok (.return_, 1) := by decide +kernel
theorem d_Model_readMonk_25 : decode M_Model_readMonk.2.1 25 = .ok (.aload_n 0, 1) := by decide +kernel
theorem d_Model_readMonk_26 : decode M_Model_readMonk.2.1 26 = .ok (.invokevirtual 193, 3) := by decide +kernel
theorem d_Model_readMonk_29 : decode M_Model_readMonk.2.1 29 = .ok (.bipush 6, 2) := by decide +kernel
theorem d_Model_readMonk_31 : decode M_Model_readMonk.2.1 31 = .ok (.aload_n 0, 1) := by decide +kernel
theorem d_Model_readMonk_32 : decode M_Model_readMonk.2.1 32 = .ok (.getfield 51, 3) := by decide +kernel
theorem d_Model_readMonk_35 : decode M_Model_readMonk.2.1 35 = .ok (.bipush 6, 2) := by decide +kernel
theorem d_Model_readMonk_37 : decode M_Model_readMonk.2.1 37 = .ok (.iaload, 1) := by decide +kernel
theorem d_Model_readMonk_38 : decode M_Model_readMonk.2.1 38 = .ok (.iadd, 1) := by decide +kernel
theorem d_Model_readMonk_39 : decode M_Model_readMonk.2.1 39 = .ok (.istore_n 2, 1) := by decide +kernel
theorem d_Model_readMonk_40 : decode M_Model_readMonk.2.1 40 = .ok (.aload_n 0, 1) := by decide +kernel
theorem d_Model_readMonk_41 : decode M_Model_readMonk.2.1 41 = .ok (.getfield 55, 3) := by decide +kernel
theorem d_Model_readMonk_44 : decode M_Model_readMonk.2.1 44 = .ok (.iload_n 2, 1) := by decide +kernel
theorem d_Model_readMonk_45 : decode M_Model_readMonk.2.1 45 = .ok (.iload_n 1, 1) := by decide +kernel
theorem d_Model_readMonk_46 : decode M_Model_readMonk.2.1 46 = .ok (.iastore, 1) := by decide +kernel
theorem d_Model_readMonk_47 : decode M_Model_readMonk.2.1 47 = .ok (.aload_n 0, 1) := by decide +kernel
theorem d_Model_readMonk_48 : decode M_Model_readMonk.2.1 48 = .ok (.getfield 57, 3) := by decide +kernel
theorem d_Model_readMonk_51 : decode M_Model_readMonk.2.1 51 = .ok (.iload_n 2, 1) := by decide +kernel
theorem d_Model_readMonk_52 : decode M_Model_readMonk.2.1 52 = .ok (.aload_n 0, 1) := by decide +kernel
theorem d_Model_readMonk_53 : decode M_Model_readMonk.2.1 53 = .ok (.iconst 0, 1) := by decide +kernel
theorem d_Model_readMonk_54 : decode M_Model_readMonk.2.1 54 = .ok (.bipush 99, 2) := by decide +kernel
theorem d_Model_readMonk_56 : decode M_Model_readMonk.2.1 56 = .ok (.invokevirtual 202, 3) := by decide +kernel
theorem d_Model_readMonk_59 : decode M_Model_readMonk.2.1 59 = .ok (.iastore, 1) := by decide +kernel
theorem d_Model_readMonk_60 : decode M_Model_readMonk.2.1 60 = .ok (.aload_n 0, 1) := by decide +kernel
theorem d_Model_readMonk_61 : decode M_Model_readMonk.2.1 61 = .ok (.getfield 59, 3) := by decide +kernel
theorem d_Model_readMonk_64 : decode M_Model_readMonk.2.1 64 = .ok (.iload_n 2, 1) := by decide +kernel
theorem d_Model_readMonk_65 : decode M_Model_readMonk.2.1 65 = .ok (.aload_n 0, 1) := by decide +kernel
theorem d_Model_readMonk_66 : decode M_Model_readMonk.2.1 66 = .ok (.iconst 0, 1) := by decide +kernel
theorem d_Model_readMonk_67 : decode M_Model_readMonk.2.1 67 = .ok (.bipush 60, 2) := by decide +kernel
theorem d_Model_readMonk_69 : decode M_Model_readMonk.2.1 69 = .ok (.invokevirtual 202, 3) := by decide +kernel
theorem d_Model_readMonk_72 : decode M_Model_readMonk.2.1 72 = .ok (.iload_n 1, 1) := by decide +kernel
theorem d_Model_readMonk_73 : decode M_Model_readMonk.2.1 73 = .ok (.aload_n 0, 1) := by decide +kernel
theorem d_Model_readMonk_74 : decode M_Model_readMonk.2.1 74 = .ok (.getfield 51, 3) := by decide +kernel
theorem d_Model_readMonk_77 : decode M_Model_readMonk.2.1 77 = .ok (.bipush 7, 2) := by decide +kernel
theorem d_Model_readMonk_79 : decode M_Model_readMonk.2.1 79 = .ok (.iaload, 1) := by decide +kernel
theorem d_Model_readMonk_80 : decode M_Model_readMonk.2.1 80 = .ok (.invokestatic 239, 3) := by decide +kernel
theorem d_Model_readMonk_83 : decode M_Model_readMonk.2.1 83 = .ok (.invokestatic 156, 3) := by decide +kernel
theorem d_Model_readMonk_86 : decode M_Model_readMonk.2.1 86 = .ok (.iastore, 1) := by decide +kernel
theorem d_Model_readMonk_87 : decode M_Model_readMonk.2.1 87 = .ok (.aload_n 0, 1) := by decide +kernel
theorem d_Model_readMonk_88 : decode M_Model_readMonk.2.1 88 = .ok (.getfield 51, 3) := by decide +kernel
theorem d_Model_readMonk_91 : decode M_Model_readMonk.2.1 91 = .ok (.bipush 6, 2) := by decide +kernel
theorem d_Model_readMonk_93 : decode M_Model_readMonk.2.1 93 = .ok (.dup2, 1) := by decide +kernel
theorem d_Model_readMonk_94 : decode M_Model_readMonk.2.1 94 = .ok (.iaload, 1) := by decide +kernel
theorem d_Model_readMonk_95 : decode M_Model_readMonk.2.1 95 = .ok (.iconst 1, 1) := by decide +kernel
theorem d_Model_readMonk_96 : decode M_Model_readMonk.2.1 96 = .ok (.iadd, 1) := by decide +kernel
theorem d_Model_readMonk_97 : decode M_Model_readMonk.2.1 97 = .ok (.iastore, 1) := by decide +kernel
theorem d_Model_readMonk_98 : decode M_Model_readMonk.2.1 98 = .ok (.return_, 1) := by decide +kernel
theorem d_Model_readAt_0 : decode M_Model_readAt.2.1 0 = .ok (.bipush 9, 2) := by decide +kernel
theorem d_Model_readAt_2 : decode M_Model_readAt.2.1 2 = .ok (.bipush 24, 2) := by decide +kernel
theorem d_Model_readAt_4 : decode M_Model_readAt.2.1 4 = .ok (.iload_n 0, 1) := by decide +kernel
theorem d_Model_readAt_5 : decode M_Model_readAt.2.1 5 = .ok (.iadd, 1) := by decide +kernel
theorem d_Model_readAt_6 : decode M_Model_readAt.2.1 6 = .ok (.imul, 1) := by decide +kernel
theorem d_Model_readAt_7 : decode M_Model_readAt.2.1 7 = .ok (.ireturn, 1) := by decide +kernel
theorem d_Model_anotherEntry_0 : decode M_Model_anotherEntry.2.1 0 = .ok (.aload_n 0, 1) := by decide +kernel
theorem d_Model_anotherEntry_1 : decode M_Model_anotherEntry.2.1 1 = .ok (.getfield 51, 3) := by decide +kernel
theorem d_Model_anotherEntry_4 : decode M_Model_anotherEntry.2.1 4 = .ok (.bipush 10, 2) := by decide +kernel
theorem d_Model_anotherEntry_6 : decode M_Model_anotherEntry.2.1 6 = .ok (.iaload, 1) := by decide +kernel
theorem d_Model_anotherEntry_7 : decode M_Model_anotherEntry.2.1 7 = .ok (.bipush 24, 2) := by decide +kernel
theorem d_Model_anotherEntry_9 : decode M_Model_anotherEntry.2.1 9 = .ok (.if_icmp .ne 8, 3) := by decide +kernel
theorem d_Model_anotherEntry_12 : decode M_Model_anotherEntry.2.1 12 = .ok (.aload_n 0, 1) := by decide +kernel
theorem d_Model_anotherEntry_13 : decode M_Model_anotherEntry.2.1 13 = .ok (.iconst 2, 1) := by decide +kernel
theorem d_Model_anotherEntry_14 : decode M_Model_anotherEntry.2.1 14 = .ok (.invokevirtual 189, 3) := by decide +kernel
theorem d_Model_anotherEntry_17 : decode M_Model_anotherEntry.2.1 17 = .ok (.aload_n 0, 1) := by decide +kernel
theorem d_Model_anotherEntry_18 : decode M_Model_anotherEntry.2.1 18 = .ok (.getfield 168, 3) := by decide +kernel
theorem d_Model_anotherEntry_21 : decode M_Model_anotherEntry.2.1 21 = .ok (.ifCond .eq 5, 3) := by decide +kernel
theorem d_Model_anotherEntry_24 : decode M_Model_anotherEntry.2.1 24 = .ok (.iconst 0, 1) := by decide +kernel
theorem d_Model_anotherEntry_25 : decode M_Model_anotherEntry.2.1 25 = .ok (.ireturn, 1) := by decide +kernel
theorem d_Model_anotherEntry_26 : decode M_Model_anotherEntry.2.1 26 = .ok (.aload_n 0, 1) := by decide +kernel
theorem d_Model_anotherEntry_27 : decode M_Model_anotherEntry.2.1 27 = .ok (.invokevirtual 193, 3) := by decide +kernel
theorem d_Model_anotherEntry_30 : decode M_Model_anotherEntry.2.1 30 = .ok (.iconst 1, 1) := by decide +kernel
theorem d_Model_anotherEntry_31 : decode M_Model_anotherEntry.2.1 31 = .ok (.ireturn, 1) := by decide +kernel
theorem d_Model_readEntry_0 : decode M_Model_readEntry.2.1 0 = .ok (.aload_n 0, 1) := by decide +kernel
theorem d_Model_readEntry_1 : decode M_Model_readEntry.2.1 1 = .ok (.invokevirtual 242, 3) := by decide +kernel
theorem d_Model_readEntry_4 : decode M_Model_readEntry.2.1 4 = .ok (.ifCond .ne 4, 3) := by decide +kernel
theorem d_Model_readEntry_7 : decode M_Model_readEntry.2.1 7 = .ok (.return_, 1) := by decide +kernel
theorem d_Model_readEntry_8 : decode M_Model_readEntry.2.1 8 = .ok (.aload_n 0, 1) := by decide +kernel
theorem d_Model_readEntry_9 : decode M_Model_readEntry.2.1 9 = .ok (.getfield 51, 3) := by decide +kernel
theorem d_Model_readEntry_12 : decode M_Model_readEntry.2.1 12 = .ok (.bipush 10, 2) := by decide +kernel
theorem d_Model_readEntry_14 : decode M_Model_readEntry.2.1 14 = .ok (.iaload, 1) := by decide +kernel
theorem d_Model_readEntry_15 : decode M_Model_readEntry.2.1 15 = .ok (.invokestatic 246, 3) := by decide +kernel
theorem d_Model_readEntry_18 : decode M_Model_readEntry.2.1 18 = .ok (.istore_n 2, 1) := by decide +kernel
theorem d_Model_readEntry_19 : decode M_Model_readEntry.2.1 19 = .ok (.aload_n 0, 1) := by decide +kernel
theorem d_Model_readEntry_20 : decode M_Model_readEntry.2.1 20 = .ok (.getfield 62, 3) := by decide +kernel
theorem d_Model_readEntry_23 : decode M_Model_readEntry.2.1 23 = .ok (.iload_n 2, 1) := by decide +kernel
theorem d_Model_readEntry_24 : decode M_Model_readEntry.2.1 24 = .ok (.iconst 0, 1) := by decide +kernel
theorem d_Model_readEntry_25 : decode M_Model_readEntry.2.1 25 = .ok (.iadd, 1) := by decide +kernel
theorem d_Model_readEntry_26 : decode M_Model_readEntry.2.1 26 = .ok (.iload_n 1, 1) := by decide +kernel
theorem d_Model_readEntry_27 : decode M_Model_readEntry.2.1 27 = .ok (.iastore, 1) := by decide +kernel
theorem d_Model_readEntry_28 : decode M_Model_readEntry.2.1 28 = .ok (.aload_n 0, 1) := by decide +kernel
theorem d_Model_readEntry_29 : decode M_Model_readEntry.2.1 29 = .ok (.getfield 62, 3) := by decide +kernel
theorem d_Model_readEntry_32 : decode M_Model_readEntry.2.1 32 = .ok (.iload_n 2, 1) := by decide +kernel
theorem d_Model_readEntry_33 : decode M_Model_readEntry.2.1 33 = .ok (.iconst 1, 1) := by decide +kernel
theorem d_Model_readEntry_34 : decode M_Model_readEntry.2.1 34 = .ok (.iadd, 1) := by decide +kernel
theorem d_Model_readEntry_35 : decode M_Model_readEntry.2.1 35 = .ok (.aload_n 0, 1) := by decide +kernel
theorem d_Model_readEntry_36 : decode M_Model_readEntry.2.1 36 = .ok (.aload_n 0, 1) := by decide +kernel
theorem d_Model_readEntry_37 : decode M_Model_readEntry.2.1 37 = .ok (.getfield 51, 3) := by decide +kernel
theorem d_Model_readEntry_40 : decode M_Model_readEntry.2.1 40 = .ok (.bipush 6, 2) := by decide +kernel
theorem d_Model_readEntry_42 : decode M_Model_readEntry.2.1 42 = .ok (.iaload, 1) := by decide +kernel
theorem d_Model_readEntry_43 : decode M_Model_readEntry.2.1 43 = .ok (.invokevirtual 249, 3) := by decide +kernel
theorem d_Model_readEntry_46 : decode M_Model_readEntry.2.1 46 = .ok (.iastore, 1) := by decide +kernel
theorem d_Model_readEntry_47 : decode M_Model_readEntry.2.1 47 = .ok (.aload_n 0, 1) := by decide +kernel
theorem d_Model_readEntry_48 : decode M_Model_readEntry.2.1 48 = .ok (.getfield 62, 3) := by decide +kernel
theorem d_Model_readEntry_51 : decode M_Model_readEntry.2.1 51 = .ok (.iload_n 2, 1) := by decide +kernel
theorem d_Model_readEntry_52 : decode M_Model_readEntry.2.1 52 = .ok (.iconst 2, 1) := by decide +kernel
theorem d_Model_readEntry_53 : decode M_Model_readEntry.2.1 53 = .ok (.iadd, 1) := by decide +kernel
theorem d_Model_readEntry_54 : decode M_Model_readEntry.2.1 54 = .ok (.aload_n 0, 1) := by decide +kernel
theorem d_Model_readEntry_55 : decode M_Model_readEntry.2.1 55 = .ok (.iconst 0, 1) := by decide +kernel
theorem d_Model_readEntry_56 : decode M_Model_readEntry.2.1 56 = .ok (.bipush 60, 2) := by decide +kernel
theorem d_Model_readEntry_58 : decode M_Model_readEntry.2.1 58 = .ok (.invokevirtual 202, 3) := by decide +kernel
theorem d_Model_readEntry_61 : decode M_Model_readEntry.2.1 61 = .ok (.ineg, 1) := by decide +kernel
theorem d_Model_readEntry_62 : decode M_Model_readEntry.2.1 62 = .ok (.iastore, 1) := by decide +kernel
theorem d_Model_readEntry_63 : decode M_Model_readEntry.2.1 63 = .ok (.aload_n 0, 1) := by decide +kernel
theorem d_Model_readEntry_64 : decode M_Model_readEntry.2.1 64 = .ok (.getfield 62, 3) := by decide +kernel
theorem d_Model_readEntry_67 : decode M_Model_readEntry.2.1 67 = .ok (.iload_n 2, 1) := by decide +kernel
theorem d_Model_readEntry_68 : decode M_Model_readEntry.2.1 68 = .ok (.iconst 3, 1) := by decide +kernel
theorem d_Model_readEntry_69 : decode M_Model_readEntry.2.1 69 = .ok (.iadd, 1) := by decide +kernel
theorem d_Model_readEntry_70 : decode M_Model_readEntry.2.1 70 = .ok (.aload_n 0, 1) := by decide +kernel
theorem d_Model_readEntry_71 : decode M_Model_readEntry.2.1 71 = .ok (.iconst 0, 1) := by decide +kernel
theorem d_Model_readEntry_72 : decode M_Model_readEntry.2.1 72 = .ok (.bipush 7, 2) := by decide +kernel
theorem d_Model_readEntry_74 : decode M_Model_readEntry.2.1 74 = .ok (.invokevirtual 202, 3) := by decide +kernel
theorem d_Model_readEntry_77 : decode M_Model_readEntry.2.1 77 = .ok (.iastore, 1) := by decide +kernel
theorem d_Model_readEntry_78 : decode M_Model_readEntry.2.1 78 = .ok (.aload_n 0, 1) := by decide +kernel
theorem d_Model_readEntry_79 : decode M_Model_readEntry.2.1 79 = .ok (.getfield 62, 3) := by decide +kernel
theorem d_Model_readEntry_82 : decode M_Model_readEntry.2.1 82 = .ok (.iload_n 2, 1) := by decide +kernel
theorem d_Model_readEntry_83 : decode M_Model_readEntry.2.1 83 = .ok (.iconst 4, 1) := by decide +kernel
theorem d_Model_readEntry_84 : decode M_Model_readEntry.2.1 84 = .ok (.iadd, 1) := by decide +kernel
theorem d_Model_readEntry_85 : decode M_Model_readEntry.2.1 85 = .ok (.aload_n 0, 1) := by decide +kernel
theorem d_Model_readEntry_86 : decode M_Model_readEntry.2.1 86 = .ok (.iconst 0, 1) := by decide +kernel
theorem d_Model_readEntry_87 : decode M_Model_readEntry.2.1 87 = .ok (.sipush 999, 3) := by decide +kernel
theorem d_Model_readEntry_90 : decode M_Model_readEntry.2.1 90 = .ok (.invokevirtual 202, 3) := by decide +kernel
theorem d_Model_readEntry_93 : decode M_Model_readEntry.2.1 93 = .ok (.iastore, 1) := by decide +kernel
theorem d_Model_readEntry_94 : decode M_Model_readEntry.2.1 94 = .ok (.aload_n 0, 1) := by decide +kernel
theorem d_Model_readEntry_95 : decode M_Model_readEntry.2.1 95 = .ok (.getfield 62, 3) := by decide +kernel
theorem d_Model_readEntry_98 : decode M_Model_readEntry.2.1 98 = .ok (.iload_n 2, 1) := by decide +kernel
theorem d_Model_readEntry_99 : decode M_Model_readEntry.2.1 99 = .ok (.iconst 5, 1) := by decide +kernel
theorem d_Model_readEntry_100 : decode M_Model_readEntry.2.1 100 = .ok (.iadd, 1) := by decide +kernel
theorem d_Model_readEntry_101 : decode M_Model_readEntry.2.1 101 = .ok (.iconst 0, 1) := by decide +kernel
theorem d_Model_readEntry_102 : decode M_Model_readEntry.2.1 102 = .ok (.iastore, 1) := by decide +kernel
theorem d_Model_readEntry_103 : decode M_Model_readEntry.2.1 103 = .ok (.aload_n 0, 1) := by decide +kernel
theorem d_Model_readEntry_104 : decode M_Model_readEntry.2.1 104 = .ok (.ldc 252, 2) := by decide +kernel
theorem d_Model_readEntry_106 : decode M_Model_readEntry.2.1 106 = .ok (.invokevirtual 182, 3) := by decide +kernel
theorem d_Model_readEntry_109 : decode M_Model_readEntry.2.1 109 = .ok (.ifCond .eq 22, 3) := by decide +kernel
theorem d_Model_readEntry_112 : decode M_Model_readEntry.2.1 112 = .ok (.aload_n 0, 1) := by decide +kernel
theorem d_Model_readEntry_113 : decode M_Model_readEntry.2.1 113 = .ok (.invokevirtual 193, 3) := by decide +kernel
theorem d_Model_readEntry_116 : decode M_Model_readEntry.2.1 116 = .ok (.aload_n 0, 1) := by decide +kernel
theorem d_Model_readEntry_117 : decode M_Model_readEntry.2.1 117 = .ok (.getfield 62, 3) := by decide +kernel
theorem d_Model_readEntry_120 : decode M_Model_readEntry.2.1 120 = .ok (.iload_n 2, 1) := by decide +kernel
theorem d_Model_readEntry_121 : decode M_Model_readEntry.2.1 121 = .ok (.iconst 5, 1) := by decide +kernel
theorem d_Model_readEntry_122 : decode M_Model_readEntry.2.1 122 = .ok (.iadd, 1) := by decide +kernel
theorem d_Model_readEntry_123 : decode M_Model_readEntry.2.1 123 = .ok (.aload_n 0, 1) := by decide +kernel
theorem d_Model_readEntry_124 : decode M_Model_readEntry.2.1 124 = .ok (.iconst 0, 1) := by decide +kernel
theorem d_Model_readEntry_125 : decode M_Model_readEntry.2.1 125 = .ok (.bipush 7, 2) := by decide +kernel
theorem d_Model_readEntry_127 : decode M_Model_readEntry.2.1 127 = .ok (.invokevirtual 202, 3) := by decide +kernel
theorem d_Model_readEntry_130 : decode M_Model_readEntry.2.1 130 = .ok (.iastore, 1) := by decide +kernel
theorem d_Model_readEntry_131 : decode M_Model_readEntry.2.1 131 = .ok (.aload_n 0, 1) := by decide +kernel
theorem d_Model_readEntry_132 : decode M_Model_readEntry.2.1 132 = .ok (.getfield 62, 3) := by decide +kernel
theorem d_Model_readEntry_135 : decode M_Model_readEntry.2.1 135 = .ok (.iload_n 2, 1) := by decide +kernel
theorem d_Model_readEntry_136 : decode M_Model_readEntry.2.1 136 = .ok (.bipush 6, 2) := by decide +kernel
theorem d_Model_readEntry_138 : decode M_Model_readEntry.2.1 138 = .ok (.iadd, 1) := by decide +kernel
theorem d_Model_readEntry_139 : decode M_Model_readEntry.2.1 139 = .ok (.aload_n 0, 1) := by decide +kernel
theorem d_Model_readEntry_140 : decode M_Model_readEntry.2.1 140 = .ok (.ldc 254, 2) := by decide +kernel
theorem d_Model_readEntry_142 : decode M_Model_readEntry.2.1 142 = .ok (.invokevirtual 182, 3) := by decide +kernel
theorem d_Model_readEntry_145 : decode M_Model_readEntry.2.1 145 = .ok (.ifCond .eq 7, 3) := by decide +kernel
theorem d_Model_readEntry_148 : decode M_Model_readEntry.2.1 148 = .ok (.iconst 1, 1) := by decide +kernel
theorem d_Model_readEntry_149 : decode M_Model_readEntry.2.1 149 = .ok (.goto 4, 3) := by decide +kernel
theorem d_Model_readEntry_152 : decode M_Model_readEntry.2.1 152 = .ok (.iconst 0, 1) := by decide +kernel
theorem d_Model_readEntry_153 : decode M_Model_readEntry.2.1 153 = .ok (.iastore, 1) := by decide +kernel
theorem d_Model_readEntry_154 : decode M_Model_readEntry.2.1 154 = .ok (.aload_n 0, 1) := by decide +kernel
theorem d_Model_readEntry_155 : decode M_Model_readEntry.2.1 155 = .ok (.getfield 62, 3) := by decide +kernel
theorem d_Model_readEntry_158 : decode M_Model_readEntry.2.1 158 = .ok (.iload_n 2, 1) := by decide +kernel
theorem d_Model_readEntry_159 : decode M_Model_readEntry.2.1 159 = .ok (.bipush 6, 2) := by decide +kernel
theorem d_Model_readEntry_161 : decode M_Model_readEntry.2.1 161 = .ok (.iadd, 1) := by decide +kernel
theorem d_Model_readEntry_162 : decode M_Model_readEntry.2.1 162 = .ok (.iaload, 1) := by decide +kernel
theorem d_Model_readEntry_163 : decode M_Model_readEntry.2.1 163 = .ok (.iconst 1, 1) := by decide +kernel
theorem d_Model_readEntry_164 : decode M_Model_readEntry.2.1 164 = .ok (.if_icmp .ne 7, 3) := by decide +kernel
theorem d_Model_readEntry_167 : decode M_Model_readEntry.2.1 167 = .ok (.aload_n 0, 1) := by decide +kernel
theorem d_Model_readEntry_168 : decode M_Model_readEntry.2.1 168 = .ok (.invokevirtual 193, 3) := by decide +kernel
theorem d_Model_readEntry_171 : decode M_Model_readEntry.2.1 171 = .ok (.aload_n 0, 1) := by decide +kernel
theorem d_Model_readEntry_172 : decode M_Model_readEntry.2.1 172 = .ok (.getfield 62, 3) := by decide +kernel
theorem d_Model_readEntry_175 : decode M_Model_readEntry.2.1 175 = .ok (.iload_n 2, 1) := by decide +kernel
theorem d_Model_readEntry_176 : decode M_Model_readEntry.2.1 176 = .ok (.bipush 7, 2) := by decide +kernel
theorem d_Model_readEntry_178 : decode M_Model_readEntry.2.1 178 = .ok (.iadd, 1) := by decide +kernel
theorem d_Model_readEntry_179 : decode M_Model_readEntry.2.1 179 = .ok (.aload_n 0, 1) := by decide +kernel
theorem d_Model_readEntry_180 : decode M_Model_readEntry.2.1 180 = .ok (.getfield 51, 3) := by decide +kernel
theorem d_Model_readEntry_183 : decode M_Model_readEntry.2.1 183 = .ok (.bipush 10, 2) := by decide +kernel
theorem d_Model_readEntry_185 : decode M_Model_readEntry.2.1 185 = .ok (.iaload, 1) := by decide +kernel
theorem d_Model_readEntry_186 : decode M_Model_readEntry.2.1 186 = .ok (.iastore, 1) := by decide +kernel
theorem d_Model_readEntry_187 : decode M_Model_readEntry.2.1 187 = .ok (.aload_n 0, 1) := by decide +kernel
theorem d_Model_readEntry_188 : decode M_Model_readEntry.2.1 188 = .ok (.getfield 62, 3) := by decide +kernel
theorem d_Model_readEntry_191 : decode M_Model_readEntry.2.1 191 = .ok (.iload_n 2, 1) := by decide +kernel
theorem d_Model_readEntry_192 : decode M_Model_readEntry.2.1 192 = .ok (.bipush 8, 2) := by decide +kernel
theorem d_Model_readEntry_194 : decode M_Model_readEntry.2.1 194 = .ok (.iadd, 1) := by decide +kernel
theorem d_Model_readEntry_195 : decode M_Model_readEntry.2.1 195 = .ok (.iconst 0, 1) := by decide +kernel
theorem d_Model_readEntry_196 : decode M_Model_readEntry.2.1 196 = .ok (.iastore, 1) := by decide +kernel
theorem d_Model_readEntry_197 : decode M_Model_readEntry.2.1 197 = .ok (.aload_n 0, 1) := by decide +kernel
theorem d_Model_readEntry_198 : decode M_Model_readEntry.2.1 198 = .ok (.getfield 51, 3) := by decide +kernel
theorem d_Model_readEntry_201 : decode M_Model_readEntry.2.1 201 = .ok (.bipush 10, 2) := by decide +kernel
theorem d_Model_readEntry_203 : decode M_Model_readEntry.2.1 203 = .ok (.dup2, 1) := by decide +kernel
theorem d_Model_readEntry_204 : decode M_Model_readEntry.2.1 204 = .ok (.iaload, 1) := by decide +kernel
theorem d_Model_readEntry_205 : decode M_Model_readEntry.2.1 205 = .ok (.iconst 1, 1) := by decide +kernel
theorem d_Model_readEntry_206 : decode M_Model_readEntry.2.1 206 = .ok (.iadd, 1) := by decide +kernel
theorem d_Model_readEntry_207 : decode M_Model_readEntry.2.1 207 = .ok (.iastore, 1) := by decide +kernel
theorem d_Model_readEntry_208 : decode M_Model_readEntry.2.1 208 = .ok (.return_, 1) := by decide +kernel
theorem d_Model_readCopy_0 : decode M_Model_readCopy.2.1 0 = .ok (.aload_n 0, 1) := by decide +kernel
theorem d_Model_readCopy_1 : decode M_Model_readCopy.2.1 1 = .ok (.invokevirtual 242, 3) := by decide +kernel
theorem d_Model_readCopy_4 : decode M_Model_readCopy.2.1 4 = .ok (.ifCond .ne 4, 3) := by decide +kernel
theorem d_Model_readCopy_7 : decode M_Model_readCopy.2.1 7 = .ok (.return_, 1) := by decide +kernel
theorem d_Model_readCopy_8 : decode M_Model_readCopy.2.1 8 = .ok (.aload_n 0, 1) := by decide +kernel
theorem d_Model_readCopy_9 : decode M_Model_readCopy.2.1 9 = .ok (.aload_n 0, 1) := by decide +kernel
theorem d_Model_readCopy_10 : decode M_Model_readCopy.2.1 10 = .ok (.getfield 51, 3) := by decide +kernel
theorem d_Model_readCopy_13 : decode M_Model_readCopy.2.1 13 = .ok (.bipush 10, 2) := by decide +kernel
theorem d_Model_readCopy_15 : decode M_Model_readCopy.2.1 15 = .ok (.iaload, 1) := by decide +kernel
theorem d_Model_readCopy_16 : decode M_Model_readCopy.2.1 16 = .ok (.invokevirtual 249, 3) := by decide +kernel
theorem d_Model_readCopy_19 : decode M_Model_readCopy.2.1 19 = .ok (.invokestatic 246, 3) := by decide +kernel
theorem d_Model_readCopy_22 : decode M_Model_readCopy.2.1 22 = .ok (.istore_n 1, 1) := by decide +kernel
theorem d_Model_readCopy_23 : decode M_Model_readCopy.2.1 23 = .ok (.aload_n 0, 1) := by decide +kernel
theorem d_Model_readCopy_24 : decode M_Model_readCopy.2.1 24 = .ok (.aload_n 0, 1) := by decide +kernel
theorem d_Model_readCopy_25 : decode M_Model_readCopy.2.1 25 = .ok (.getfield 51, 3) := by decide +kernel
theorem d_Model_readCopy_28 : decode M_Model_readCopy.2.1 28 = .ok (.bipush 6, 2) := by decide +kernel
theorem d_Model_readCopy_30 : decode M_Model_readCopy.2.1 30 = .ok (.iaload, 1) := by decide +kernel
theorem d_Model_readCopy_31 : decode M_Model_readCopy.2.1 31 = .ok (.invokevirtual 199, 3) := by decide +kernel
theorem d_Model_readCopy_34 : decode M_Model_readCopy.2.1 34 = .ok (.istore_n 2, 1) := by decide +kernel
theorem d_Model_readCopy_35 : decode M_Model_readCopy.2.1 35 = .ok (.iconst 0, 1) := by decide +kernel
theorem d_Model_readCopy_36 : decode M_Model_readCopy.2.1 36 = .ok (.istore_n 3, 1) := by decide +kernel
theorem d_Model_readCopy_37 : decode M_Model_readCopy.2.1 37 = .ok (.iload_n 3, 1) := by decide +kernel
theorem d_Model_readCopy_38 : decode M_Model_readCopy.2.1 38 = .ok (.aload_n 0, 1) := by decide +kernel
theorem d_Model_readCopy_39 : decode M_Model_readCopy.2.1 39 = .ok (.getfield 51, 3) := by decide +kernel
theorem d_Model_readCopy_42 : decode M_Model_readCopy.2.1 42 = .ok (.bipush 10, 2) := by decide +kernel
theorem d_Model_readCopy_44 : decode M_Model_readCopy.2.1 44 = .ok (.iaload, 1) := by decide +kernel
theorem d_Model_readCopy_45 : decode M_Model_readCopy.2.1 45 = .ok (.if_icmp .ge 60, 3) := by decide +kernel
theorem d_Model_readCopy_48 : decode M_Model_readCopy.2.1 48 = .ok (.aload_n 0, 1) := by decide +kernel
theorem d_Model_readCopy_49 : decode M_Model_readCopy.2.1 49 = .ok (.getfield 168, 3) := by decide +kernel
theorem d_Model_readCopy_52 : decode M_Model_readCopy.2.1 52 = .ok (.ifCond .ne 53, 3) := by decide +kernel
theorem d_Model_readCopy_55 : decode M_Model_readCopy.2.1 55 = .ok (.aload_n 0, 1) := by decide +kernel
theorem d_Model_readCopy_56 : decode M_Model_readCopy.2.1 56 = .ok (.getfield 62, 3) := by decide +kernel
theorem d_Model_readCopy_59 : decode M_Model_readCopy.2.1 59 = .ok (.iload_n 3, 1) := by decide +kernel
theorem d_Model_readCopy_60 : decode M_Model_readCopy.2.1 60 = .ok (.invokestatic 246, 3) := by decide +kernel
theorem d_Model_readCopy_63 : decode M_Model_readCopy.2.1 63 = .ok (.bipush 7, 2) := by decide +kernel
theorem d_Model_readCopy_65 : decode M_Model_readCopy.2.1 65 = .ok (.iadd, 1) := by decide +kernel
theorem d_Model_readCopy_66 : decode M_Model_readCopy.2.1 66 = .ok (.iaload, 1) := by decide +kernel
theorem d_Model_readCopy_67 : decode M_Model_readCopy.2.1 67 = .ok (.aload_n 0, 1) := by decide +kernel
theorem d_Model_readCopy_68 : decode M_Model_readCopy.2.1 68 = .ok (.getfield 62, 3) := by decide +kernel
theorem d_Model_readCopy_71 : decode M_Model_readCopy.2.1 71 = .ok (.iload_n 1, 1) := by decide +kernel
theorem d_Model_readCopy_72 : decode M_Model_readCopy.2.1 72 = .ok (.bipush 7, 2) := by decide +kernel
theorem d_Model_readCopy_74 : decode M_Model_readCopy.2.1 74 = .ok (.iadd, 1) := by decide +kernel
theorem d_Model_readCopy_75 : decode M_Model_readCopy.2.1 75 = .ok (.iaload, 1) := by decide +kernel
theorem d_Model_readCopy_76 : decode M_Model_readCopy.2.1 76 = .ok (.if_icmp .ne 23, 3) := by decide +kernel
theorem d_Model_readCopy_79 : decode M_Model_readCopy.2.1 79 = .ok (.aload_n 0, 1) := by decide +kernel
theorem d_Model_readCopy_80 : decode M_Model_readCopy.2.1 80 = .ok (.getfield 62, 3) := by decide +kernel
theorem d_Model_readCopy_83 : decode M_Model_readCopy.2.1 83 = .ok (.iload_n 3, 1) := by decide +kernel
theorem d_Model_readCopy_84 : decode M_Model_readCopy.2.1 84 = .ok (.invokestatic 246, 3) := by decide +kernel
theorem d_Model_readCopy_87 : decode M_Model_readCopy.2.1 87 = .ok (.iconst 1, 1) := by decide +kernel
theorem d_Model_readCopy_88 : decode M_Model_readCopy.2.1 88 = .ok (.iadd, 1) := by decide +kernel
theorem d_Model_readCopy_89 : decode M_Model_readCopy.2.1 89 = .ok (.iaload, 1) := by decide +kernel
theorem d_Model_readCopy_90 : decode M_Model_readCopy.2.1 90 = .ok (.iload_n 2, 1) := by decide +kernel
theorem d_Model_readCopy_91 : decode M_Model_readCopy.2.1 91 = .ok (.if_icmp .ne 8, 3) := by decide +kernel
theorem d_Model_readCopy_94 : decode M_Model_readCopy.2.1 94 = .ok (.aload_n 0, 1) := by decide +kernel
theorem d_Model_readCopy_95 : decode M_Model_readCopy.2.1 95 = .ok (.iconst 4, 1) := by decide +kernel
theorem d_Model_readCopy_96 : decode M_Model_readCopy.2.1 96 = .ok (.invokevirtual 189, 3) := by decide +kernel
theorem d_Model_readCopy_99 : decode M_Model_readCopy.2.1 99 = .ok (.iinc 3 1, 3) := by decide +kernel
theorem d_Model_readCopy_102 : decode M_Model_readCopy.2.1 102 = .ok (.goto (-65), 3) := by decide +kernel
theorem d_Model_readCopy_105 : decode M_Model_readCopy.2.1 105 = .ok (.aload_n 0, 1) := by decide +kernel
theorem d_Model_readCopy_106 : decode M_Model_readCopy.2.1 106 = .ok (.getfield 168, 3) := by decide +kernel
theorem d_Model_readCopy_109 : decode M_Model_readCopy.2.1 109 = .ok (.ifCond .ne 7, 3) := by decide +kernel
theorem d_Model_readCopy_112 : decode M_Model_readCopy.2.1 112 = .ok (.aload_n 0, 1) := by decide +kernel
theorem d_Model_readCopy_113 : decode M_Model_readCopy.2.1 113 = .ok (.invokevirtual 193, 3) := by decide +kernel
theorem d_Model_readCopy_116 : decode M_Model_readCopy.2.1 116 = .ok (.aload_n 0, 1) := by decide +kernel
theorem d_Model_readCopy_117 : decode M_Model_readCopy.2.1 117 = .ok (.iconst 0, 1) := by decide +kernel
theorem d_Model_readCopy_118 : decode M_Model_readCopy.2.1 118 = .ok (.bipush 60, 2) := by decide +kernel
theorem d_Model_readCopy_120 : decode M_Model_readCopy.2.1 120 = .ok (.invokevirtual 202, 3) := by decide +kernel
theorem d_Model_readCopy_123 : decode M_Model_readCopy.2.1 123 = .ok (.istore_n 3, 1) := by decide +kernel
theorem d_Model_readCopy_124 : decode M_Model_readCopy.2.1 124 = .ok (.aload_n 0, 1) := by decide +kernel
theorem d_Model_readCopy_125 : decode M_Model_readCopy.2.1 125 = .ok (.getfield 168, 3) := by decide +kernel
theorem d_Model_readCopy_128 : decode M_Model_readCopy.2.1 128 = .ok (.ifCond .eq 4, 3) := by decide +kernel
theorem d_Model_readCopy_131 : decode M_Model_readCopy.2.1 131 = .ok (.return_, 1) := by decide +kernel
theorem d_Model_readCopy_132 : decode M_Model_readCopy.2.1 132 = .ok (.aload_n 0, 1) := by decide +kernel
theorem d_Model_readCopy_133 : decode M_Model_readCopy.2.1 133 = .ok (.getfield 51, 3) := by decide +kernel
theorem d_Model_readCopy_136 : decode M_Model_readCopy.2.1 136 = .ok (.bipush 10, 2) := by decide +kernel
theorem d_Model_readCopy_138 : decode M_Model_readCopy.2.1 138 = .ok (.iaload, 1) := by decide +kernel
theorem d_Model_readCopy_139 : decode M_Model_readCopy.2.1 139 = .ok (.invokestatic 246, 3) := by decide +kernel
theorem d_Model_readCopy_142 : decode M_Model_readCopy.2.1 142 = .ok (.istore 4, 2) := by decide +kernel
theorem d_Model_readCopy_144 : decode M_Model_readCopy.2.1 144 = .ok (.iconst 0, 1) := by decide +kernel
theorem d_Model_readCopy_145 : decode M_Model_readCopy.2.1 145 = .ok (.istore 5, 2) := by decide +kernel
theorem d_Model_readCopy_147 : decode M_Model_readCopy.2.1 147 = .ok (.iload 5, 2) := by decide +kernel
theorem d_Model_readCopy_149 : decode M_Model_readCopy.2.1 149 = .ok (.bipush 9, 2) := by decide +kernel
theorem d_Model_readCopy_151 : decode M_Model_readCopy.2.1 151 = .ok (.if_icmp .ge 28, 3) := by decide +kernel
theorem d_Model_readCopy_154 : decode M_Model_readCopy.2.1 154 = .ok (.aload_n 0, 1) := by decide +kernel
theorem d_Model_readCopy_155 : decode M_Model_readCopy.2.1 155 = .ok (.getfield 62, 3) := by decide +kernel
theorem d_Model_readCopy_158 : decode M_Model_readCopy.2.1 158 = .ok (.iload 4, 2) := by decide +kernel
theorem d_Model_readCopy_160 : decode M_Model_readCopy.2.1 160 = .ok (.iload 5, 2) := by decide +kernel
theorem d_Model_readCopy_162 : decode M_Model_readCopy.2.1 162 = .ok (.iadd, 1) := by decide +kernel
theorem d_Model_readCopy_163 : decode M_Model_readCopy.2.1 163 = .ok (.aload_n 0, 1) := by decide +kernel
theorem d_Model_readCopy_164 : decode M_Model_readCopy.2.1 164 = .ok (.getfield 62, 3) := by decide +kernel
theorem d_Model_readCopy_167 : decode M_Model_readCopy.2.1 167 = .ok (.iload_n 1, 1) := by decide +kernel
theorem d_Model_readCopy_168 : decode M_Model_readCopy.2.1 168 = .ok (.iload 5, 2) := by decide +kernel
theorem d_Model_readCopy_170 : decode M_Model_readCopy.2.1 170 = .ok (.iadd, 1) := by decide +kernel
theorem d_Model_readCopy_171 : decode M_Model_readCopy.2.1 171 = .ok (.iaload, 1) := by decide +kernel
theorem d_Model_readCopy_172 : decode M_Model_readCopy.2.1 172 = .ok (.iastore, 1) := by decide +kernel
theorem d_Model_readCopy_173 : decode M_Model_readCopy.2.1 173 = .ok (.iinc 5 1, 3) := by decide +kernel
theorem d_Model_readCopy_176 : decode M_Model_readCopy.2.1 176 = .ok (.goto (-29), 3) := by decide +kernel
theorem d_Model_readCopy_179 : decode M_Model_readCopy.2.1 179 = .ok (.aload_n 0, 1) := by decide +kernel
theorem d_Model_readCopy_180 : decode M_Model_readCopy.2.1 180 = .ok (.getfield 62, 3) := by decide +kernel
theorem d_Model_readCopy_183 : decode M_Model_readCopy.2.1 183 = .ok (.iload 4, 2) := by decide +kernel
theorem d_Model_readCopy_185 : decode M_Model_readCopy.2.1 185 = .ok (.iconst 1, 1) := by decide +kernel
theorem d_Model_readCopy_186 : decode M_Model_readCopy.2.1 186 = .ok (.iadd, 1) := by decide +kernel
theorem d_Model_readCopy_187 : decode M_Model_readCopy.2.1 187 = .ok (.iload_n 2, 1) := by decide +kernel
theorem d_Model_readCopy_188 : decode M_Model_readCopy.2.1 188 = .ok (.iastore, 1) := by decide +kernel
theorem d_Model_readCopy_189 : decode M_Model_readCopy.2.1 189 = .ok (.aload_n 0, 1) := by decide +kernel
theorem d_Model_readCopy_190 : decode M_Model_readCopy.2.1 190 = .ok (.getfield 62, 3) := by decide +kernel
theorem d_Model_readCopy_193 : decode M_Model_readCopy.2.1 193 = .ok (.iload 4, 2) := by decide +kernel
theorem d_Model_readCopy_195 : decode M_Model_readCopy.2.1 195 = .ok (.iconst 2, 1) := by decide +kernel
theorem d_Model_readCopy_196 : decode M_Model_readCopy.2.1 196 = .ok (.iadd, 1) := by decide +kernel
theorem d_Model_readCopy_197 : decode M_Model_readCopy.2.1 197 = .ok (.iload_n 3, 1) := by decide +kernel
theorem d_Model_readCopy_198 : decode M_Model_readCopy.2.1 198 = .ok (.ineg, 1) := by decide +kernel
theorem d_Model_readCopy_199 : decode M_Model_readCopy.2.1 199 = .ok (.iastore, 1) := by decide +kernel
theorem d_Model_readCopy_200 : decode M_Model_readCopy.2.1 200 = .ok (.aload_n 0, 1) := by decide +kernel
theorem d_Model_readCopy_201 : decode M_Model_readCopy.2.1 201 = .ok (.getfield 62, 3) := by decide +kernel
theorem d_Model_readCopy_204 : decode M_Model_readCopy.2.1 204 = .ok (.iload 4, 2) := by decide +kernel
theorem d_Model_readCopy_206 : decode M_Model_readCopy.2.1 206 = .ok (.bipush 6, 2) := by decide +kernel
theorem d_Model_readCopy_208 : decode M_Model_readCopy.2.1 208 = .ok (.iadd, 1) := by decide +kernel
theorem d_Model_readCopy_209 : decode M_Model_readCopy.2.1 209 = .ok (.iconst 0, 1) := by decide +kernel
theorem d_Model_readCopy_210 : decode M_Model_readCopy.2.1 210 = .ok (.iastore, 1) := by decide +kernel
theorem d_Model_readCopy_211 : decode M_Model_readCopy.2.1 211 = .ok (.aload_n 0, 1) := by decide +kernel
theorem d_Model_readCopy_212 : decode M_Model_readCopy.2.1 212 = .ok (.getfield 51, 3) := by decide +kernel
theorem d_Model_readCopy_215 : decode M_Model_readCopy.2.1 215 = .ok (.bipush 10, 2) := by decide +kernel
theorem d_Model_readCopy_217 : decode M_Model_readCopy.2.1 217 = .ok (.dup2, 1) := by decide +kernel
theorem d_Model_readCopy_218 : decode M_Model_readCopy.2.1 218 = .ok (.iaload, 1) := by decide +kernel
theorem d_Model_readCopy_219 : decode M_Model_readCopy.2.1 219 = .ok (.iconst 1, 1) := by decide +kernel
theorem d_Model_readCopy_220 : decode M_Model_readCopy.2.1 220 = .ok (.iadd, 1) := by decide +kernel
theorem d_Model_readCopy_221 : decode M_Model_readCopy.2.1 221 = .ok (.iastore, 1) := by decide +kernel
theorem d_Model_readCopy_222 : decode M_Model_readCopy.2.1 222 = .ok (.return_, 1) := by decide +kernel
theorem d_Model_readLine_0 : decode M_Model_readLine.2.1 0 = .ok (.aload_n 0, 1) := by decide +kernel
theorem d_Model_readLine_1 : decode M_Model_readLine.2.1 1 = .ok (.ldc_w 256, 3) := by decide +kernel
theorem d_Model_readLine_4 : decode M_Model_readLine.2.1 4 = .ok (.invokevirtual 182, 3) := by decide +kernel
theorem d_Model_readLine_7 : decode M_Model_readLine.2.1 7 = .ok (.ifCond .eq 7, 3) := by decide +kernel
theorem d_Model_readLine_10 : decode M_Model_readLine.2.1 10 = .ok (.iconst 1, 1) := by decide +kernel
theorem d_Model_readLine_11 : decode M_Model_readLine.2.1 11 = .ok (.goto 46, 3) := by decide +kernel
theorem d_Model_readLine_14 : decode M_Model_readLine.2.1 14 = .ok (.aload_n 0, 1) := by decide +kernel
theorem d_Model_readLine_15 : decode M_Model_readLine.2.1 15 = .ok (.ldc 42, 2) := by decide +kernel
theorem d_Model_readLine_17 : decode M_Model_readLine.2.1 17 = .ok (.invokevirtual 182, 3) := by decide +kernel
theorem d_Model_readLine_20 : decode M_Model_readLine.2.1 20 = .ok (.ifCond .eq 7, 3) := by decide +kernel
theorem d_Model_readLine_23 : decode M_Model_readLine.2.1 23 = .ok (.iconst 2, 1) := by decide +kernel
theorem d_Model_readLine_24 : decode M_Model_readLine.2.1 24 = .ok (.goto 33, 3) := by decide +kernel
theorem d_Model_readLine_27 : decode M_Model_readLine.2.1 27 = .ok (.aload_n 0, 1) := by decide +kernel
theorem d_Model_readLine_28 : decode M_Model_readLine.2.1 28 = .ok (.ldc_w 258, 3) := by decide +kernel
theorem d_Model_readLine_31 : decode M_Model_readLine.2.1 31 = .ok (.invokevirtual 182, 3) := by decide +kernel
theorem d_Model_readLine_34 : decode M_Model_readLine.2.1 34 = .ok (.ifCond .eq 7, 3) := by decide +kernel
theorem d_Model_readLine_37 : decode M_Model_readLine.2.1 37 = .ok (.iconst 4, 1) := by decide +kernel
theorem d_Model_readLine_38 : decode M_Model_readLine.2.1 38 = .ok (.goto 19, 3) := by decide +kernel
theorem d_Model_readLine_41 : decode M_Model_readLine.2.1 41 = .ok (.aload_n 0, 1) := by decide +kernel
theorem d_Model_readLine_42 : decode M_Model_readLine.2.1 42 = .ok (.ldc_w 260, 3) := by decide +kernel
theorem d_Model_readLine_45 : decode M_Model_readLine.2.1 45 = .ok (.invokevirtual 182, 3) := by decide +kernel
theorem d_Model_readLine_48 : decode M_Model_readLine.2.1 48 = .ok (.ifCond .eq 8, 3) := by decide +kernel
theorem d_Model_readLine_51 : decode M_Model_readLine.2.1 51 = .ok (.bipush 8, 2) := by decide +kernel
theorem d_Model_readLine_53 : decode M_Model_readLine.2.1 53 = .ok (.goto 4, 3) := by decide +kernel
theorem d_Model_readLine_56 : decode M_Model_readLine.2.1 56 = .ok (.iconst 0, 1) := by decide +kernel
theorem d_Model_readLine_57 : decode M_Model_readLine.2.1 57 = .ok (.istore_n 2, 1) := by decide +kernel
theorem d_Model_readLine_58 : decode M_Model_readLine.2.1 58 = .ok (.aload_n 0, 1) := by decide +kernel
theorem d_Model_readLine_59 : decode M_Model_readLine.2.1 59 = .ok (.aload_n 0, 1) := by decide +kernel
theorem d_Model_readLine_60 : decode M_Model_readLine.2.1 60 = .ok (.getfield 19, 3) := by decide +kernel
theorem d_Model_readLine_63 : decode M_Model_readLine.2.1 63 = .ok (.invokevirtual 208, 3) := by decide +kernel
theorem d_Model_readLine_66 : decode M_Model_readLine.2.1 66 = .ok (.istore_n 3, 1) := by decide +kernel
theorem d_Model_readLine_67 : decode M_Model_readLine.2.1 67 = .ok (.aload_n 0, 1) := by decide +kernel
theorem d_Model_readLine_68 : decode M_Model_readLine.2.1 68 = .ok (.aload_n 0, 1) := by decide +kernel
theorem d_Model_readLine_69 : decode M_Model_readLine.2.1 69 = .ok (.getfield 31, 3) := by decide +kernel
theorem d_Model_readLine_72 : decode M_Model_readLine.2.1 72 = .ok (.invokevirtual 208, 3) := by decide +kernel
theorem d_Model_readLine_75 : decode M_Model_readLine.2.1 75 = .ok (.istore 4, 2) := by decide +kernel
theorem d_Model_readLine_77 : decode M_Model_readLine.2.1 77 = .ok (.iload_n 2, 1) := by decide +kernel
theorem d_Model_readLine_78 : decode M_Model_readLine.2.1 78 = .ok (.iconst 1, 1) := by decide +kernel
theorem d_Model_readLine_79 : decode M_Model_readLine.2.1 79 = .ok (.if_icmp .ne 19, 3) := by decide +kernel
theorem d_Model_readLine_82 : decode M_Model_readLine.2.1 82 = .ok (.aload_n 0, 1) := by decide +kernel
theorem d_Model_readLine_83 : decode M_Model_readLine.2.1 83 = .ok (.getfield 51, 3) := by decide +kernel
theorem d_Model_readLine_86 : decode M_Model_readLine.2.1 86 = .ok (.bipush 6, 2) := by decide +kernel
theorem d_Model_readLine_88 : decode M_Model_readLine.2.1 88 = .ok (.iaload, 1) := by decide +kernel
theorem d_Model_readLine_89 : decode M_Model_readLine.2.1 89 = .ok (.ifCond .le 9, 3) := by decide +kernel
theorem d_Model_readLine_92 : decode M_Model_readLine.2.1 92 = .ok (.aload_n 0, 1) := by decide +kernel
theorem d_Model_readLine_93 : decode M_Model_readLine.2.1 93 = .ok (.bipush 6, 2) := by decide +kernel
theorem d_Model_readLine_95 : decode M_Model_readLine.2.1 95 = .ok (.invokevirtual 189, 3) := by decide +kernel
theorem d_Model_readLine_98 : decode M_Model_readLine.2.1 98 = .ok (.iload_n 2, 1) := by decide +kernel
theorem d_Model_readLine_99 : decode M_Model_readLine.2.1 99 = .ok (.iload_n 1, 1) := by decide +kernel
theorem d_Model_readLine_100 : decode M_Model_readLine.2.1 100 = .ok (.iand, 1) := by decide +kernel
theorem d_Model_readLine_101 : decode M_Model_readLine.2.1 101 = .ok (.ifCond .eq 8, 3) := by decide +kernel
theorem d_Model_readLine_104 : decode M_Model_readLine.2.1 104 = .ok (.aload_n 0, 1) := by decide +kernel
theorem d_Model_readLine_105 : decode M_Model_readLine.2.1 105 = .ok (.iconst 5, 1) := by decide +kernel
theorem d_Model_readLine_106 : decode M_Model_readLine.2.1 106 = .ok (.invokevirtual 189, 3) := by decide +kernel
theorem d_Model_readLine_109 : decode M_Model_readLine.2.1 109 = .ok (.iload_n 2, 1) := by decide +kernel
theorem d_Model_readLine_110 : decode M_Model_readLine.2.1 110 = .ok (.ifCond .le 88, 3) := by decide +kernel
theorem d_Model_readLine_113 : decode M_Model_readLine.2.1 113 = .ok (.aload_n 0, 1) := by decide +kernel
theorem d_Model_readLine_114 : decode M_Model_readLine.2.1 114 = .ok (.getfield 168, 3) := by decide +kernel
theorem d_Model_readLine_117 : decode M_Model_readLine.2.1 117 = .ok (.ifCond .ne 7, 3) := by decide +kernel
theorem d_Model_readLine_120 : decode M_Model_readLine.2.1 120 = .ok (.aload_n 0, 1) := by decide +kernel
theorem d_Model_readLine_121 : decode M_Model_readLine.2.1 121 = .ok (.invokevirtual 193, 3) := by decide +kernel
theorem d_Model_readLine_124 : decode M_Model_readLine.2.1 124 = .ok (.iload_n 2, 1) := by decide +kernel
theorem d_Model_readLine_125 : decode M_Model_readLine.2.1 125 = .ok (.iconst 1, 1) := by decide +kernel
theorem d_Model_readLine_126 : decode M_Model_readLine.2.1 126 = .ok (.if_icmp .ne 20, 3) := by decide +kernel
theorem d_Model_readLine_129 : decode M_Model_readLine.2.1 129 = .ok (.aload_n 0, 1) := by decide +kernel
theorem d_Model_readLine_130 : decode M_Model_readLine.2.1 130 = .ok (.getfield 51, 3) := by decide +kernel
theorem d_Model_readLine_133 : decode M_Model_readLine.2.1 133 = .ok (.bipush 7, 2) := by decide +kernel
theorem d_Model_readLine_135 : decode M_Model_readLine.2.1 135 = .ok (.aload_n 0, 1) := by decide +kernel
theorem d_Model_readLine_136 : decode M_Model_readLine.2.1 136 = .ok (.iconst 1, 1) := by decide +kernel
theorem d_Model_readLine_137 : decode M_Model_readLine.2.1 137 = .ok (.bipush 60, 2) := by decide +kernel
theorem d_Model_readLine_139 : decode M_Model_readLine.2.1 139 = .ok (.invokevirtual 202, 3) := by decide +kernel
theorem d_Model_readLine_142 : decode M_Model_readLine.2.1 142 = .ok (.iastore, 1) := by decide +kernel
theorem d_Model_readLine_143 : decode M_Model_readLine.2.1 143 = .ok (.goto 105, 3) := by decide +kernel
theorem d_Model_readLine_146 : decode M_Model_readLine.2.1 146 = .ok (.iload_n 2, 1) := by decide +kernel
theorem d_Model_readLine_147 : decode M_Model_readLine.2.1 147 = .ok (.iconst 2, 1) := by decide +kernel
theorem d_Model_readLine_148 : decode M_Model_readLine.2.1 148 = .ok (.if_icmp .ne 20, 3) := by decide +kernel
theorem d_Model_readLine_151 : decode M_Model_readLine.2.1 151 = .ok (.aload_n 0, 1) := by decide +kernel
theorem d_Model_readLine_152 : decode M_Model_readLine.2.1 152 = .ok (.getfield 51, 3) := by decide +kernel
theorem d_Model_readLine_155 : decode M_Model_readLine.2.1 155 = .ok (.bipush 8, 2) := by decide +kernel
theorem d_Model_readLine_157 : decode M_Model_readLine.2.1 157 = .ok (.aload_n 0, 1) := by decide +kernel
theorem d_Model_readLine_158 : decode M_Model_readLine.2.1 158 = .ok (.iconst 1, 1) := by decide +kernel
theorem d_Model_readLine_159 : decode M_Model_readLine.2.1 159 = .ok (.bipush 99, 2) := by decide +kernel
theorem d_Model_readLine_161 : decode M_Model_readLine.2.1 161 = .ok (.invokevirtual 202, 3) := by decide +kernel
theorem d_Model_readLine_164 : decode M_Model_readLine.2.1 164 = .ok (.iastore, 1) := by decide +kernel
theorem d_Model_readLine_165 : decode M_Model_readLine.2.1 165 = .ok (.goto 83, 3) := by decide +kernel
theorem d_Model_readLine_168 : decode M_Model_readLine.2.1 168 = .ok (.iload_n 2, 1) := by decide +kernel
theorem d_Model_readLine_169 : decode M_Model_readLine.2.1 169 = .ok (.iconst 4, 1) := by decide +kernel
theorem d_Model_readLine_170 : decode M_Model_readLine.2.1 170 = .ok (.if_icmp .ne 20, 3) := by decide +kernel
theorem d_Model_readLine_173 : decode M_Model_readLine.2.1 173 = .ok (.aload_n 0, 1) := by decide +kernel
theorem d_Model_readLine_174 : decode M_Model_readLine.2.1 174 = .ok (.getfield 51, 3) := by decide +kernel
theorem d_Model_readLine_177 : decode M_Model_readLine.2.1 177 = .ok (.bipush 9, 2) := by decide +kernel
theorem d_Model_readLine_179 : decode M_Model_readLine.2.1 179 = .ok (.aload_n 0, 1) := by decide +kernel
theorem d_Model_readLine_180 : decode M_Model_readLine.2.1 180 = .ok (.iconst 1, 1) := by decide +kernel
theorem d_Model_readLine_181 : decode M_Model_readLine.2.1 181 = .ok (.bipush 9, 2) := by decide +kernel
theorem d_Model_readLine_183 : decode M_Model_readLine.2.1 183 = .ok (.invokevirtual 202, 3) := by decide +kernel
theorem d_Model_readLine_186 : decode M_Model_readLine.2.1 186 = .ok (.iastore, 1) := by decide +kernel
theorem d_Model_readLine_187 : decode M_Model_readLine.2.1 187 = .ok (.goto 61, 3) := by decide +kernel
theorem d_Model_readLine_190 : decode M_Model_readLine.2.1 190 = .ok (.aload_n 0, 1) := by decide +kernel
theorem d_Model_readLine_191 : decode M_Model_readLine.2.1 191 = .ok (.iconst 0, 1) := by decide +kernel
theorem d_Model_readLine_192 : decode M_Model_readLine.2.1 192 = .ok (.invokevirtual 215, 3) := by decide +kernel
theorem d_Model_readLine_195 : decode M_Model_readLine.2.1 195 = .ok (.goto 53, 3) := by decide +kernel
theorem d_Model_readLine_198 : decode M_Model_readLine.2.1 198 = .ok (.iload_n 3, 1) := by decide +kernel
theorem d_Model_readLine_199 : decode M_Model_readLine.2.1 199 = .ok (.iconst (-1), 1) := by decide +kernel
theorem d_Model_readLine_200 : decode M_Model_readLine.2.1 200 = .ok (.if_icmp .eq 11, 3) := by decide +kernel
theorem d_Model_readLine_203 : decode M_Model_readLine.2.1 203 = .ok (.aload_n 0, 1) := by decide +kernel
theorem d_Model_readLine_204 : decode M_Model_readLine.2.1 204 = .ok (.iload_n 3, 1) := by decide +kernel
theorem d_Model_readLine_205 : decode M_Model_readLine.2.1 205 = .ok (.invokevirtual 262, 3) := by decide +kernel
theorem d_Model_readLine_208 : decode M_Model_readLine.2.1 208 = .ok (.goto 40, 3) := by decide +kernel
theorem d_Model_readLine_211 : decode M_Model_readLine.2.1 211 = .ok (.iload 4, 2) := by decide +kernel
theorem d_Model_readLine_213 : decode M_Model_readLine.2.1 213 = .ok (.iconst (-1), 1) := by decide +kernel
theorem d_Model_readLine_214 : decode M_Model_readLine.2.1 214 = .ok (.if_icmp .eq 12, 3) := by decide +kernel
theorem d_Model_readLine_217 : decode M_Model_readLine.2.1 217 = .ok (.aload_n 0, 1) := by decide +kernel
theorem d_Model_readLine_218 : decode M_Model_readLine.2.1 218 = .ok (.iload 4, 2) := by decide +kernel
theorem d_Model_readLine_220 : decode M_Model_readLine.2.1 220 = .ok (.invokevirtual 265, 3) := by decide +kernel
theorem d_Model_readLine_223 : decode M_Model_readLine.2.1 223 = .ok (.goto 25, 3) := by decide +kernel
theorem d_Model_readLine_226 : decode M_Model_readLine.2.1 226 = .ok (.aload_n 0, 1) := by decide +kernel
theorem d_Model_readLine_227 : decode M_Model_readLine.2.1 227 = .ok (.ldc_w 268, 3) := by decide +kernel
theorem d_Model_readLine_230 : decode M_Model_readLine.2.1 230 = .ok (.invokevirtual 182, 3) := by decide +kernel
theorem d_Model_readLine_233 : decode M_Model_readLine.2.1 233 = .ok (.ifCond .eq 10, 3) := by decide +kernel
theorem d_Model_readLine_236 : decode M_Model_readLine.2.1 236 = .ok (.aload_n 0, 1) := by decide +kernel
theorem d_Model_readLine_237 : decode M_Model_readLine.2.1 237 = .ok (.invokevirtual 270, 3) := by decide +kernel
theorem d_Model_readLine_240 : decode M_Model_readLine.2.1 240 = .ok (.goto 8, 3) := by decide +kernel
theorem d_Model_readLine_243 : decode M_Model_readLine.2.1 243 = .ok (.aload_n 0, 1) := by decide +kernel
theorem d_Model_readLine_244 : decode M_Model_readLine.2.1 244 = .ok (.iconst 1, 1) := by decide +kernel
theorem d_Model_readLine_245 : decode M_Model_readLine.2.1 245 = .ok (.invokevirtual 189, 3) := by decide +kernel
theorem d_Model_readLine_248 : decode M_Model_readLine.2.1 248 = .ok (.aload_n 0, 1) := by decide +kernel
theorem d_Model_readLine_249 : decode M_Model_readLine.2.1 249 = .ok (.bipush 59, 2) := by decide +kernel
theorem d_Model_readLine_251 : decode M_Model_readLine.2.1 251 = .ok (.invokevirtual 212, 3) := by decide +kernel
theorem d_Model_readLine_254 : decode M_Model_readLine.2.1 254 = .ok (.iload_n 1, 1) := by decide +kernel
theorem d_Model_readLine_255 : decode M_Model_readLine.2.1 255 = .ok (.iload_n 2, 1) := by decide +kernel
theorem d_Model_readLine_256 : decode M_Model_readLine.2.1 256 = .ok (.ior, 1) := by decide +kernel
theorem d_Model_readLine_257 : decode M_Model_readLine.2.1 257 = .ok (.ireturn, 1) := by decide +kernel
theorem d_Model_takeHalf_0 : decode M_Model_takeHalf.2.1 0 = .ok (.iconst 0, 1) := by decide +kernel
theorem d_Model_takeHalf_1 : decode M_Model_takeHalf.2.1 1 = .ok (.istore_n 1, 1) := by decide +kernel
theorem d_Model_takeHalf_2 : decode M_Model_takeHalf.2.1 2 = .ok (.iload_n 1, 1) := by decide +kernel
theorem d_Model_takeHalf_3 : decode M_Model_takeHalf.2.1 3 = .ok (.aload_n 0, 1) := by decide +kernel
theorem d_Model_takeHalf_4 : decode M_Model_takeHalf.2.1 4 = .ok (.arraylength, 1) := by decide +kernel
theorem d_Model_takeHalf_5 : decode M_Model_takeHalf.2.1 5 = .ok (.iconst 2, 1) := by decide +kernel
theorem d_Model_takeHalf_6 : decode M_Model_takeHalf.2.1 6 = .ok (.idiv, 1) := by decide +kernel
theorem d_Model_takeHalf_7 : decode M_Model_takeHalf.2.1 7 = .ok (.if_icmp .ge 20, 3) := by decide +kernel
theorem d_Model_takeHalf_10 : decode M_Model_takeHalf.2.1 10 = .ok (.aload_n 0, 1) := by decide +kernel
theorem d_Model_takeHalf_11 : decode M_Model_takeHalf.2.1 11 = .ok (.iload_n 1, 1) := by decide +kernel
theorem d_Model_takeHalf_12 : decode M_Model_takeHalf.2.1 12 = .ok (.aload_n 0, 1) := by decide +kernel
theorem d_Model_takeHalf_13 : decode M_Model_takeHalf.2.1 13 = .ok (.aload_n 0, 1) := by decide +kernel
theorem d_Model_takeHalf_14 : decode M_Model_takeHalf.2.1 14 = .ok (.arraylength, 1) := by decide +kernel
theorem d_Model_takeHalf_15 : decode M_Model_takeHalf.2.1 15 = .ok (.iconst 2, 1) := by decide +kernel
theorem d_Model_takeHalf_16 : decode M_Model_takeHalf.2.1 16 = .ok (.idiv, 1) := by decide +kernel
theorem d_Model_takeHalf_17 : decode M_Model_takeHalf.2.1 17 = .ok (.iload_n 1, 1) := by decide +kernel
theorem d_Model_takeHalf_18 : decode M_Model_takeHalf.2.1 18 = .ok (.iadd, 1) := by decide +kernel
theorem d_Model_takeHalf_19 : decode M_Model_takeHalf.2.1 19 = .ok (.iaload, 1) := by decide +kernel
theorem d_Model_takeHalf_20 : decode M_Model_takeHalf.2.1 20 = .ok (.iastore, 1) := by decide +kernel
theorem d_Model_takeHalf_21 : decode M_Model_takeHalf.2.1 21 = .ok (.iinc 1 1, 3) := by decide +kernel
theorem d_Model_takeHalf_24 : decode M_Model_takeHalf.2.1 24 = .ok (.goto (-22), 3) := by decide +kernel
theorem d_Model_takeHalf_27 : decode M_Model_takeHalf.2.1 27 = .ok (.return_, 1) := by decide +kernel
theorem d_Model_of_0 : decode M_Model_of.2.1 0 = .ok (.aload_n 0, 1) := by decide +kernel
theorem d_Model_of_1 : decode M_Model_of.2.1 1 = .ok (.getfield 62, 3) := by decide +kernel
theorem d_Model_of_4 : decode M_Model_of.2.1 4 = .ok (.bipush 9, 2) := by decide +kernel
theorem d_Model_of_6 : decode M_Model_of.2.1 6 = .ok (.iload_n 1, 1) := by decide +kernel
theorem d_Model_of_7 : decode M_Model_of.2.1 7 = .ok (.imul, 1) := by decide +kernel
theorem d_Model_of_8 : decode M_Model_of.2.1 8 = .ok (.iload_n 2, 1) := by decide +kernel
theorem d_Model_of_9 : decode M_Model_of.2.1 9 = .ok (.iadd, 1) := by decide +kernel
theorem d_Model_of_10 : decode M_Model_of.2.1 10 = .ok (.iaload, 1) := by decide +kernel
theorem d_Model_of_11 : decode M_Model_of.2.1 11 = .ok (.ireturn, 1) := by decide +kernel
theorem d_Model_isThere_0 : decode M_Model_isThere.2.1 0 = .ok (.aload_n 0, 1) := by decide +kernel
theorem d_Model_isThere_1 : decode M_Model_isThere.2.1 1 = .ok (.iload_n 1, 1) := by decide +kernel
theorem d_Model_isThere_2 : decode M_Model_isThere.2.1 2 = .ok (.bipush 8, 2) := by decide +kernel
theorem d_Model_isThere_4 : decode M_Model_isThere.2.1 4 = .ok (.invokevirtual 305, 3) := by decide +kernel
theorem d_Model_isThere_7 : decode M_Model_isThere.2.1 7 = .ok (.ifCond .ne 7, 3) := by decide +kernel
theorem d_Model_isThere_10 : decode M_Model_isThere.2.1 10 = .ok (.iconst 1, 1) := by decide +kernel
theorem d_Model_isThere_11 : decode M_Model_isThere.2.1 11 = .ok (.goto 4, 3) := by decide +kernel
theorem d_Model_isThere_14 : decode M_Model_isThere.2.1 14 = .ok (.iconst 0, 1) := by decide +kernel
theorem d_Model_isThere_15 : decode M_Model_isThere.2.1 15 = .ok (.ireturn, 1) := by decide +kernel
theorem d_Model_yearOf_0 : decode M_Model_yearOf.2.1 0 = .ok (.aload_n 0, 1) := by decide +kernel
theorem d_Model_yearOf_1 : decode M_Model_yearOf.2.1 1 = .ok (.getfield 289, 3) := by decide +kernel
theorem d_Model_yearOf_4 : decode M_Model_yearOf.2.1 4 = .ok (.iload_n 1, 1) := by decide +kernel
theorem d_Model_yearOf_5 : decode M_Model_yearOf.2.1 5 = .ok (.invokestatic 308, 3) := by decide +kernel
theorem d_Model_yearOf_8 : decode M_Model_yearOf.2.1 8 = .ok (.ifCond .eq 12, 3) := by decide +kernel
theorem d_Model_yearOf_11 : decode M_Model_yearOf.2.1 11 = .ok (.aload_n 0, 1) := by decide +kernel
theorem d_Model_yearOf_12 : decode M_Model_yearOf.2.1 12 = .ok (.getfield 78, 3) := by decide +kernel
theorem d_Model_yearOf_15 : decode M_Model_yearOf.2.1 15 = .ok (.iload_n 1, 1) := by decide +kernel
theorem d_Model_yearOf_16 : decode M_Model_yearOf.2.1 16 = .ok (.iaload, 1) := by decide +kernel
theorem d_Model_yearOf_17 : decode M_Model_yearOf.2.1 17 = .ok (.goto 7, 3) := by decide +kernel
theorem d_Model_yearOf_20 : decode M_Model_yearOf.2.1 20 = .ok (.aload_n 0, 1) := by decide +kernel
theorem d_Model_yearOf_21 : decode M_Model_yearOf.2.1 21 = .ok (.getfield 286, 3) := by decide +kernel
theorem d_Model_yearOf_24 : decode M_Model_yearOf.2.1 24 = .ok (.ireturn, 1) := by decide +kernel
theorem d_Model_old_0 : decode M_Model_old.2.1 0 = .ok (.aload_n 0, 1) := by decide +kernel
theorem d_Model_old_1 : decode M_Model_old.2.1 1 = .ok (.aload_n 0, 1) := by decide +kernel
theorem d_Model_old_2 : decode M_Model_old.2.1 2 = .ok (.iload_n 1, 1) := by decide +kernel
theorem d_Model_old_3 : decode M_Model_old.2.1 3 = .ok (.iconst 1, 1) := by decide +kernel
theorem d_Model_old_4 : decode M_Model_old.2.1 4 = .ok (.invokevirtual 305, 3) := by decide +kernel
theorem d_Model_old_7 : decode M_Model_old.2.1 7 = .ok (.invokevirtual 312, 3) := by decide +kernel
theorem d_Model_old_10 : decode M_Model_old.2.1 10 = .ok (.aload_n 0, 1) := by decide +kernel
theorem d_Model_old_11 : decode M_Model_old.2.1 11 = .ok (.iload_n 1, 1) := by decide +kernel
theorem d_Model_old_12 : decode M_Model_old.2.1 12 = .ok (.iconst 2, 1) := by decide +kernel
theorem d_Model_old_13 : decode M_Model_old.2.1 13 = .ok (.invokevirtual 305, 3) := by decide +kernel
theorem d_Model_old_16 : decode M_Model_old.2.1 16 = .ok (.isub, 1) := by decide +kernel
theorem d_Model_old_17 : decode M_Model_old.2.1 17 = .ok (.ireturn, 1) := by decide +kernel
theorem d_Model_lose_0 : decode M_Model_lose.2.1 0 = .ok (.aload_n 0, 1) := by decide +kernel
theorem d_Model_lose_1 : decode M_Model_lose.2.1 1 = .ok (.getfield 62, 3) := by decide +kernel
theorem d_Model_lose_4 : decode M_Model_lose.2.1 4 = .ok (.bipush 9, 2) := by decide +kernel
theorem d_Model_lose_6 : decode M_Model_lose.2.1 6 = .ok (.iload_n 1, 1) := by decide +kernel
theorem d_Model_lose_7 : decode M_Model_lose.2.1 7 = .ok (.imul, 1) := by decide +kernel
theorem d_Model_lose_8 : decode M_Model_lose.2.1 8 = .ok (.bipush 8, 2) := by decide +kernel
theorem d_Model_lose_10 : decode M_Model_lose.2.1 10 = .ok (.iadd, 1) := by decide +kernel
theorem d_Model_lose_11 : decode M_Model_lose.2.1 11 = .ok (.iconst 1, 1) := by decide +kernel
theorem d_Model_lose_12 : decode M_Model_lose.2.1 12 = .ok (.iastore, 1) := by decide +kernel
theorem d_Model_lose_13 : decode M_Model_lose.2.1 13 = .ok (.return_, 1) := by decide +kernel
theorem d_Model_loseFar_0 : decode M_Model_loseFar.2.1 0 = .ok (.iconst 0, 1) := by decide +kernel
theorem d_Model_loseFar_1 : decode M_Model_loseFar.2.1 1 = .ok (.istore_n 1, 1) := by decide +kernel
theorem d_Model_loseFar_2 : decode M_Model_loseFar.2.1 2 = .ok (.iconst 0, 1) := by decide +kernel
theorem d_Model_loseFar_3 : decode M_Model_loseFar.2.1 3 = .ok (.istore_n 2, 1) := by decide +kernel
theorem d_Model_loseFar_4 : decode M_Model_loseFar.2.1 4 = .ok (.iload_n 2, 1) := by decide +kernel
theorem d_Model_loseFar_5 : decode M_Model_loseFar.2.1 5 = .ok (.aload_n 0, 1) := by decide +kernel
theorem d_Model_loseFar_6 : decode M_Model_loseFar.2.1 6 = .ok (.getfield 121, 3) := by decide +kernel
theorem d_Model_loseFar_9 : decode M_Model_loseFar.2.1 9 = .ok (.if_icmp .ge 47, 3) := by decide +kernel
theorem d_Model_loseFar_12 : decode M_Model_loseFar.2.1 12 = .ok (.aload_n 0, 1) := by decide +kernel
theorem d_Model_loseFar_13 : decode M_Model_loseFar.2.1 13 = .ok (.iload_n 2, 1) := by decide +kernel
theorem d_Model_loseFar_14 : decode M_Model_loseFar.2.1 14 = .ok (.invokevirtual 315, 3) := by decide +kernel
theorem d_Model_loseFar_17 : decode M_Model_loseFar.2.1 17 = .ok (.ifCond .eq 33, 3) := by decide +kernel
theorem d_Model_loseFar_20 : decode M_Model_loseFar.2.1 20 = .ok (.aload_n 0, 1) := by decide +kernel
theorem d_Model_loseFar_21 : decode M_Model_loseFar.2.1 21 = .ok (.iload_n 2, 1) := by decide +kernel
theorem d_Model_loseFar_22 : decode M_Model_loseFar.2.1 22 = .ok (.invokevirtual 318, 3) := by decide +kernel
theorem d_Model_loseFar_25 : decode M_Model_loseFar.2.1 25 = .ok (.aload_n 0, 1) := by decide +kernel
theorem d_Model_loseFar_26 : decode M_Model_loseFar.2.1 26 = .ok (.getfield 59, 3) := by decide +kernel
theorem d_Model_loseFar_29 : decode M_Model_loseFar.2.1 29 = .ok (.aload_n 0, 1) := by decide +kernel
theorem d_Model_loseFar_30 : decode M_Model_loseFar.2.1 30 = .ok (.iload_n 2, 1) := by decide +kernel
theorem d_Model_loseFar_31 : decode M_Model_loseFar.2.1 31 = .ok (.iconst 1, 1) := by decide +kernel
theorem d_Model_loseFar_32 : decode M_Model_loseFar.2.1 32 = .ok (.invokevirtual 305, 3) := by decide +kernel
theorem d_Model_loseFar_35 : decode M_Model_loseFar.2.1 35 = .ok (.iaload, 1) := by decide +kernel
theorem d_Model_loseFar_36 : decode M_Model_loseFar.2.1 36 = .ok (.if_icmp .gt 6, 3) := by decide +kernel
theorem d_Model_loseFar_39 : decode M_Model_loseFar.2.1 39 = .ok (.goto 11, 3) := by decide +kernel
theorem d_Model_loseFar_42 : decode M_Model_loseFar.2.1 42 = .ok (.aload_n 0, 1) := by decide +kernel
theorem d_Model_loseFar_43 : decode M_Model_loseFar.2.1 43 = .ok (.iload_n 2, 1) := by decide +kernel
theorem d_Model_loseFar_44 : decode M_Model_loseFar.2.1 44 = .ok (.invokevirtual 320, 3) := by decide +kernel
theorem d_Model_loseFar_47 : decode M_Model_loseFar.2.1 47 = .ok (.iinc 1 1, 3) := by decide +kernel
theorem d_Model_loseFar_50 : decode M_Model_loseFar.2.1 50 = .ok (.iinc 2 1, 3) := by decide +kernel
theorem d_Model_loseFar_53 : decode M_Model_loseFar.2.1 53 = .ok (.goto (-49), 3) := by decide +kernel
theorem d_Model_loseFar_56 : decode M_Model_loseFar.2.1 56 = .ok (.iload_n 1, 1) := by decide +kernel
theorem d_Model_loseFar_57 : decode M_Model_loseFar.2.1 57 = .ok (.ireturn, 1) := by decide +kernel
theorem d_Model_takeOver_0 : decode M_Model_takeOver.2.1 0 = .ok (.aload_n 0, 1) := by decide +kernel
theorem d_Model_takeOver_1 : decode M_Model_takeOver.2.1 1 = .ok (.getfield 51, 3) := by decide +kernel
theorem d_Model_takeOver_4 : decode M_Model_takeOver.2.1 4 = .ok (.invokestatic 282, 3) := by decide +kernel
theorem d_Model_takeOver_7 : decode M_Model_takeOver.2.1 7 = .ok (.aload_n 0, 1) := by decide +kernel
theorem d_Model_takeOver_8 : decode M_Model_takeOver.2.1 8 = .ok (.getfield 55, 3) := by decide +kernel
theorem d_Model_takeOver_11 : decode M_Model_takeOver.2.1 11 = .ok (.invokestatic 282, 3) := by decide +kernel
theorem d_Model_takeOver_14 : decode M_Model_takeOver.2.1 14 = .ok (.aload_n 0, 1) := by decide +kernel
theorem d_Model_takeOver_15 : decode M_Model_takeOver.2.1 15 = .ok (.getfield 57, 3) := by decide +kernel
theorem d_Model_takeOver_18 : decode M_Model_takeOver.2.1 18 = .ok (.invokestatic 282, 3) := by decide +kernel
theorem d_Model_takeOver_21 : decode M_Model_takeOver.2.1 21 = .ok (.aload_n 0, 1) := by decide +kernel
theorem d_Model_takeOver_22 : decode M_Model_takeOver.2.1 22 = .ok (.getfield 59, 3) := by decide +kernel
theorem d_Model_takeOver_25 : decode M_Model_takeOver.2.1 25 = .ok (.invokestatic 282, 3) := by decide +kernel
theorem d_Model_takeOver_28 : decode M_Model_takeOver.2.1 28 = .ok (.aload_n 0, 1) := by decide +kernel
theorem d_Model_takeOver_29 : decode M_Model_takeOver.2.1 29 = .ok (.getfield 62, 3) := by decide +kernel
theorem d_Model_takeOver_32 : decode M_Model_takeOver.2.1 32 = .ok (.invokestatic 282, 3) := by decide +kernel
theorem d_Model_takeOver_35 : decode M_Model_takeOver.2.1 35 = .ok (.aload_n 0, 1) := by decide +kernel
theorem d_Model_takeOver_36 : decode M_Model_takeOver.2.1 36 = .ok (.getfield 65, 3) := by decide +kernel
theorem d_Model_takeOver_39 : decode M_Model_takeOver.2.1 39 = .ok (.invokestatic 282, 3) := by decide +kernel
theorem d_Model_takeOver_42 : decode M_Model_takeOver.2.1 42 = .ok (.aload_n 0, 1) := by decide +kernel
theorem d_Model_takeOver_43 : decode M_Model_takeOver.2.1 43 = .ok (.iconst 0, 1) := by decide +kernel
theorem d_Model_takeOver_44 : decode M_Model_takeOver.2.1 44 = .ok (.putfield 286, 3) := by decide +kernel
theorem d_Model_takeOver_47 : decode M_Model_takeOver.2.1 47 = .ok (.aload_n 0, 1) := by decide +kernel
theorem d_Model_takeOver_48 : decode M_Model_takeOver.2.1 48 = .ok (.iconst 0, 1) := by decide +kernel
theorem d_Model_takeOver_49 : decode M_Model_takeOver.2.1 49 = .ok (.putfield 289, 3) := by decide +kernel
theorem d_Model_takeOver_52 : decode M_Model_takeOver.2.1 52 = .ok (.aload_n 0, 1) := by decide +kernel
theorem d_Model_takeOver_53 : decode M_Model_takeOver.2.1 53 = .ok (.aload_n 0, 1) := by decide +kernel
theorem d_Model_takeOver_54 : decode M_Model_takeOver.2.1 54 = .ok (.getfield 51, 3) := by decide +kernel
theorem d_Model_takeOver_57 : decode M_Model_takeOver.2.1 57 = .ok (.iconst 4, 1) := by decide +kernel
theorem d_Model_takeOver_58 : decode M_Model_takeOver.2.1 58 = .ok (.iaload, 1) := by decide +kernel
theorem d_Model_takeOver_59 : decode M_Model_takeOver.2.1 59 = .ok (.putfield 121, 3) := by decide +kernel
theorem d_Model_takeOver_62 : decode M_Model_takeOver.2.1 62 = .ok (.iconst 0, 1) := by decide +kernel
theorem d_Model_takeOver_63 : decode M_Model_takeOver.2.1 63 = .ok (.istore_n 1, 1) := by decide +kernel
theorem d_Model_takeOver_64 : decode M_Model_takeOver.2.1 64 = .ok (.iload_n 1, 1) := by decide +kernel
theorem d_Model_takeOver_65 : decode M_Model_takeOver.2.1 65 = .ok (.bipush 6, 2) := by decide +kernel
theorem d_Model_takeOver_67 : decode M_Model_takeOver.2.1 67 = .ok (.if_icmp .ge 16, 3) := by decide +kernel
theorem d_Model_takeOver_70 : decode M_Model_takeOver.2.1 70 = .ok (.aload_n 0, 1) := by decide +kernel
theorem d_Model_takeOver_71 : decode M_Model_takeOver.2.1 71 = .ok (.getfield 78, 3) := by decide +kernel
theorem d_Model_takeOver_74 : decode M_Model_takeOver.2.1 74 = .ok (.iload_n 1, 1) := by decide +kernel
theorem d_Model_takeOver_75 : decode M_Model_takeOver.2.1 75 = .ok (.iconst 0, 1) := by decide +kernel
theorem d_Model_takeOver_76 : decode M_Model_takeOver.2.1 76 = .ok (.iastore, 1) := by decide +kernel
theorem d_Model_takeOver_77 : decode M_Model_takeOver.2.1 77 = .ok (.iinc 1 1, 3) := by decide +kernel
theorem d_Model_takeOver_80 : decode M_Model_takeOver.2.1 80 = .ok (.goto (-16), 3) := by decide +kernel
theorem d_Model_takeOver_83 : decode M_Model_takeOver.2.1 83 = .ok (.aload_n 0, 1) := by decide +kernel
theorem d_Model_takeOver_84 : decode M_Model_takeOver.2.1 84 = .ok (.invokevirtual 292, 3) := by decide +kernel
theorem d_Model_takeOver_87 : decode M_Model_takeOver.2.1 87 = .ok (.pop, 1) := by decide +kernel
theorem d_Model_takeOver_88 : decode M_Model_takeOver.2.1 88 = .ok (.aload_n 0, 1) := by decide +kernel
theorem d_Model_takeOver_89 : decode M_Model_takeOver.2.1 89 = .ok (.iconst 0, 1) := by decide +kernel
theorem d_Model_takeOver_90 : decode M_Model_takeOver.2.1 90 = .ok (.putfield 295, 3) := by decide +kernel
theorem d_Model_takeOver_93 : decode M_Model_takeOver.2.1 93 = .ok (.aload_n 0, 1) := by decide +kernel
theorem d_Model_takeOver_94 : decode M_Model_takeOver.2.1 94 = .ok (.iconst 0, 1) := by decide +kernel
theorem d_Model_takeOver_95 : decode M_Model_takeOver.2.1 95 = .ok (.putfield 298, 3) := by decide +kernel
theorem d_Model_takeOver_98 : decode M_Model_takeOver.2.1 98 = .ok (.aload_n 0, 1) := by decide +kernel
theorem d_Model_takeOver_99 : decode M_Model_takeOver.2.1 99 = .ok (.iconst 0, 1) := by decide +kernel
theorem d_Model_takeOver_100 : decode M_Model_takeOver.2.1 100 = .ok (.putfield 301, 3) := by decide +kernel
theorem d_Model_takeOver_103 : decode M_Model_takeOver.2.1 103 = .ok (.return_, 1) := by decide +kernel

/-! decode rows of 25.reader (by program) -/
theorem d_Reader_isBlank_0 : decode M_Reader_isBlank.2.1 0 = .ok (.iload_n 0, 1) := by decide +kernel
theorem d_Reader_isBlank_1 : decode M_Reader_isBlank.2.1 1 = .ok (.bipush 32, 2) := by decide +kernel
theorem d_Reader_isBlank_3 : decode M_Reader_isBlank.2.1 3 = .ok (.if_icmp .eq 9, 3) := by decide +kernel
theorem d_Reader_isBlank_6 : decode M_Reader_isBlank.2.1 6 = .ok (.iload_n 0, 1) := by decide +kernel
theorem d_Reader_isBlank_7 : decode M_Reader_isBlank.2.1 7 = .ok (.bipush 10, 2) := by decide +kernel
theorem d_Reader_isBlank_9 : decode M_Reader_isBlank.2.1 9 = .ok (.if_icmp .ne 7, 3) := by decide +kernel
theorem d_Reader_isBlank_12 : decode M_Reader_isBlank.2.1 12 = .ok (.iconst 1, 1) := by decide +kernel
theorem d_Reader_isBlank_13 : decode M_Reader_isBlank.2.1 13 = .ok (.goto 4, 3) := by decide +kernel
theorem d_Reader_isBlank_16 : decode M_Reader_isBlank.2.1 16 = .ok (.iconst 0, 1) := by decide +kernel
theorem d_Reader_isBlank_17 : decode M_Reader_isBlank.2.1 17 = .ok (.ireturn, 1) := by decide +kernel
theorem d_Reader_isLetter_0 : decode M_Reader_isLetter.2.1 0 = .ok (.iload_n 0, 1) := by decide +kernel
theorem d_Reader_isLetter_1 : decode M_Reader_isLetter.2.1 1 = .ok (.bipush 97, 2) := by decide +kernel
theorem d_Reader_isLetter_3 : decode M_Reader_isLetter.2.1 3 = .ok (.if_icmp .lt 13, 3) := by decide +kernel
theorem d_Reader_isLetter_6 : decode M_Reader_isLetter.2.1 6 = .ok (.iload_n 0, 1) := by decide +kernel
theorem d_Reader_isLetter_7 : decode M_Reader_isLetter.2.1 7 = .ok (.bipush 122, 2) := by decide +kernel
theorem d_Reader_isLetter_9 : decode M_Reader_isLetter.2.1 9 = .ok (.if_icmp .gt 7, 3) := by decide +kernel
theorem d_Reader_isLetter_12 : decode M_Reader_isLetter.2.1 12 = .ok (.iconst 1, 1) := by decide +kernel
theorem d_Reader_isLetter_13 : decode M_Reader_isLetter.2.1 13 = .ok (.goto 4, 3) := by decide +kernel
theorem d_Reader_isLetter_16 : decode M_Reader_isLetter.2.1 16 = .ok (.iconst 0, 1) := by decide +kernel
theorem d_Reader_isLetter_17 : decode M_Reader_isLetter.2.1 17 = .ok (.ireturn, 1) := by decide +kernel
theorem d_Reader_takeWord_0 : decode M_Reader_takeWord.2.1 0 = .ok (.aload_n 0, 1) := by decide +kernel
theorem d_Reader_takeWord_1 : decode M_Reader_takeWord.2.1 1 = .ok (.getfield 84, 3) := by decide +kernel
theorem d_Reader_takeWord_4 : decode M_Reader_takeWord.2.1 4 = .ok (.istore_n 1, 1) := by decide +kernel
theorem d_Reader_takeWord_5 : decode M_Reader_takeWord.2.1 5 = .ok (.iload_n 1, 1) := by decide +kernel
theorem d_Reader_takeWord_6 : decode M_Reader_takeWord.2.1 6 = .ok (.aload_n 0, 1) := by decide +kernel
theorem d_Reader_takeWord_7 : decode M_Reader_takeWord.2.1 7 = .ok (.getfield 37, 3) := by decide +kernel
theorem d_Reader_takeWord_10 : decode M_Reader_takeWord.2.1 10 = .ok (.if_icmp .ge 28, 3) := by decide +kernel
theorem d_Reader_takeWord_13 : decode M_Reader_takeWord.2.1 13 = .ok (.aload_n 0, 1) := by decide +kernel
theorem d_Reader_takeWord_14 : decode M_Reader_takeWord.2.1 14 = .ok (.getfield 27, 3) := by decide +kernel
theorem d_Reader_takeWord_17 : decode M_Reader_takeWord.2.1 17 = .ok (.iload_n 1, 1) := by decide +kernel
theorem d_Reader_takeWord_18 : decode M_Reader_takeWord.2.1 18 = .ok (.baload, 1) := by decide +kernel
theorem d_Reader_takeWord_19 : decode M_Reader_takeWord.2.1 19 = .ok (.invokestatic 91, 3) := by decide +kernel
theorem d_Reader_takeWord_22 : decode M_Reader_takeWord.2.1 22 = .ok (.ifCond .eq 16, 3) := by decide +kernel
theorem d_Reader_takeWord_25 : decode M_Reader_takeWord.2.1 25 = .ok (.aload_n 0, 1) := by decide +kernel
theorem d_Reader_takeWord_26 : decode M_Reader_takeWord.2.1 26 = .ok (.iload_n 1, 1) := by decide +kernel
theorem d_Reader_takeWord_27 : decode M_Reader_takeWord.2.1 27 = .ok (.iconst 1, 1) := by decide +kernel
theorem d_Reader_takeWord_28 : decode M_Reader_takeWord.2.1 28 = .ok (.iadd, 1) := by decide +kernel
theorem d_Reader_takeWord_29 : decode M_Reader_takeWord.2.1 29 = .ok (.putfield 41, 3) := by decide +kernel
theorem d_Reader_takeWord_32 : decode M_Reader_takeWord.2.1 32 = .ok (.iinc 1 1, 3) := by decide +kernel
theorem d_Reader_takeWord_35 : decode M_Reader_takeWord.2.1 35 = .ok (.goto (-30), 3) := by decide +kernel
theorem d_Reader_takeWord_38 : decode M_Reader_takeWord.2.1 38 = .ok (.aload_n 0, 1) := by decide +kernel
theorem d_Reader_takeWord_39 : decode M_Reader_takeWord.2.1 39 = .ok (.bipush 100, 2) := by decide +kernel
theorem d_Reader_takeWord_41 : decode M_Reader_takeWord.2.1 41 = .ok (.putfield 62, 3) := by decide +kernel
theorem d_Reader_takeWord_44 : decode M_Reader_takeWord.2.1 44 = .ok (.bipush 101, 2) := by decide +kernel
theorem d_Reader_takeWord_46 : decode M_Reader_takeWord.2.1 46 = .ok (.istore_n 1, 1) := by decide +kernel
theorem d_Reader_takeWord_47 : decode M_Reader_takeWord.2.1 47 = .ok (.aload_n 0, 1) := by decide +kernel
theorem d_Reader_takeWord_48 : decode M_Reader_takeWord.2.1 48 = .ok (.getfield 84, 3) := by decide +kernel
theorem d_Reader_takeWord_51 : decode M_Reader_takeWord.2.1 51 = .ok (.istore_n 2, 1) := by decide +kernel
theorem d_Reader_takeWord_52 : decode M_Reader_takeWord.2.1 52 = .ok (.iconst 1, 1) := by decide +kernel
theorem d_Reader_takeWord_53 : decode M_Reader_takeWord.2.1 53 = .ok (.istore_n 3, 1) := by decide +kernel
theorem d_Reader_takeWord_54 : decode M_Reader_takeWord.2.1 54 = .ok (.iconst 0, 1) := by decide +kernel
theorem d_Reader_takeWord_55 : decode M_Reader_takeWord.2.1 55 = .ok (.istore 4, 2) := by decide +kernel
theorem d_Reader_takeWord_57 : decode M_Reader_takeWord.2.1 57 = .ok (.iload 4, 2) := by decide +kernel
theorem d_Reader_takeWord_59 : decode M_Reader_takeWord.2.1 59 = .ok (.ldc 106, 2) := by decide +kernel
theorem d_Reader_takeWord_61 : decode M_Reader_takeWord.2.1 61 = .ok (.invokevirtual 108, 3) := by decide +kernel
theorem d_Reader_takeWord_64 : decode M_Reader_takeWord.2.1 64 = .ok (.if_icmp .ge 87, 3) := by decide +kernel
theorem d_Reader_takeWord_67 : decode M_Reader_takeWord.2.1 67 = .ok (.ldc 106, 2) := by decide +kernel
theorem d_Reader_takeWord_69 : decode M_Reader_takeWord.2.1 69 = .ok (.iload 4, 2) := by decide +kernel
theorem d_Reader_takeWord_71 : decode M_Reader_takeWord.2.1 71 = .ok (.invokevirtual 113, 3) := by decide +kernel
theorem d_Reader_takeWord_74 : decode M_Reader_takeWord.2.1 74 = .ok (.istore 5, 2) := by decide +kernel
theorem d_Reader_takeWord_76 : decode M_Reader_takeWord.2.1 76 = .ok (.iload 5, 2) := by decide +kernel
theorem d_Reader_takeWord_78 : decode M_Reader_takeWord.2.1 78 = .ok (.bipush 32, 2) := by decide +kernel
theorem d_Reader_takeWord_80 : decode M_Reader_takeWord.2.1 80 = .ok (.if_icmp .eq 38, 3) := by decide +kernel
theorem d_Reader_takeWord_83 : decode M_Reader_takeWord.2.1 83 = .ok (.iload_n 3, 1) := by decide +kernel
theorem d_Reader_takeWord_84 : decode M_Reader_takeWord.2.1 84 = .ok (.ifCond .eq 26, 3) := by decide +kernel
theorem d_Reader_takeWord_87 : decode M_Reader_takeWord.2.1 87 = .ok (.iload_n 2, 1) := by decide +kernel
theorem d_Reader_takeWord_88 : decode M_Reader_takeWord.2.1 88 = .ok (.aload_n 0, 1) := by decide +kernel
theorem d_Reader_takeWord_89 : decode M_Reader_takeWord.2.1 89 = .ok (.getfield 41, 3) := by decide +kernel
theorem d_Reader_takeWord_92 : decode M_Reader_takeWord.2.1 92 = .ok (.if_icmp .ge 18, 3) := by decide +kernel
theorem d_Reader_takeWord_95 : decode M_Reader_takeWord.2.1 95 = .ok (.aload_n 0, 1) := by decide +kernel
theorem d_Reader_takeWord_96 : decode M_Reader_takeWord.2.1 96 = .ok (.getfield 27, 3) := by decide +kernel
theorem d_Reader_takeWord_99 : decode M_Reader_takeWord.2.1 99 = .ok (.iload_n 2, 1) := by decide +kernel
theorem d_Reader_takeWord_100 : decode M_Reader_takeWord.2.1 100 = .ok (.baload, 1) := by decide +kernel
theorem d_Reader_takeWord_101 : decode M_Reader_takeWord.2.1 101 = .ok (.iload 5, 2) := by decide +kernel
theorem d_Reader_takeWord_103 : decode M_Reader_takeWord.2.1 103 = .ok (.if_icmp .ne 7, 3) := by decide +kernel
theorem d_Reader_takeWord_106 : decode M_Reader_takeWord.2.1 106 = .ok (.iconst 1, 1) := by decide +kernel
theorem d_Reader_takeWord_107 : decode M_Reader_takeWord.2.1 107 = .ok (.goto 4, 3) := by decide +kernel
theorem d_Reader_takeWord_110 : decode M_Reader_takeWord.2.1 110 = .ok (.iconst 0, 1) := by decide +kernel
theorem d_Reader_takeWord_111 : decode M_Reader_takeWord.2.1 111 = .ok (.istore_n 3, 1) := by decide +kernel
theorem d_Reader_takeWord_112 : decode M_Reader_takeWord.2.1 112 = .ok (.iinc 2 1, 3) := by decide +kernel
theorem d_Reader_takeWord_115 : decode M_Reader_takeWord.2.1 115 = .ok (.goto 30, 3) := by decide +kernel
theorem d_Reader_takeWord_118 : decode M_Reader_takeWord.2.1 118 = .ok (.iload_n 3, 1) := by decide +kernel
theorem d_Reader_takeWord_119 : decode M_Reader_takeWord.2.1 119 = .ok (.ifCond .eq 16, 3) := by decide +kernel
theorem d_Reader_takeWord_122 : decode M_Reader_takeWord.2.1 122 = .ok (.iload_n 2, 1) := by decide +kernel
theorem d_Reader_takeWord_123 : decode M_Reader_takeWord.2.1 123 = .ok (.aload_n 0, 1) := by decide +kernel
theorem d_Reader_takeWord_124 : decode M_Reader_takeWord.2.1 124 = .ok (.getfield 41, 3) := by decide +kernel
theorem d_Reader_takeWord_127 : decode M_Reader_takeWord.2.1 127 = .ok (.if_icmp .ne 8, 3) := by decide +kernel
theorem d_Reader_takeWord_130 : decode M_Reader_takeWord.2.1 130 = .ok (.aload_n 0, 1) := by decide +kernel
theorem d_Reader_takeWord_131 : decode M_Reader_takeWord.2.1 131 = .ok (.iload_n 1, 1) := by decide +kernel
theorem d_Reader_takeWord_132 : decode M_Reader_takeWord.2.1 132 = .ok (.putfield 62, 3) := by decide +kernel
theorem d_Reader_takeWord_135 : decode M_Reader_takeWord.2.1 135 = .ok (.iinc 1 1, 3) := by decide +kernel
theorem d_Reader_takeWord_138 : decode M_Reader_takeWord.2.1 138 = .ok (.aload_n 0, 1) := by decide +kernel
theorem d_Reader_takeWord_139 : decode M_Reader_takeWord.2.1 139 = .ok (.getfield 84, 3) := by decide +kernel
theorem d_Reader_takeWord_142 : decode M_Reader_takeWord.2.1 142 = .ok (.istore_n 2, 1) := by decide +kernel
theorem d_Reader_takeWord_143 : decode M_Reader_takeWord.2.1 143 = .ok (.iconst 1, 1) := by decide +kernel
theorem d_Reader_takeWord_144 : decode M_Reader_takeWord.2.1 144 = .ok (.istore_n 3, 1) := by decide +kernel
theorem d_Reader_takeWord_145 : decode M_Reader_takeWord.2.1 145 = .ok (.iinc 4 1, 3) := by decide +kernel
theorem d_Reader_takeWord_148 : decode M_Reader_takeWord.2.1 148 = .ok (.goto (-91), 3) := by decide +kernel
theorem d_Reader_takeWord_151 : decode M_Reader_takeWord.2.1 151 = .ok (.return_, 1) := by decide +kernel
theorem d_Reader_isDigit_0 : decode M_Reader_isDigit.2.1 0 = .ok (.iload_n 0, 1) := by decide +kernel
theorem d_Reader_isDigit_1 : decode M_Reader_isDigit.2.1 1 = .ok (.bipush 48, 2) := by decide +kernel
theorem d_Reader_isDigit_3 : decode M_Reader_isDigit.2.1 3 = .ok (.if_icmp .lt 13, 3) := by decide +kernel
theorem d_Reader_isDigit_6 : decode M_Reader_isDigit.2.1 6 = .ok (.iload_n 0, 1) := by decide +kernel
theorem d_Reader_isDigit_7 : decode M_Reader_isDigit.2.1 7 = .ok (.bipush 57, 2) := by decide +kernel
theorem d_Reader_isDigit_9 : decode M_Reader_isDigit.2.1 9 = .ok (.if_icmp .gt 7, 3) := by decide +kernel
theorem d_Reader_isDigit_12 : decode M_Reader_isDigit.2.1 12 = .ok (.iconst 1, 1) := by decide +kernel
theorem d_Reader_isDigit_13 : decode M_Reader_isDigit.2.1 13 = .ok (.goto 4, 3) := by decide +kernel
theorem d_Reader_isDigit_16 : decode M_Reader_isDigit.2.1 16 = .ok (.iconst 0, 1) := by decide +kernel
theorem d_Reader_isDigit_17 : decode M_Reader_isDigit.2.1 17 = .ok (.ireturn, 1) := by decide +kernel
theorem d_Reader_takeDigits_0 : decode M_Reader_takeDigits.2.1 0 = .ok (.aload_n 0, 1) := by decide +kernel
theorem d_Reader_takeDigits_1 : decode M_Reader_takeDigits.2.1 1 = .ok (.iconst 0, 1) := by decide +kernel
theorem d_Reader_takeDigits_2 : decode M_Reader_takeDigits.2.1 2 = .ok (.putfield 117, 3) := by decide +kernel
theorem d_Reader_takeDigits_5 : decode M_Reader_takeDigits.2.1 5 = .ok (.aload_n 0, 1) := by decide +kernel
theorem d_Reader_takeDigits_6 : decode M_Reader_takeDigits.2.1 6 = .ok (.getfield 84, 3) := by decide +kernel
theorem d_Reader_takeDigits_9 : decode M_Reader_takeDigits.2.1 9 = .ok (.istore_n 1, 1) := by decide +kernel
theorem d_Reader_takeDigits_10 : decode M_Reader_takeDigits.2.1 10 = .ok (.iload_n 1, 1) := by decide +kernel
theorem d_Reader_takeDigits_11 : decode M_Reader_takeDigits.2.1 11 = .ok (.aload_n 0, 1) := by decide +kernel
theorem d_Reader_takeDigits_12 : decode M_Reader_takeDigits.2.1 12 = .ok (.getfield 37, 3) := by decide +kernel
theorem d_Reader_takeDigits_15 : decode M_Reader_takeDigits.2.1 15 = .ok (.if_icmp .ge 49, 3) := by decide +kernel
theorem d_Reader_takeDigits_18 : decode M_Reader_takeDigits.2.1 18 = .ok (.aload_n 0, 1) := by decide +kernel
theorem d_Reader_takeDigits_19 : decode M_Reader_takeDigits.2.1 19 = .ok (.getfield 27, 3) := by decide +kernel
theorem d_Reader_takeDigits_22 : decode M_Reader_takeDigits.2.1 22 = .ok (.iload_n 1, 1) := by decide +kernel
theorem d_Reader_takeDigits_23 : decode M_Reader_takeDigits.2.1 23 = .ok (.baload, 1) := by decide +kernel
theorem d_Reader_takeDigits_24 : decode M_Reader_takeDigits.2.1 24 = .ok (.invokestatic 97, 3) := by decide +kernel
theorem d_Reader_takeDigits_27 : decode M_Reader_takeDigits.2.1 27 = .ok (.ifCond .eq 37, 3) := by decide +kernel
theorem d_Reader_takeDigits_30 : decode M_Reader_takeDigits.2.1 30 = .ok (.aload_n 0, 1) := by decide +kernel
theorem d_Reader_takeDigits_31 : decode M_Reader_takeDigits.2.1 31 = .ok (.aload_n 0, 1) := by decide +kernel
theorem d_Reader_takeDigits_32 : decode M_Reader_takeDigits.2.1 32 = .ok (.getfield 117, 3) := by decide +kernel
theorem d_Reader_takeDigits_35 : decode M_Reader_takeDigits.2.1 35 = .ok (.bipush 10, 2) := by decide +kernel
theorem d_Reader_takeDigits_37 : decode M_Reader_takeDigits.2.1 37 = .ok (.imul, 1) := by decide +kernel
theorem d_Reader_takeDigits_38 : decode M_Reader_takeDigits.2.1 38 = .ok (.aload_n 0, 1) := by decide +kernel
theorem d_Reader_takeDigits_39 : decode M_Reader_takeDigits.2.1 39 = .ok (.getfield 27, 3) := by decide +kernel
theorem d_Reader_takeDigits_42 : decode M_Reader_takeDigits.2.1 42 = .ok (.iload_n 1, 1) := by decide +kernel
theorem d_Reader_takeDigits_43 : decode M_Reader_takeDigits.2.1 43 = .ok (.baload, 1) := by decide +kernel
theorem d_Reader_takeDigits_44 : decode M_Reader_takeDigits.2.1 44 = .ok (.iadd, 1) := by decide +kernel
theorem d_Reader_takeDigits_45 : decode M_Reader_takeDigits.2.1 45 = .ok (.bipush 48, 2) := by decide +kernel
theorem d_Reader_takeDigits_47 : decode M_Reader_takeDigits.2.1 47 = .ok (.isub, 1) := by decide +kernel
theorem d_Reader_takeDigits_48 : decode M_Reader_takeDigits.2.1 48 = .ok (.putfield 117, 3) := by decide +kernel
theorem d_Reader_takeDigits_51 : decode M_Reader_takeDigits.2.1 51 = .ok (.aload_n 0, 1) := by decide +kernel
theorem d_Reader_takeDigits_52 : decode M_Reader_takeDigits.2.1 52 = .ok (.iload_n 1, 1) := by decide +kernel
theorem d_Reader_takeDigits_53 : decode M_Reader_takeDigits.2.1 53 = .ok (.iconst 1, 1) := by decide +kernel
theorem d_Reader_takeDigits_54 : decode M_Reader_takeDigits.2.1 54 = .ok (.iadd, 1) := by decide +kernel
theorem d_Reader_takeDigits_55 : decode M_Reader_takeDigits.2.1 55 = .ok (.putfield 41, 3) := by decide +kernel
theorem d_Reader_takeDigits_58 : decode M_Reader_takeDigits.2.1 58 = .ok (.iinc 1 1, 3) := by decide +kernel
theorem d_Reader_takeDigits_61 : decode M_Reader_takeDigits.2.1 61 = .ok (.goto (-51), 3) := by decide +kernel
theorem d_Reader_takeDigits_64 : decode M_Reader_takeDigits.2.1 64 = .ok (.aload_n 0, 1) := by decide +kernel
theorem d_Reader_takeDigits_65 : decode M_Reader_takeDigits.2.1 65 = .ok (.aload_n 0, 1) := by decide +kernel
theorem d_Reader_takeDigits_66 : decode M_Reader_takeDigits.2.1 66 = .ok (.getfield 41, 3) := by decide +kernel
theorem d_Reader_takeDigits_69 : decode M_Reader_takeDigits.2.1 69 = .ok (.aload_n 0, 1) := by decide +kernel
theorem d_Reader_takeDigits_70 : decode M_Reader_takeDigits.2.1 70 = .ok (.getfield 84, 3) := by decide +kernel
theorem d_Reader_takeDigits_73 : decode M_Reader_takeDigits.2.1 73 = .ok (.isub, 1) := by decide +kernel
theorem d_Reader_takeDigits_74 : decode M_Reader_takeDigits.2.1 74 = .ok (.iconst 4, 1) := by decide +kernel
theorem d_Reader_takeDigits_75 : decode M_Reader_takeDigits.2.1 75 = .ok (.if_icmp .le 7, 3) := by decide +kernel
theorem d_Reader_takeDigits_78 : decode M_Reader_takeDigits.2.1 78 = .ok (.iconst 4, 1) := by decide +kernel
theorem d_Reader_takeDigits_79 : decode M_Reader_takeDigits.2.1 79 = .ok (.goto 4, 3) := by decide +kernel
theorem d_Reader_takeDigits_82 : decode M_Reader_takeDigits.2.1 82 = .ok (.iconst 3, 1) := by decide +kernel
theorem d_Reader_takeDigits_83 : decode M_Reader_takeDigits.2.1 83 = .ok (.putfield 62, 3) := by decide +kernel
theorem d_Reader_takeDigits_86 : decode M_Reader_takeDigits.2.1 86 = .ok (.return_, 1) := by decide +kernel
theorem d_Reader_isSign_0 : decode M_Reader_isSign.2.1 0 = .ok (.iload_n 0, 1) := by decide +kernel
theorem d_Reader_isSign_1 : decode M_Reader_isSign.2.1 1 = .ok (.tableswitch 105 40 61 #[103, 103, 103, 103, 105, 103, 105, 103, 105, 105, 105, 105, 105, 105, 105, 105, 105, 105, 105, 103, 103, 103], 103) := by decide +kernel
theorem d_Reader_isSign_104 : decode M_Reader_isSign.2.1 104 = .ok (.iconst 1, 1) := by decide +kernel
theorem d_Reader_isSign_105 : decode M_Reader_isSign.2.1 105 = .ok (.ireturn, 1) := by decide +kernel
theorem d_Reader_isSign_106 : decode M_Reader_isSign.2.1 106 = .ok (.iconst 0, 1) := by decide +kernel
theorem d_Reader_isSign_107 : decode M_Reader_isSign.2.1 107 = .ok (.ireturn, 1) := by decide +kernel
theorem d_Reader_advance_0 : decode M_Reader_advance.2.1 0 = .ok (.aload_n 0, 1) := by decide +kernel
theorem d_Reader_advance_1 : decode M_Reader_advance.2.1 1 = .ok (.aload_n 0, 1) := by decide +kernel
theorem d_Reader_advance_2 : decode M_Reader_advance.2.1 2 = .ok (.getfield 41, 3) := by decide +kernel
theorem d_Reader_advance_5 : decode M_Reader_advance.2.1 5 = .ok (.putfield 84, 3) := by decide +kernel
theorem d_Reader_advance_8 : decode M_Reader_advance.2.1 8 = .ok (.aload_n 0, 1) := by decide +kernel
theorem d_Reader_advance_9 : decode M_Reader_advance.2.1 9 = .ok (.getfield 41, 3) := by decide +kernel
theorem d_Reader_advance_12 : decode M_Reader_advance.2.1 12 = .ok (.istore_n 1, 1) := by decide +kernel
theorem d_Reader_advance_13 : decode M_Reader_advance.2.1 13 = .ok (.iload_n 1, 1) := by decide +kernel
theorem d_Reader_advance_14 : decode M_Reader_advance.2.1 14 = .ok (.aload_n 0, 1) := by decide +kernel
theorem d_Reader_advance_15 : decode M_Reader_advance.2.1 15 = .ok (.getfield 37, 3) := by decide +kernel
theorem d_Reader_advance_18 : decode M_Reader_advance.2.1 18 = .ok (.if_icmp .ge 28, 3) := by decide +kernel
theorem d_Reader_advance_21 : decode M_Reader_advance.2.1 21 = .ok (.aload_n 0, 1) := by decide +kernel
theorem d_Reader_advance_22 : decode M_Reader_advance.2.1 22 = .ok (.getfield 27, 3) := by decide +kernel
theorem d_Reader_advance_25 : decode M_Reader_advance.2.1 25 = .ok (.iload_n 1, 1) := by decide +kernel
theorem d_Reader_advance_26 : decode M_Reader_advance.2.1 26 = .ok (.baload, 1) := by decide +kernel
theorem d_Reader_advance_27 : decode M_Reader_advance.2.1 27 = .ok (.invokestatic 87, 3) := by decide +kernel
theorem d_Reader_advance_30 : decode M_Reader_advance.2.1 30 = .ok (.ifCond .eq 16, 3) := by decide +kernel
theorem d_Reader_advance_33 : decode M_Reader_advance.2.1 33 = .ok (.aload_n 0, 1) := by decide +kernel
theorem d_Reader_advance_34 : decode M_Reader_advance.2.1 34 = .ok (.iload_n 1, 1) := by decide +kernel
theorem d_Reader_advance_35 : decode M_Reader_advance.2.1 35 = .ok (.iconst 1, 1) := by decide +kernel
theorem d_Reader_advance_36 : decode M_Reader_advance.2.1 36 = .ok (.iadd, 1) := by decide +kernel
theorem d_Reader_advance_37 : decode M_Reader_advance.2.1 37 = .ok (.putfield 84, 3) := by decide +kernel
theorem d_Reader_advance_40 : decode M_Reader_advance.2.1 40 = .ok (.iinc 1 1, 3) := by decide +kernel
theorem d_Reader_advance_43 : decode M_Reader_advance.2.1 43 = .ok (.goto (-30), 3) := by decide +kernel
theorem d_Reader_advance_46 : decode M_Reader_advance.2.1 46 = .ok (.aload_n 0, 1) := by decide +kernel
theorem d_Reader_advance_47 : decode M_Reader_advance.2.1 47 = .ok (.aload_n 0, 1) := by decide +kernel
theorem d_Reader_advance_48 : decode M_Reader_advance.2.1 48 = .ok (.getfield 84, 3) := by decide +kernel
theorem d_Reader_advance_51 : decode M_Reader_advance.2.1 51 = .ok (.putfield 41, 3) := by decide +kernel
theorem d_Reader_advance_54 : decode M_Reader_advance.2.1 54 = .ok (.aload_n 0, 1) := by decide +kernel
theorem d_Reader_advance_55 : decode M_Reader_advance.2.1 55 = .ok (.getfield 84, 3) := by decide +kernel
theorem d_Reader_advance_58 : decode M_Reader_advance.2.1 58 = .ok (.aload_n 0, 1) := by decide +kernel
theorem d_Reader_advance_59 : decode M_Reader_advance.2.1 59 = .ok (.getfield 37, 3) := by decide +kernel
theorem d_Reader_advance_62 : decode M_Reader_advance.2.1 62 = .ok (.if_icmp .lt 11, 3) := by decide +kernel
theorem d_Reader_advance_65 : decode M_Reader_advance.2.1 65 = .ok (.aload_n 0, 1) := by decide +kernel
theorem d_Reader_advance_66 : decode M_Reader_advance.2.1 66 = .ok (.iconst 1, 1) := by decide +kernel
theorem d_Reader_advance_67 : decode M_Reader_advance.2.1 67 = .ok (.putfield 62, 3) := by decide +kernel
theorem d_Reader_advance_70 : decode M_Reader_advance.2.1 70 = .ok (.goto 89, 3) := by decide +kernel
theorem d_Reader_advance_73 : decode M_Reader_advance.2.1 73 = .ok (.aload_n 0, 1) := by decide +kernel
theorem d_Reader_advance_74 : decode M_Reader_advance.2.1 74 = .ok (.getfield 27, 3) := by decide +kernel
theorem d_Reader_advance_77 : decode M_Reader_advance.2.1 77 = .ok (.aload_n 0, 1) := by decide +kernel
theorem d_Reader_advance_78 : decode M_Reader_advance.2.1 78 = .ok (.getfield 84, 3) := by decide +kernel
theorem d_Reader_advance_81 : decode M_Reader_advance.2.1 81 = .ok (.baload, 1) := by decide +kernel
theorem d_Reader_advance_82 : decode M_Reader_advance.2.1 82 = .ok (.invokestatic 91, 3) := by decide +kernel
theorem d_Reader_advance_85 : decode M_Reader_advance.2.1 85 = .ok (.ifCond .eq 10, 3) := by decide +kernel
theorem d_Reader_advance_88 : decode M_Reader_advance.2.1 88 = .ok (.aload_n 0, 1) := by decide +kernel
theorem d_Reader_advance_89 : decode M_Reader_advance.2.1 89 = .ok (.invokevirtual 94, 3) := by decide +kernel
theorem d_Reader_advance_92 : decode M_Reader_advance.2.1 92 = .ok (.goto 67, 3) := by decide +kernel
theorem d_Reader_advance_95 : decode M_Reader_advance.2.1 95 = .ok (.aload_n 0, 1) := by decide +kernel
theorem d_Reader_advance_96 : decode M_Reader_advance.2.1 96 = .ok (.getfield 27, 3) := by decide +kernel
theorem d_Reader_advance_99 : decode M_Reader_advance.2.1 99 = .ok (.aload_n 0, 1) := by decide +kernel
theorem d_Reader_advance_100 : decode M_Reader_advance.2.1 100 = .ok (.getfield 84, 3) := by decide +kernel
theorem d_Reader_advance_103 : decode M_Reader_advance.2.1 103 = .ok (.baload, 1) := by decide +kernel
theorem d_Reader_advance_104 : decode M_Reader_advance.2.1 104 = .ok (.invokestatic 97, 3) := by decide +kernel
theorem d_Reader_advance_107 : decode M_Reader_advance.2.1 107 = .ok (.ifCond .eq 10, 3) := by decide +kernel
theorem d_Reader_advance_110 : decode M_Reader_advance.2.1 110 = .ok (.aload_n 0, 1) := by decide +kernel
theorem d_Reader_advance_111 : decode M_Reader_advance.2.1 111 = .ok (.invokevirtual 100, 3) := by decide +kernel
theorem d_Reader_advance_114 : decode M_Reader_advance.2.1 114 = .ok (.goto 45, 3) := by decide +kernel
theorem d_Reader_advance_117 : decode M_Reader_advance.2.1 117 = .ok (.aload_n 0, 1) := by decide +kernel
theorem d_Reader_advance_118 : decode M_Reader_advance.2.1 118 = .ok (.aload_n 0, 1) := by decide +kernel
theorem d_Reader_advance_119 : decode M_Reader_advance.2.1 119 = .ok (.getfield 27, 3) := by decide +kernel
theorem d_Reader_advance_122 : decode M_Reader_advance.2.1 122 = .ok (.aload_n 0, 1) := by decide +kernel
theorem d_Reader_advance_123 : decode M_Reader_advance.2.1 123 = .ok (.getfield 84, 3) := by decide +kernel
theorem d_Reader_advance_126 : decode M_Reader_advance.2.1 126 = .ok (.baload, 1) := by decide +kernel
theorem d_Reader_advance_127 : decode M_Reader_advance.2.1 127 = .ok (.invokestatic 103, 3) := by decide +kernel
theorem d_Reader_advance_130 : decode M_Reader_advance.2.1 130 = .ok (.ifCond .eq 15, 3) := by decide +kernel
theorem d_Reader_advance_133 : decode M_Reader_advance.2.1 133 = .ok (.aload_n 0, 1) := by decide +kernel
theorem d_Reader_advance_134 : decode M_Reader_advance.2.1 134 = .ok (.getfield 27, 3) := by decide +kernel
theorem d_Reader_advance_137 : decode M_Reader_advance.2.1 137 = .ok (.aload_n 0, 1) := by decide +kernel
theorem d_Reader_advance_138 : decode M_Reader_advance.2.1 138 = .ok (.getfield 84, 3) := by decide +kernel
theorem d_Reader_advance_141 : decode M_Reader_advance.2.1 141 = .ok (.baload, 1) := by decide +kernel
theorem d_Reader_advance_142 : decode M_Reader_advance.2.1 142 = .ok (.goto 4, 3) := by decide +kernel
theorem d_Reader_advance_145 : decode M_Reader_advance.2.1 145 = .ok (.iconst 2, 1) := by decide +kernel
theorem d_Reader_advance_146 : decode M_Reader_advance.2.1 146 = .ok (.putfield 62, 3) := by decide +kernel
theorem d_Reader_advance_149 : decode M_Reader_advance.2.1 149 = .ok (.aload_n 0, 1) := by decide +kernel
theorem d_Reader_advance_150 : decode M_Reader_advance.2.1 150 = .ok (.aload_n 0, 1) := by decide +kernel
theorem d_Reader_advance_151 : decode M_Reader_advance.2.1 151 = .ok (.getfield 84, 3) := by decide +kernel
theorem d_Reader_advance_154 : decode M_Reader_advance.2.1 154 = .ok (.iconst 1, 1) := by decide +kernel
theorem d_Reader_advance_155 : decode M_Reader_advance.2.1 155 = .ok (.iadd, 1) := by decide +kernel
theorem d_Reader_advance_156 : decode M_Reader_advance.2.1 156 = .ok (.putfield 41, 3) := by decide +kernel
theorem d_Reader_advance_159 : decode M_Reader_advance.2.1 159 = .ok (.return_, 1) := by decide +kernel
theorem d_Reader_fail_0 : decode M_Reader_fail.2.1 0 = .ok (.aload_n 0, 1) := by decide +kernel
theorem d_Reader_fail_1 : decode M_Reader_fail.2.1 1 = .ok (.getfield 47, 3) := by decide +kernel
theorem d_Reader_fail_4 : decode M_Reader_fail.2.1 4 = .ok (.ifCond .ne 16, 3) := by decide +kernel
theorem d_Reader_fail_7 : decode M_Reader_fail.2.1 7 = .ok (.aload_n 0, 1) := by decide +kernel
theorem d_Reader_fail_8 : decode M_Reader_fail.2.1 8 = .ok (.iload_n 1, 1) := by decide +kernel
theorem d_Reader_fail_9 : decode M_Reader_fail.2.1 9 = .ok (.putfield 47, 3) := by decide +kernel
theorem d_Reader_fail_12 : decode M_Reader_fail.2.1 12 = .ok (.aload_n 0, 1) := by decide +kernel
theorem d_Reader_fail_13 : decode M_Reader_fail.2.1 13 = .ok (.aload_n 0, 1) := by decide +kernel
theorem d_Reader_fail_14 : decode M_Reader_fail.2.1 14 = .ok (.getfield 84, 3) := by decide +kernel
theorem d_Reader_fail_17 : decode M_Reader_fail.2.1 17 = .ok (.putfield 50, 3) := by decide +kernel
theorem d_Reader_fail_20 : decode M_Reader_fail.2.1 20 = .ok (.return_, 1) := by decide +kernel
theorem d_Reader_needNumber_0 : decode M_Reader_needNumber.2.1 0 = .ok (.aload_n 0, 1) := by decide +kernel
theorem d_Reader_needNumber_1 : decode M_Reader_needNumber.2.1 1 = .ok (.getfield 62, 3) := by decide +kernel
theorem d_Reader_needNumber_4 : decode M_Reader_needNumber.2.1 4 = .ok (.iconst 4, 1) := by decide +kernel
theorem d_Reader_needNumber_5 : decode M_Reader_needNumber.2.1 5 = .ok (.if_icmp .ne 11, 3) := by decide +kernel
theorem d_Reader_needNumber_8 : decode M_Reader_needNumber.2.1 8 = .ok (.aload_n 0, 1) := by decide +kernel
theorem d_Reader_needNumber_9 : decode M_Reader_needNumber.2.1 9 = .ok (.iconst 2, 1) := by decide +kernel
theorem d_Reader_needNumber_10 : decode M_Reader_needNumber.2.1 10 = .ok (.invokevirtual 78, 3) := by decide +kernel
theorem d_Reader_needNumber_13 : decode M_Reader_needNumber.2.1 13 = .ok (.goto 16, 3) := by decide +kernel
theorem d_Reader_needNumber_16 : decode M_Reader_needNumber.2.1 16 = .ok (.aload_n 0, 1) := by decide +kernel
theorem d_Reader_needNumber_17 : decode M_Reader_needNumber.2.1 17 = .ok (.getfield 62, 3) := by decide +kernel
theorem d_Reader_needNumber_20 : decode M_Reader_needNumber.2.1 20 = .ok (.iconst 3, 1) := by decide +kernel
theorem d_Reader_needNumber_21 : decode M_Reader_needNumber.2.1 21 = .ok (.if_icmp .eq 8, 3) := by decide +kernel
theorem d_Reader_needNumber_24 : decode M_Reader_needNumber.2.1 24 = .ok (.aload_n 0, 1) := by decide +kernel
theorem d_Reader_needNumber_25 : decode M_Reader_needNumber.2.1 25 = .ok (.iconst 1, 1) := by decide +kernel
theorem d_Reader_needNumber_26 : decode M_Reader_needNumber.2.1 26 = .ok (.invokevirtual 78, 3) := by decide +kernel
theorem d_Reader_needNumber_29 : decode M_Reader_needNumber.2.1 29 = .ok (.return_, 1) := by decide +kernel
theorem d_Reader_expect_0 : decode M_Reader_expect.2.1 0 = .ok (.aload_n 0, 1) := by decide +kernel
theorem d_Reader_expect_1 : decode M_Reader_expect.2.1 1 = .ok (.getfield 47, 3) := by decide +kernel
theorem d_Reader_expect_4 : decode M_Reader_expect.2.1 4 = .ok (.ifCond .ne 23, 3) := by decide +kernel
theorem d_Reader_expect_7 : decode M_Reader_expect.2.1 7 = .ok (.aload_n 0, 1) := by decide +kernel
theorem d_Reader_expect_8 : decode M_Reader_expect.2.1 8 = .ok (.getfield 62, 3) := by decide +kernel
theorem d_Reader_expect_11 : decode M_Reader_expect.2.1 11 = .ok (.iload_n 1, 1) := by decide +kernel
theorem d_Reader_expect_12 : decode M_Reader_expect.2.1 12 = .ok (.if_icmp .ne 10, 3) := by decide +kernel
theorem d_Reader_expect_15 : decode M_Reader_expect.2.1 15 = .ok (.aload_n 0, 1) := by decide +kernel
theorem d_Reader_expect_16 : decode M_Reader_expect.2.1 16 = .ok (.invokevirtual 59, 3) := by decide +kernel
theorem d_Reader_expect_19 : decode M_Reader_expect.2.1 19 = .ok (.goto 8, 3) := by decide +kernel
theorem d_Reader_expect_22 : decode M_Reader_expect.2.1 22 = .ok (.aload_n 0, 1) := by decide +kernel
theorem d_Reader_expect_23 : decode M_Reader_expect.2.1 23 = .ok (.iconst 1, 1) := by decide +kernel
theorem d_Reader_expect_24 : decode M_Reader_expect.2.1 24 = .ok (.invokevirtual 78, 3) := by decide +kernel
theorem d_Reader_expect_27 : decode M_Reader_expect.2.1 27 = .ok (.return_, 1) := by decide +kernel
theorem d_Reader_canBegin_0 : decode M_Reader_canBegin.2.1 0 = .ok (.aload_n 0, 1) := by decide +kernel
theorem d_Reader_canBegin_1 : decode M_Reader_canBegin.2.1 1 = .ok (.getfield 62, 3) := by decide +kernel
theorem d_Reader_canBegin_4 : decode M_Reader_canBegin.2.1 4 = .ok (.iconst 3, 1) := by decide +kernel
theorem d_Reader_canBegin_5 : decode M_Reader_canBegin.2.1 5 = .ok (.if_icmp .eq 29, 3) := by decide +kernel
theorem d_Reader_canBegin_8 : decode M_Reader_canBegin.2.1 8 = .ok (.aload_n 0, 1) := by decide +kernel
theorem d_Reader_canBegin_9 : decode M_Reader_canBegin.2.1 9 = .ok (.getfield 62, 3) := by decide +kernel
theorem d_Reader_canBegin_12 : decode M_Reader_canBegin.2.1 12 = .ok (.iconst 4, 1) := by decide +kernel
theorem d_Reader_canBegin_13 : decode M_Reader_canBegin.2.1 13 = .ok (.if_icmp .eq 21, 3) := by decide +kernel
theorem d_Reader_canBegin_16 : decode M_Reader_canBegin.2.1 16 = .ok (.aload_n 0, 1) := by decide +kernel
theorem d_Reader_canBegin_17 : decode M_Reader_canBegin.2.1 17 = .ok (.getfield 62, 3) := by decide +kernel
theorem d_Reader_canBegin_20 : decode M_Reader_canBegin.2.1 20 = .ok (.bipush 100, 2) := by decide +kernel
theorem d_Reader_canBegin_22 : decode M_Reader_canBegin.2.1 22 = .ok (.if_icmp .ge 12, 3) := by decide +kernel
theorem d_Reader_canBegin_25 : decode M_Reader_canBegin.2.1 25 = .ok (.aload_n 0, 1) := by decide +kernel
theorem d_Reader_canBegin_26 : decode M_Reader_canBegin.2.1 26 = .ok (.getfield 62, 3) := by decide +kernel
theorem d_Reader_canBegin_29 : decode M_Reader_canBegin.2.1 29 = .ok (.bipush 40, 2) := by decide +kernel
theorem d_Reader_canBegin_31 : decode M_Reader_canBegin.2.1 31 = .ok (.if_icmp .ne 7, 3) := by decide +kernel
theorem d_Reader_canBegin_34 : decode M_Reader_canBegin.2.1 34 = .ok (.iconst 1, 1) := by decide +kernel
theorem d_Reader_canBegin_35 : decode M_Reader_canBegin.2.1 35 = .ok (.goto 4, 3) := by decide +kernel
theorem d_Reader_canBegin_38 : decode M_Reader_canBegin.2.1 38 = .ok (.iconst 0, 1) := by decide +kernel
theorem d_Reader_canBegin_39 : decode M_Reader_canBegin.2.1 39 = .ok (.ireturn, 1) := by decide +kernel
theorem d_Reader_readPart_0 : decode M_Reader_readPart.2.1 0 = .ok (.aload_n 0, 1) := by decide +kernel
theorem d_Reader_readPart_1 : decode M_Reader_readPart.2.1 1 = .ok (.getfield 62, 3) := by decide +kernel
theorem d_Reader_readPart_4 : decode M_Reader_readPart.2.1 4 = .ok (.bipush 40, 2) := by decide +kernel
theorem d_Reader_readPart_6 : decode M_Reader_readPart.2.1 6 = .ok (.if_icmp .ne 23, 3) := by decide +kernel
theorem d_Reader_readPart_9 : decode M_Reader_readPart.2.1 9 = .ok (.aload_n 0, 1) := by decide +kernel
theorem d_Reader_readPart_10 : decode M_Reader_readPart.2.1 10 = .ok (.invokevirtual 59, 3) := by decide +kernel
theorem d_Reader_readPart_13 : decode M_Reader_readPart.2.1 13 = .ok (.aload_n 0, 1) := by decide +kernel
theorem d_Reader_readPart_14 : decode M_Reader_readPart.2.1 14 = .ok (.iload_n 1, 1) := by decide +kernel
theorem d_Reader_readPart_15 : decode M_Reader_readPart.2.1 15 = .ok (.iconst 1, 1) := by decide +kernel
theorem d_Reader_readPart_16 : decode M_Reader_readPart.2.1 16 = .ok (.iadd, 1) := by decide +kernel
theorem d_Reader_readPart_17 : decode M_Reader_readPart.2.1 17 = .ok (.invokevirtual 189, 3) := by decide +kernel
theorem d_Reader_readPart_20 : decode M_Reader_readPart.2.1 20 = .ok (.aload_n 0, 1) := by decide +kernel
theorem d_Reader_readPart_21 : decode M_Reader_readPart.2.1 21 = .ok (.bipush 41, 2) := by decide +kernel
theorem d_Reader_readPart_23 : decode M_Reader_readPart.2.1 23 = .ok (.invokevirtual 81, 3) := by decide +kernel
theorem d_Reader_readPart_26 : decode M_Reader_readPart.2.1 26 = .ok (.goto 121, 3) := by decide +kernel
theorem d_Reader_readPart_29 : decode M_Reader_readPart.2.1 29 = .ok (.aload_n 0, 1) := by decide +kernel
theorem d_Reader_readPart_30 : decode M_Reader_readPart.2.1 30 = .ok (.getfield 62, 3) := by decide +kernel
theorem d_Reader_readPart_33 : decode M_Reader_readPart.2.1 33 = .ok (.bipush 111, 2) := by decide +kernel
theorem d_Reader_readPart_35 : decode M_Reader_readPart.2.1 35 = .ok (.if_icmp .ne 22, 3) := by decide +kernel
theorem d_Reader_readPart_38 : decode M_Reader_readPart.2.1 38 = .ok (.aload_n 0, 1) := by decide +kernel
theorem d_Reader_readPart_39 : decode M_Reader_readPart.2.1 39 = .ok (.getfield 12, 3) := by decide +kernel
theorem d_Reader_readPart_42 : decode M_Reader_readPart.2.1 42 = .ok (.getfield 198, 3) := by decide +kernel
theorem d_Reader_readPart_45 : decode M_Reader_readPart.2.1 45 = .ok (.bipush (-7), 2) := by decide +kernel
theorem d_Reader_readPart_47 : decode M_Reader_readPart.2.1 47 = .ok (.invokevirtual 204, 3) := by decide +kernel
theorem d_Reader_readPart_50 : decode M_Reader_readPart.2.1 50 = .ok (.aload_n 0, 1) := by decide +kernel
theorem d_Reader_readPart_51 : decode M_Reader_readPart.2.1 51 = .ok (.invokevirtual 59, 3) := by decide +kernel
theorem d_Reader_readPart_54 : decode M_Reader_readPart.2.1 54 = .ok (.goto 93, 3) := by decide +kernel
theorem d_Reader_readPart_57 : decode M_Reader_readPart.2.1 57 = .ok (.aload_n 0, 1) := by decide +kernel
theorem d_Reader_readPart_58 : decode M_Reader_readPart.2.1 58 = .ok (.getfield 62, 3) := by decide +kernel
theorem d_Reader_readPart_61 : decode M_Reader_readPart.2.1 61 = .ok (.bipush 119, 2) := by decide +kernel
theorem d_Reader_readPart_63 : decode M_Reader_readPart.2.1 63 = .ok (.if_icmp .lt 38, 3) := by decide +kernel
theorem d_Reader_readPart_66 : decode M_Reader_readPart.2.1 66 = .ok (.aload_n 0, 1) := by decide +kernel
theorem d_Reader_readPart_67 : decode M_Reader_readPart.2.1 67 = .ok (.getfield 62, 3) := by decide +kernel
theorem d_Reader_readPart_70 : decode M_Reader_readPart.2.1 70 = .ok (.bipush 124, 2) := by decide +kernel
theorem d_Reader_readPart_72 : decode M_Reader_readPart.2.1 72 = .ok (.if_icmp .gt 29, 3) := by decide +kernel
theorem d_Reader_readPart_75 : decode M_Reader_readPart.2.1 75 = .ok (.aload_n 0, 1) := by decide +kernel
theorem d_Reader_readPart_76 : decode M_Reader_readPart.2.1 76 = .ok (.getfield 12, 3) := by decide +kernel
theorem d_Reader_readPart_79 : decode M_Reader_readPart.2.1 79 = .ok (.getfield 198, 3) := by decide +kernel
theorem d_Reader_readPart_82 : decode M_Reader_readPart.2.1 82 = .ok (.iconst (-1), 1) := by decide +kernel
theorem d_Reader_readPart_83 : decode M_Reader_readPart.2.1 83 = .ok (.aload_n 0, 1) := by decide +kernel
theorem d_Reader_readPart_84 : decode M_Reader_readPart.2.1 84 = .ok (.getfield 62, 3) := by decide +kernel
theorem d_Reader_readPart_87 : decode M_Reader_readPart.2.1 87 = .ok (.bipush 119, 2) := by decide +kernel
theorem d_Reader_readPart_89 : decode M_Reader_readPart.2.1 89 = .ok (.isub, 1) := by decide +kernel
theorem d_Reader_readPart_90 : decode M_Reader_readPart.2.1 90 = .ok (.isub, 1) := by decide +kernel
theorem d_Reader_readPart_91 : decode M_Reader_readPart.2.1 91 = .ok (.invokevirtual 204, 3) := by decide +kernel
theorem d_Reader_readPart_94 : decode M_Reader_readPart.2.1 94 = .ok (.aload_n 0, 1) := by decide +kernel
theorem d_Reader_readPart_95 : decode M_Reader_readPart.2.1 95 = .ok (.invokevirtual 59, 3) := by decide +kernel
theorem d_Reader_readPart_98 : decode M_Reader_readPart.2.1 98 = .ok (.goto 49, 3) := by decide +kernel
theorem d_Reader_readPart_101 : decode M_Reader_readPart.2.1 101 = .ok (.aload_n 0, 1) := by decide +kernel
theorem d_Reader_readPart_102 : decode M_Reader_readPart.2.1 102 = .ok (.getfield 62, 3) := by decide +kernel
theorem d_Reader_readPart_105 : decode M_Reader_readPart.2.1 105 = .ok (.bipush 100, 2) := by decide +kernel
theorem d_Reader_readPart_107 : decode M_Reader_readPart.2.1 107 = .ok (.if_icmp .lt 11, 3) := by decide +kernel
theorem d_Reader_readPart_110 : decode M_Reader_readPart.2.1 110 = .ok (.aload_n 0, 1) := by decide +kernel
theorem d_Reader_readPart_111 : decode M_Reader_readPart.2.1 111 = .ok (.iconst 3, 1) := by decide +kernel
theorem d_Reader_readPart_112 : decode M_Reader_readPart.2.1 112 = .ok (.invokevirtual 78, 3) := by decide +kernel
theorem d_Reader_readPart_115 : decode M_Reader_readPart.2.1 115 = .ok (.goto 32, 3) := by decide +kernel
theorem d_Reader_readPart_118 : decode M_Reader_readPart.2.1 118 = .ok (.aload_n 0, 1) := by decide +kernel
theorem d_Reader_readPart_119 : decode M_Reader_readPart.2.1 119 = .ok (.invokevirtual 120, 3) := by decide +kernel
theorem d_Reader_readPart_122 : decode M_Reader_readPart.2.1 122 = .ok (.aload_n 0, 1) := by decide +kernel
theorem d_Reader_readPart_123 : decode M_Reader_readPart.2.1 123 = .ok (.getfield 47, 3) := by decide +kernel
theorem d_Reader_readPart_126 : decode M_Reader_readPart.2.1 126 = .ok (.ifCond .ne 21, 3) := by decide +kernel
theorem d_Reader_readPart_129 : decode M_Reader_readPart.2.1 129 = .ok (.aload_n 0, 1) := by decide +kernel
theorem d_Reader_readPart_130 : decode M_Reader_readPart.2.1 130 = .ok (.getfield 12, 3) := by decide +kernel
theorem d_Reader_readPart_133 : decode M_Reader_readPart.2.1 133 = .ok (.getfield 198, 3) := by decide +kernel
theorem d_Reader_readPart_136 : decode M_Reader_readPart.2.1 136 = .ok (.aload_n 0, 1) := by decide +kernel
theorem d_Reader_readPart_137 : decode M_Reader_readPart.2.1 137 = .ok (.getfield 117, 3) := by decide +kernel
theorem d_Reader_readPart_140 : decode M_Reader_readPart.2.1 140 = .ok (.invokevirtual 204, 3) := by decide +kernel
theorem d_Reader_readPart_143 : decode M_Reader_readPart.2.1 143 = .ok (.aload_n 0, 1) := by decide +kernel
theorem d_Reader_readPart_144 : decode M_Reader_readPart.2.1 144 = .ok (.invokevirtual 59, 3) := by decide +kernel
theorem d_Reader_readPart_147 : decode M_Reader_readPart.2.1 147 = .ok (.return_, 1) := by decide +kernel
theorem d_Reader_readProduct_0 : decode M_Reader_readProduct.2.1 0 = .ok (.aload_n 0, 1) := by decide +kernel
theorem d_Reader_readProduct_1 : decode M_Reader_readProduct.2.1 1 = .ok (.iload_n 1, 1) := by decide +kernel
theorem d_Reader_readProduct_2 : decode M_Reader_readProduct.2.1 2 = .ok (.invokevirtual 219, 3) := by decide +kernel
theorem d_Reader_readProduct_5 : decode M_Reader_readProduct.2.1 5 = .ok (.iconst 0, 1) := by decide +kernel
theorem d_Reader_readProduct_6 : decode M_Reader_readProduct.2.1 6 = .ok (.istore_n 2, 1) := by decide +kernel
theorem d_Reader_readProduct_7 : decode M_Reader_readProduct.2.1 7 = .ok (.iload_n 2, 1) := by decide +kernel
theorem d_Reader_readProduct_8 : decode M_Reader_readProduct.2.1 8 = .ok (.sipush 700, 3) := by decide +kernel
theorem d_Reader_readProduct_11 : decode M_Reader_readProduct.2.1 11 = .ok (.if_icmp .ge 71, 3) := by decide +kernel
theorem d_Reader_readProduct_14 : decode M_Reader_readProduct.2.1 14 = .ok (.aload_n 0, 1) := by decide +kernel
theorem d_Reader_readProduct_15 : decode M_Reader_readProduct.2.1 15 = .ok (.getfield 47, 3) := by decide +kernel
theorem d_Reader_readProduct_18 : decode M_Reader_readProduct.2.1 18 = .ok (.ifCond .ne 64, 3) := by decide +kernel
theorem d_Reader_readProduct_21 : decode M_Reader_readProduct.2.1 21 = .ok (.aload_n 0, 1) := by decide +kernel
theorem d_Reader_readProduct_22 : decode M_Reader_readProduct.2.1 22 = .ok (.getfield 62, 3) := by decide +kernel
theorem d_Reader_readProduct_25 : decode M_Reader_readProduct.2.1 25 = .ok (.bipush 42, 2) := by decide +kernel
theorem d_Reader_readProduct_27 : decode M_Reader_readProduct.2.1 27 = .ok (.if_icmp .eq 12, 3) := by decide +kernel
theorem d_Reader_readProduct_30 : decode M_Reader_readProduct.2.1 30 = .ok (.aload_n 0, 1) := by decide +kernel
theorem d_Reader_readProduct_31 : decode M_Reader_readProduct.2.1 31 = .ok (.getfield 62, 3) := by decide +kernel
theorem d_Reader_readProduct_34 : decode M_Reader_readProduct.2.1 34 = .ok (.bipush 47, 2) := by decide +kernel
theorem d_Reader_readProduct_36 : decode M_Reader_readProduct.2.1 36 = .ok (.if_icmp .ne 46, 3) := by decide +kernel
theorem d_Reader_readProduct_39 : decode M_Reader_readProduct.2.1 39 = .ok (.aload_n 0, 1) := by decide +kernel
theorem d_Reader_readProduct_40 : decode M_Reader_readProduct.2.1 40 = .ok (.getfield 62, 3) := by decide +kernel
theorem d_Reader_readProduct_43 : decode M_Reader_readProduct.2.1 43 = .ok (.bipush 42, 2) := by decide +kernel
theorem d_Reader_readProduct_45 : decode M_Reader_readProduct.2.1 45 = .ok (.if_icmp .ne 8, 3) := by decide +kernel
theorem d_Reader_readProduct_48 : decode M_Reader_readProduct.2.1 48 = .ok (.bipush (-18), 2) := by decide +kernel
theorem d_Reader_readProduct_50 : decode M_Reader_readProduct.2.1 50 = .ok (.goto 5, 3) := by decide +kernel
theorem d_Reader_readProduct_53 : decode M_Reader_readProduct.2.1 53 = .ok (.bipush (-19), 2) := by decide +kernel
theorem d_Reader_readProduct_55 : decode M_Reader_readProduct.2.1 55 = .ok (.istore_n 3, 1) := by decide +kernel
theorem d_Reader_readProduct_56 : decode M_Reader_readProduct.2.1 56 = .ok (.aload_n 0, 1) := by decide +kernel
theorem d_Reader_readProduct_57 : decode M_Reader_readProduct.2.1 57 = .ok (.invokevirtual 59, 3) := by decide +kernel
theorem d_Reader_readProduct_60 : decode M_Reader_readProduct.2.1 60 = .ok (.aload_n 0, 1) := by decide +kernel
theorem d_Reader_readProduct_61 : decode M_Reader_readProduct.2.1 61 = .ok (.iload_n 1, 1) := by decide +kernel
theorem d_Reader_readProduct_62 : decode M_Reader_readProduct.2.1 62 = .ok (.invokevirtual 219, 3) := by decide +kernel
theorem d_Reader_readProduct_65 : decode M_Reader_readProduct.2.1 65 = .ok (.aload_n 0, 1) := by decide +kernel
theorem d_Reader_readProduct_66 : decode M_Reader_readProduct.2.1 66 = .ok (.getfield 12, 3) := by decide +kernel
theorem d_Reader_readProduct_69 : decode M_Reader_readProduct.2.1 69 = .ok (.getfield 198, 3) := by decide +kernel
theorem d_Reader_readProduct_72 : decode M_Reader_readProduct.2.1 72 = .ok (.iload_n 3, 1) := by decide +kernel
theorem d_Reader_readProduct_73 : decode M_Reader_readProduct.2.1 73 = .ok (.invokevirtual 204, 3) := by decide +kernel
theorem d_Reader_readProduct_76 : decode M_Reader_readProduct.2.1 76 = .ok (.iinc 2 1, 3) := by decide +kernel
theorem d_Reader_readProduct_79 : decode M_Reader_readProduct.2.1 79 = .ok (.goto (-72), 3) := by decide +kernel
theorem d_Reader_readProduct_82 : decode M_Reader_readProduct.2.1 82 = .ok (.return_, 1) := by decide +kernel
theorem d_Reader_readSum_0 : decode M_Reader_readSum.2.1 0 = .ok (.aload_n 0, 1) := by decide +kernel
theorem d_Reader_readSum_1 : decode M_Reader_readSum.2.1 1 = .ok (.iload_n 1, 1) := by decide +kernel
theorem d_Reader_readSum_2 : decode M_Reader_readSum.2.1 2 = .ok (.invokevirtual 216, 3) := by decide +kernel
theorem d_Reader_readSum_5 : decode M_Reader_readSum.2.1 5 = .ok (.iconst 0, 1) := by decide +kernel
theorem d_Reader_readSum_6 : decode M_Reader_readSum.2.1 6 = .ok (.istore_n 2, 1) := by decide +kernel
theorem d_Reader_readSum_7 : decode M_Reader_readSum.2.1 7 = .ok (.iload_n 2, 1) := by decide +kernel
theorem d_Reader_readSum_8 : decode M_Reader_readSum.2.1 8 = .ok (.sipush 700, 3) := by decide +kernel
theorem d_Reader_readSum_11 : decode M_Reader_readSum.2.1 11 = .ok (.if_icmp .ge 71, 3) := by decide +kernel
theorem d_Reader_readSum_14 : decode M_Reader_readSum.2.1 14 = .ok (.aload_n 0, 1) := by decide +kernel
theorem d_Reader_readSum_15 : decode M_Reader_readSum.2.1 15 = .ok (.getfield 47, 3) := by decide +kernel
theorem d_Reader_readSum_18 : decode M_Reader_readSum.2.1 18 = .ok (.ifCond .ne 64, 3) := by decide +kernel
theorem d_Reader_readSum_21 : decode M_Reader_readSum.2.1 21 = .ok (.aload_n 0, 1) := by decide +kernel
theorem d_Reader_readSum_22 : decode M_Reader_readSum.2.1 22 = .ok (.getfield 62, 3) := by decide +kernel
theorem d_Reader_readSum_25 : decode M_Reader_readSum.2.1 25 = .ok (.bipush 43, 2) := by decide +kernel
theorem d_Reader_readSum_27 : decode M_Reader_readSum.2.1 27 = .ok (.if_icmp .eq 12, 3) := by decide +kernel
theorem d_Reader_readSum_30 : decode M_Reader_readSum.2.1 30 = .ok (.aload_n 0, 1) := by decide +kernel
theorem d_Reader_readSum_31 : decode M_Reader_readSum.2.1 31 = .ok (.getfield 62, 3) := by decide +kernel
theorem d_Reader_readSum_34 : decode M_Reader_readSum.2.1 34 = .ok (.bipush 45, 2) := by decide +kernel
theorem d_Reader_readSum_36 : decode M_Reader_readSum.2.1 36 = .ok (.if_icmp .ne 46, 3) := by decide +kernel
theorem d_Reader_readSum_39 : decode M_Reader_readSum.2.1 39 = .ok (.aload_n 0, 1) := by decide +kernel
theorem d_Reader_readSum_40 : decode M_Reader_readSum.2.1 40 = .ok (.getfield 62, 3) := by decide +kernel
theorem d_Reader_readSum_43 : decode M_Reader_readSum.2.1 43 = .ok (.bipush 43, 2) := by decide +kernel
theorem d_Reader_readSum_45 : decode M_Reader_readSum.2.1 45 = .ok (.if_icmp .ne 8, 3) := by decide +kernel
theorem d_Reader_readSum_48 : decode M_Reader_readSum.2.1 48 = .ok (.bipush (-16), 2) := by decide +kernel
theorem d_Reader_readSum_50 : decode M_Reader_readSum.2.1 50 = .ok (.goto 5, 3) := by decide +kernel
theorem d_Reader_readSum_53 : decode M_Reader_readSum.2.1 53 = .ok (.bipush (-17), 2) := by decide +kernel
theorem d_Reader_readSum_55 : decode M_Reader_readSum.2.1 55 = .ok (.istore_n 3, 1) := by decide +kernel
theorem d_Reader_readSum_56 : decode M_Reader_readSum.2.1 56 = .ok (.aload_n 0, 1) := by decide +kernel
theorem d_Reader_readSum_57 : decode M_Reader_readSum.2.1 57 = .ok (.invokevirtual 59, 3) := by decide +kernel
theorem d_Reader_readSum_60 : decode M_Reader_readSum.2.1 60 = .ok (.aload_n 0, 1) := by decide +kernel
theorem d_Reader_readSum_61 : decode M_Reader_readSum.2.1 61 = .ok (.iload_n 1, 1) := by decide +kernel
theorem d_Reader_readSum_62 : decode M_Reader_readSum.2.1 62 = .ok (.invokevirtual 216, 3) := by decide +kernel
theorem d_Reader_readSum_65 : decode M_Reader_readSum.2.1 65 = .ok (.aload_n 0, 1) := by decide +kernel
theorem d_Reader_readSum_66 : decode M_Reader_readSum.2.1 66 = .ok (.getfield 12, 3) := by decide +kernel
theorem d_Reader_readSum_69 : decode M_Reader_readSum.2.1 69 = .ok (.getfield 198, 3) := by decide +kernel
theorem d_Reader_readSum_72 : decode M_Reader_readSum.2.1 72 = .ok (.iload_n 3, 1) := by decide +kernel
theorem d_Reader_readSum_73 : decode M_Reader_readSum.2.1 73 = .ok (.invokevirtual 204, 3) := by decide +kernel
theorem d_Reader_readSum_76 : decode M_Reader_readSum.2.1 76 = .ok (.iinc 2 1, 3) := by decide +kernel
theorem d_Reader_readSum_79 : decode M_Reader_readSum.2.1 79 = .ok (.goto (-72), 3) := by decide +kernel
theorem d_Reader_readSum_82 : decode M_Reader_readSum.2.1 82 = .ok (.return_, 1) := by decide +kernel
theorem d_Reader_readTest_0 : decode M_Reader_readTest.2.1 0 = .ok (.aload_n 0, 1) := by decide +kernel
theorem d_Reader_readTest_1 : decode M_Reader_readTest.2.1 1 = .ok (.iload_n 1, 1) := by decide +kernel
theorem d_Reader_readTest_2 : decode M_Reader_readTest.2.1 2 = .ok (.invokevirtual 213, 3) := by decide +kernel
theorem d_Reader_readTest_5 : decode M_Reader_readTest.2.1 5 = .ok (.aload_n 0, 1) := by decide +kernel
theorem d_Reader_readTest_6 : decode M_Reader_readTest.2.1 6 = .ok (.getfield 47, 3) := by decide +kernel
theorem d_Reader_readTest_9 : decode M_Reader_readTest.2.1 9 = .ok (.ifCond .ne 58, 3) := by decide +kernel
theorem d_Reader_readTest_12 : decode M_Reader_readTest.2.1 12 = .ok (.aload_n 0, 1) := by decide +kernel
theorem d_Reader_readTest_13 : decode M_Reader_readTest.2.1 13 = .ok (.getfield 62, 3) := by decide +kernel
theorem d_Reader_readTest_16 : decode M_Reader_readTest.2.1 16 = .ok (.bipush 60, 2) := by decide +kernel
theorem d_Reader_readTest_18 : decode M_Reader_readTest.2.1 18 = .ok (.if_icmp .eq 12, 3) := by decide +kernel
theorem d_Reader_readTest_21 : decode M_Reader_readTest.2.1 21 = .ok (.aload_n 0, 1) := by decide +kernel
theorem d_Reader_readTest_22 : decode M_Reader_readTest.2.1 22 = .ok (.getfield 62, 3) := by decide +kernel
theorem d_Reader_readTest_25 : decode M_Reader_readTest.2.1 25 = .ok (.bipush 61, 2) := by decide +kernel
theorem d_Reader_readTest_27 : decode M_Reader_readTest.2.1 27 = .ok (.if_icmp .ne 40, 3) := by decide +kernel
theorem d_Reader_readTest_30 : decode M_Reader_readTest.2.1 30 = .ok (.aload_n 0, 1) := by decide +kernel
theorem d_Reader_readTest_31 : decode M_Reader_readTest.2.1 31 = .ok (.getfield 62, 3) := by decide +kernel
theorem d_Reader_readTest_34 : decode M_Reader_readTest.2.1 34 = .ok (.bipush 60, 2) := by decide +kernel
theorem d_Reader_readTest_36 : decode M_Reader_readTest.2.1 36 = .ok (.if_icmp .ne 8, 3) := by decide +kernel
theorem d_Reader_readTest_39 : decode M_Reader_readTest.2.1 39 = .ok (.bipush (-14), 2) := by decide +kernel
theorem d_Reader_readTest_41 : decode M_Reader_readTest.2.1 41 = .ok (.goto 5, 3) := by decide +kernel
theorem d_Reader_readTest_44 : decode M_Reader_readTest.2.1 44 = .ok (.bipush (-15), 2) := by decide +kernel
theorem d_Reader_readTest_46 : decode M_Reader_readTest.2.1 46 = .ok (.istore_n 2, 1) := by decide +kernel
theorem d_Reader_readTest_47 : decode M_Reader_readTest.2.1 47 = .ok (.aload_n 0, 1) := by decide +kernel
theorem d_Reader_readTest_48 : decode M_Reader_readTest.2.1 48 = .ok (.invokevirtual 59, 3) := by decide +kernel
theorem d_Reader_readTest_51 : decode M_Reader_readTest.2.1 51 = .ok (.aload_n 0, 1) := by decide +kernel
theorem d_Reader_readTest_52 : decode M_Reader_readTest.2.1 52 = .ok (.iload_n 1, 1) := by decide +kernel
theorem d_Reader_readTest_53 : decode M_Reader_readTest.2.1 53 = .ok (.invokevirtual 213, 3) := by decide +kernel
theorem d_Reader_readTest_56 : decode M_Reader_readTest.2.1 56 = .ok (.aload_n 0, 1) := by decide +kernel
theorem d_Reader_readTest_57 : decode M_Reader_readTest.2.1 57 = .ok (.getfield 12, 3) := by decide +kernel
theorem d_Reader_readTest_60 : decode M_Reader_readTest.2.1 60 = .ok (.getfield 198, 3) := by decide +kernel
theorem d_Reader_readTest_63 : decode M_Reader_readTest.2.1 63 = .ok (.iload_n 2, 1) := by decide +kernel
theorem d_Reader_readTest_64 : decode M_Reader_readTest.2.1 64 = .ok (.invokevirtual 204, 3) := by decide +kernel
theorem d_Reader_readTest_67 : decode M_Reader_readTest.2.1 67 = .ok (.return_, 1) := by decide +kernel
theorem d_Reader_readNot_0 : decode M_Reader_readNot.2.1 0 = .ok (.iconst 0, 1) := by decide +kernel
theorem d_Reader_readNot_1 : decode M_Reader_readNot.2.1 1 = .ok (.istore_n 2, 1) := by decide +kernel
theorem d_Reader_readNot_2 : decode M_Reader_readNot.2.1 2 = .ok (.iconst 0, 1) := by decide +kernel
theorem d_Reader_readNot_3 : decode M_Reader_readNot.2.1 3 = .ok (.istore_n 3, 1) := by decide +kernel
theorem d_Reader_readNot_4 : decode M_Reader_readNot.2.1 4 = .ok (.iload_n 3, 1) := by decide +kernel
theorem d_Reader_readNot_5 : decode M_Reader_readNot.2.1 5 = .ok (.bipush 6, 2) := by decide +kernel
theorem d_Reader_readNot_7 : decode M_Reader_readNot.2.1 7 = .ok (.if_icmp .ge 25, 3) := by decide +kernel
theorem d_Reader_readNot_10 : decode M_Reader_readNot.2.1 10 = .ok (.aload_n 0, 1) := by decide +kernel
theorem d_Reader_readNot_11 : decode M_Reader_readNot.2.1 11 = .ok (.getfield 62, 3) := by decide +kernel
theorem d_Reader_readNot_14 : decode M_Reader_readNot.2.1 14 = .ok (.bipush 118, 2) := by decide +kernel
theorem d_Reader_readNot_16 : decode M_Reader_readNot.2.1 16 = .ok (.if_icmp .ne 16, 3) := by decide +kernel
theorem d_Reader_readNot_19 : decode M_Reader_readNot.2.1 19 = .ok (.iinc 2 1, 3) := by decide +kernel
theorem d_Reader_readNot_22 : decode M_Reader_readNot.2.1 22 = .ok (.aload_n 0, 1) := by decide +kernel
theorem d_Reader_readNot_23 : decode M_Reader_readNot.2.1 23 = .ok (.invokevirtual 59, 3) := by decide +kernel
theorem d_Reader_readNot_26 : decode M_Reader_readNot.2.1 26 = .ok (.iinc 3 1, 3) := by decide +kernel
theorem d_Reader_readNot_29 : decode M_Reader_readNot.2.1 29 = .ok (.goto (-25), 3) := by decide +kernel
theorem d_Reader_readNot_32 : decode M_Reader_readNot.2.1 32 = .ok (.aload_n 0, 1) := by decide +kernel
theorem d_Reader_readNot_33 : decode M_Reader_readNot.2.1 33 = .ok (.getfield 62, 3) := by decide +kernel
theorem d_Reader_readNot_36 : decode M_Reader_readNot.2.1 36 = .ok (.bipush 118, 2) := by decide +kernel
theorem d_Reader_readNot_38 : decode M_Reader_readNot.2.1 38 = .ok (.if_icmp .ne 9, 3) := by decide +kernel
theorem d_Reader_readNot_41 : decode M_Reader_readNot.2.1 41 = .ok (.aload_n 0, 1) := by decide +kernel
theorem d_Reader_readNot_42 : decode M_Reader_readNot.2.1 42 = .ok (.iconst 2, 1) := by decide +kernel
theorem d_Reader_readNot_43 : decode M_Reader_readNot.2.1 43 = .ok (.invokevirtual 78, 3) := by decide +kernel
theorem d_Reader_readNot_46 : decode M_Reader_readNot.2.1 46 = .ok (.return_, 1) := by decide +kernel
theorem d_Reader_readNot_47 : decode M_Reader_readNot.2.1 47 = .ok (.aload_n 0, 1) := by decide +kernel
theorem d_Reader_readNot_48 : decode M_Reader_readNot.2.1 48 = .ok (.iload_n 1, 1) := by decide +kernel
theorem d_Reader_readNot_49 : decode M_Reader_readNot.2.1 49 = .ok (.invokevirtual 210, 3) := by decide +kernel
theorem d_Reader_readNot_52 : decode M_Reader_readNot.2.1 52 = .ok (.iconst 0, 1) := by decide +kernel
theorem d_Reader_readNot_53 : decode M_Reader_readNot.2.1 53 = .ok (.istore_n 3, 1) := by decide +kernel
theorem d_Reader_readNot_54 : decode M_Reader_readNot.2.1 54 = .ok (.iload_n 3, 1) := by decide +kernel
theorem d_Reader_readNot_55 : decode M_Reader_readNot.2.1 55 = .ok (.iload_n 2, 1) := by decide +kernel
theorem d_Reader_readNot_56 : decode M_Reader_readNot.2.1 56 = .ok (.if_icmp .ge 21, 3) := by decide +kernel
theorem d_Reader_readNot_59 : decode M_Reader_readNot.2.1 59 = .ok (.aload_n 0, 1) := by decide +kernel
theorem d_Reader_readNot_60 : decode M_Reader_readNot.2.1 60 = .ok (.getfield 12, 3) := by decide +kernel
theorem d_Reader_readNot_63 : decode M_Reader_readNot.2.1 63 = .ok (.getfield 198, 3) := by decide +kernel
theorem d_Reader_readNot_66 : decode M_Reader_readNot.2.1 66 = .ok (.bipush (-13), 2) := by decide +kernel
theorem d_Reader_readNot_68 : decode M_Reader_readNot.2.1 68 = .ok (.invokevirtual 204, 3) := by decide +kernel
theorem d_Reader_readNot_71 : decode M_Reader_readNot.2.1 71 = .ok (.iinc 3 1, 3) := by decide +kernel
theorem d_Reader_readNot_74 : decode M_Reader_readNot.2.1 74 = .ok (.goto (-20), 3) := by decide +kernel
theorem d_Reader_readNot_77 : decode M_Reader_readNot.2.1 77 = .ok (.return_, 1) := by decide +kernel
theorem d_Reader_readAnd_0 : decode M_Reader_readAnd.2.1 0 = .ok (.aload_n 0, 1) := by decide +kernel
theorem d_Reader_readAnd_1 : decode M_Reader_readAnd.2.1 1 = .ok (.iload_n 1, 1) := by decide +kernel
theorem d_Reader_readAnd_2 : decode M_Reader_readAnd.2.1 2 = .ok (.invokevirtual 207, 3) := by decide +kernel
theorem d_Reader_readAnd_5 : decode M_Reader_readAnd.2.1 5 = .ok (.iconst 0, 1) := by decide +kernel
theorem d_Reader_readAnd_6 : decode M_Reader_readAnd.2.1 6 = .ok (.istore_n 2, 1) := by decide +kernel
theorem d_Reader_readAnd_7 : decode M_Reader_readAnd.2.1 7 = .ok (.iload_n 2, 1) := by decide +kernel
theorem d_Reader_readAnd_8 : decode M_Reader_readAnd.2.1 8 = .ok (.sipush 700, 3) := by decide +kernel
theorem d_Reader_readAnd_11 : decode M_Reader_readAnd.2.1 11 = .ok (.if_icmp .ge 46, 3) := by decide +kernel
theorem d_Reader_readAnd_14 : decode M_Reader_readAnd.2.1 14 = .ok (.aload_n 0, 1) := by decide +kernel
theorem d_Reader_readAnd_15 : decode M_Reader_readAnd.2.1 15 = .ok (.getfield 47, 3) := by decide +kernel
theorem d_Reader_readAnd_18 : decode M_Reader_readAnd.2.1 18 = .ok (.ifCond .ne 39, 3) := by decide +kernel
theorem d_Reader_readAnd_21 : decode M_Reader_readAnd.2.1 21 = .ok (.aload_n 0, 1) := by decide +kernel
theorem d_Reader_readAnd_22 : decode M_Reader_readAnd.2.1 22 = .ok (.getfield 62, 3) := by decide +kernel
theorem d_Reader_readAnd_25 : decode M_Reader_readAnd.2.1 25 = .ok (.bipush 117, 2) := by decide +kernel
theorem d_Reader_readAnd_27 : decode M_Reader_readAnd.2.1 27 = .ok (.if_icmp .ne 30, 3) := by decide +kernel
theorem d_Reader_readAnd_30 : decode M_Reader_readAnd.2.1 30 = .ok (.aload_n 0, 1) := by decide +kernel
theorem d_Reader_readAnd_31 : decode M_Reader_readAnd.2.1 31 = .ok (.invokevirtual 59, 3) := by decide +kernel
theorem d_Reader_readAnd_34 : decode M_Reader_readAnd.2.1 34 = .ok (.aload_n 0, 1) := by decide +kernel
theorem d_Reader_readAnd_35 : decode M_Reader_readAnd.2.1 35 = .ok (.iload_n 1, 1) := by decide +kernel
theorem d_Reader_readAnd_36 : decode M_Reader_readAnd.2.1 36 = .ok (.invokevirtual 207, 3) := by decide +kernel
theorem d_Reader_readAnd_39 : decode M_Reader_readAnd.2.1 39 = .ok (.aload_n 0, 1) := by decide +kernel
theorem d_Reader_readAnd_40 : decode M_Reader_readAnd.2.1 40 = .ok (.getfield 12, 3) := by decide +kernel
theorem d_Reader_readAnd_43 : decode M_Reader_readAnd.2.1 43 = .ok (.getfield 198, 3) := by decide +kernel
theorem d_Reader_readAnd_46 : decode M_Reader_readAnd.2.1 46 = .ok (.bipush (-12), 2) := by decide +kernel
theorem d_Reader_readAnd_48 : decode M_Reader_readAnd.2.1 48 = .ok (.invokevirtual 204, 3) := by decide +kernel
theorem d_Reader_readAnd_51 : decode M_Reader_readAnd.2.1 51 = .ok (.iinc 2 1, 3) := by decide +kernel
theorem d_Reader_readAnd_54 : decode M_Reader_readAnd.2.1 54 = .ok (.goto (-47), 3) := by decide +kernel
theorem d_Reader_readAnd_57 : decode M_Reader_readAnd.2.1 57 = .ok (.return_, 1) := by decide +kernel
theorem d_Reader_readExpr_0 : decode M_Reader_readExpr.2.1 0 = .ok (.iload_n 1, 1) := by decide +kernel
theorem d_Reader_readExpr_1 : decode M_Reader_readExpr.2.1 1 = .ok (.bipush 6, 2) := by decide +kernel
theorem d_Reader_readExpr_3 : decode M_Reader_readExpr.2.1 3 = .ok (.if_icmp .le 20, 3) := by decide +kernel
theorem d_Reader_readExpr_6 : decode M_Reader_readExpr.2.1 6 = .ok (.aload_n 0, 1) := by decide +kernel
theorem d_Reader_readExpr_7 : decode M_Reader_readExpr.2.1 7 = .ok (.aload_n 0, 1) := by decide +kernel
theorem d_Reader_readExpr_8 : decode M_Reader_readExpr.2.1 8 = .ok (.invokevirtual 192, 3) := by decide +kernel
theorem d_Reader_readExpr_11 : decode M_Reader_readExpr.2.1 11 = .ok (.ifCond .eq 7, 3) := by decide +kernel
theorem d_Reader_readExpr_14 : decode M_Reader_readExpr.2.1 14 = .ok (.iconst 2, 1) := by decide +kernel
theorem d_Reader_readExpr_15 : decode M_Reader_readExpr.2.1 15 = .ok (.goto 4, 3) := by decide +kernel
theorem d_Reader_readExpr_18 : decode M_Reader_readExpr.2.1 18 = .ok (.iconst 1, 1) := by decide +kernel
theorem d_Reader_readExpr_19 : decode M_Reader_readExpr.2.1 19 = .ok (.invokevirtual 78, 3) := by decide +kernel
theorem d_Reader_readExpr_22 : decode M_Reader_readExpr.2.1 22 = .ok (.return_, 1) := by decide +kernel
theorem d_Reader_readExpr_23 : decode M_Reader_readExpr.2.1 23 = .ok (.aload_n 0, 1) := by decide +kernel
theorem d_Reader_readExpr_24 : decode M_Reader_readExpr.2.1 24 = .ok (.iload_n 1, 1) := by decide +kernel
theorem d_Reader_readExpr_25 : decode M_Reader_readExpr.2.1 25 = .ok (.invokevirtual 195, 3) := by decide +kernel
theorem d_Reader_readExpr_28 : decode M_Reader_readExpr.2.1 28 = .ok (.iconst 0, 1) := by decide +kernel
theorem d_Reader_readExpr_29 : decode M_Reader_readExpr.2.1 29 = .ok (.istore_n 2, 1) := by decide +kernel
theorem d_Reader_readExpr_30 : decode M_Reader_readExpr.2.1 30 = .ok (.iload_n 2, 1) := by decide +kernel
theorem d_Reader_readExpr_31 : decode M_Reader_readExpr.2.1 31 = .ok (.sipush 700, 3) := by decide +kernel
theorem d_Reader_readExpr_34 : decode M_Reader_readExpr.2.1 34 = .ok (.if_icmp .ge 46, 3) := by decide +kernel
theorem d_Reader_readExpr_37 : decode M_Reader_readExpr.2.1 37 = .ok (.aload_n 0, 1) := by decide +kernel
theorem d_Reader_readExpr_38 : decode M_Reader_readExpr.2.1 38 = .ok (.getfield 47, 3) := by decide +kernel
theorem d_Reader_readExpr_41 : decode M_Reader_readExpr.2.1 41 = .ok (.ifCond .ne 39, 3) := by decide +kernel
theorem d_Reader_readExpr_44 : decode M_Reader_readExpr.2.1 44 = .ok (.aload_n 0, 1) := by decide +kernel
theorem d_Reader_readExpr_45 : decode M_Reader_readExpr.2.1 45 = .ok (.getfield 62, 3) := by decide +kernel
theorem d_Reader_readExpr_48 : decode M_Reader_readExpr.2.1 48 = .ok (.bipush 116, 2) := by decide +kernel
theorem d_Reader_readExpr_50 : decode M_Reader_readExpr.2.1 50 = .ok (.if_icmp .ne 30, 3) := by decide +kernel
theorem d_Reader_readExpr_53 : decode M_Reader_readExpr.2.1 53 = .ok (.aload_n 0, 1) := by decide +kernel
theorem d_Reader_readExpr_54 : decode M_Reader_readExpr.2.1 54 = .ok (.invokevirtual 59, 3) := by decide +kernel
theorem d_Reader_readExpr_57 : decode M_Reader_readExpr.2.1 57 = .ok (.aload_n 0, 1) := by decide +kernel
theorem d_Reader_readExpr_58 : decode M_Reader_readExpr.2.1 58 = .ok (.iload_n 1, 1) := by decide +kernel
theorem d_Reader_readExpr_59 : decode M_Reader_readExpr.2.1 59 = .ok (.invokevirtual 195, 3) := by decide +kernel
theorem d_Reader_readExpr_62 : decode M_Reader_readExpr.2.1 62 = .ok (.aload_n 0, 1) := by decide +kernel
theorem d_Reader_readExpr_63 : decode M_Reader_readExpr.2.1 63 = .ok (.getfield 12, 3) := by decide +kernel
theorem d_Reader_readExpr_66 : decode M_Reader_readExpr.2.1 66 = .ok (.getfield 198, 3) := by decide +kernel
theorem d_Reader_readExpr_69 : decode M_Reader_readExpr.2.1 69 = .ok (.bipush (-11), 2) := by decide +kernel
theorem d_Reader_readExpr_71 : decode M_Reader_readExpr.2.1 71 = .ok (.invokevirtual 204, 3) := by decide +kernel
theorem d_Reader_readExpr_74 : decode M_Reader_readExpr.2.1 74 = .ok (.iinc 2 1, 3) := by decide +kernel
theorem d_Reader_readExpr_77 : decode M_Reader_readExpr.2.1 77 = .ok (.goto (-47), 3) := by decide +kernel
theorem d_Reader_readExpr_80 : decode M_Reader_readExpr.2.1 80 = .ok (.return_, 1) := by decide +kernel
theorem d_Reader_takenOrNone_0 : decode M_Reader_takenOrNone.2.1 0 = .ok (.aload_n 0, 1) := by decide +kernel
theorem d_Reader_takenOrNone_1 : decode M_Reader_takenOrNone.2.1 1 = .ok (.getfield 47, 3) := by decide +kernel
theorem d_Reader_takenOrNone_4 : decode M_Reader_takenOrNone.2.1 4 = .ok (.ifCond .eq 5, 3) := by decide +kernel
theorem d_Reader_takenOrNone_7 : decode M_Reader_takenOrNone.2.1 7 = .ok (.iconst 0, 1) := by decide +kernel
theorem d_Reader_takenOrNone_8 : decode M_Reader_takenOrNone.2.1 8 = .ok (.ireturn, 1) := by decide +kernel
theorem d_Reader_takenOrNone_9 : decode M_Reader_takenOrNone.2.1 9 = .ok (.aload_n 0, 1) := by decide +kernel
theorem d_Reader_takenOrNone_10 : decode M_Reader_takenOrNone.2.1 10 = .ok (.getfield 117, 3) := by decide +kernel
theorem d_Reader_takenOrNone_13 : decode M_Reader_takenOrNone.2.1 13 = .ok (.istore_n 1, 1) := by decide +kernel
theorem d_Reader_takenOrNone_14 : decode M_Reader_takenOrNone.2.1 14 = .ok (.aload_n 0, 1) := by decide +kernel
theorem d_Reader_takenOrNone_15 : decode M_Reader_takenOrNone.2.1 15 = .ok (.invokevirtual 59, 3) := by decide +kernel
theorem d_Reader_takenOrNone_18 : decode M_Reader_takenOrNone.2.1 18 = .ok (.iload_n 1, 1) := by decide +kernel
theorem d_Reader_takenOrNone_19 : decode M_Reader_takenOrNone.2.1 19 = .ok (.ireturn, 1) := by decide +kernel
theorem d_Reader_takeNumber_0 : decode M_Reader_takeNumber.2.1 0 = .ok (.aload_n 0, 1) := by decide +kernel
theorem d_Reader_takeNumber_1 : decode M_Reader_takeNumber.2.1 1 = .ok (.getfield 47, 3) := by decide +kernel
theorem d_Reader_takeNumber_4 : decode M_Reader_takeNumber.2.1 4 = .ok (.ifCond .ne 7, 3) := by decide +kernel
theorem d_Reader_takeNumber_7 : decode M_Reader_takeNumber.2.1 7 = .ok (.aload_n 0, 1) := by decide +kernel
theorem d_Reader_takeNumber_8 : decode M_Reader_takeNumber.2.1 8 = .ok (.invokevirtual 120, 3) := by decide +kernel
theorem d_Reader_takeNumber_11 : decode M_Reader_takeNumber.2.1 11 = .ok (.aload_n 0, 1) := by decide +kernel
theorem d_Reader_takeNumber_12 : decode M_Reader_takeNumber.2.1 12 = .ok (.getfield 47, 3) := by decide +kernel
theorem d_Reader_takeNumber_15 : decode M_Reader_takeNumber.2.1 15 = .ok (.ifCond .ne 24, 3) := by decide +kernel
theorem d_Reader_takeNumber_18 : decode M_Reader_takeNumber.2.1 18 = .ok (.aload_n 0, 1) := by decide +kernel
theorem d_Reader_takeNumber_19 : decode M_Reader_takeNumber.2.1 19 = .ok (.getfield 117, 3) := by decide +kernel
theorem d_Reader_takeNumber_22 : decode M_Reader_takeNumber.2.1 22 = .ok (.iload_n 1, 1) := by decide +kernel
theorem d_Reader_takeNumber_23 : decode M_Reader_takeNumber.2.1 23 = .ok (.if_icmp .lt 11, 3) := by decide +kernel
theorem d_Reader_takeNumber_26 : decode M_Reader_takeNumber.2.1 26 = .ok (.aload_n 0, 1) := by decide +kernel
theorem d_Reader_takeNumber_27 : decode M_Reader_takeNumber.2.1 27 = .ok (.getfield 117, 3) := by decide +kernel
theorem d_Reader_takeNumber_30 : decode M_Reader_takeNumber.2.1 30 = .ok (.iload_n 2, 1) := by decide +kernel
theorem d_Reader_takeNumber_31 : decode M_Reader_takeNumber.2.1 31 = .ok (.if_icmp .le 8, 3) := by decide +kernel
theorem d_Reader_takeNumber_34 : decode M_Reader_takeNumber.2.1 34 = .ok (.aload_n 0, 1) := by decide +kernel
theorem d_Reader_takeNumber_35 : decode M_Reader_takeNumber.2.1 35 = .ok (.iconst 2, 1) := by decide +kernel
theorem d_Reader_takeNumber_36 : decode M_Reader_takeNumber.2.1 36 = .ok (.invokevirtual 78, 3) := by decide +kernel
theorem d_Reader_takeNumber_39 : decode M_Reader_takeNumber.2.1 39 = .ok (.aload_n 0, 1) := by decide +kernel
theorem d_Reader_takeNumber_40 : decode M_Reader_takeNumber.2.1 40 = .ok (.invokevirtual 123, 3) := by decide +kernel
theorem d_Reader_takeNumber_43 : decode M_Reader_takeNumber.2.1 43 = .ok (.ireturn, 1) := by decide +kernel
theorem d_Reader_readMonk_0 : decode M_Reader_readMonk.2.1 0 = .ok (.aload_n 0, 1) := by decide +kernel
theorem d_Reader_readMonk_1 : decode M_Reader_readMonk.2.1 1 = .ok (.getfield 12, 3) := by decide +kernel
theorem d_Reader_readMonk_4 : decode M_Reader_readMonk.2.1 4 = .ok (.getfield 126, 3) := by decide +kernel
theorem d_Reader_readMonk_7 : decode M_Reader_readMonk.2.1 7 = .ok (.bipush 6, 2) := by decide +kernel
theorem d_Reader_readMonk_9 : decode M_Reader_readMonk.2.1 9 = .ok (.if_icmp .lt 9, 3) := by decide +kernel
theorem d_Reader_readMonk_12 : decode M_Reader_readMonk.2.1 12 = .ok (.aload_n 0, 1) := by decide +kernel
theorem d_Reader_readMonk_13 : decode M_Reader_readMonk.2.1 13 = .ok (.iconst 2, 1) := by decide +kernel
theorem d_Reader_readMonk_14 : decode M_Reader_readMonk.2.1 14 = .ok (.invokevirtual 78, 3) := by decide +kernel
theorem d_Reader_readMonk_17 : decode M_Reader_readMonk.2.1 17 = .ok (.return_, 1) := by decide +kernel
theorem d_Reader_readMonk_18 : decode M_Reader_readMonk.2.1 18 = .ok (.aload_n 0, 1) := by decide +kernel
theorem d_Reader_readMonk_19 : decode M_Reader_readMonk.2.1 19 = .ok (.invokevirtual 59, 3) := by decide +kernel
theorem d_Reader_readMonk_22 : decode M_Reader_readMonk.2.1 22 = .ok (.aload_n 0, 1) := by decide +kernel
theorem d_Reader_readMonk_23 : decode M_Reader_readMonk.2.1 23 = .ok (.iconst 0, 1) := by decide +kernel
theorem d_Reader_readMonk_24 : decode M_Reader_readMonk.2.1 24 = .ok (.bipush 99, 2) := by decide +kernel
theorem d_Reader_readMonk_26 : decode M_Reader_readMonk.2.1 26 = .ok (.invokevirtual 133, 3) := by decide +kernel
theorem d_Reader_readMonk_29 : decode M_Reader_readMonk.2.1 29 = .ok (.istore_n 2, 1) := by decide +kernel
theorem d_Reader_readMonk_30 : decode M_Reader_readMonk.2.1 30 = .ok (.aload_n 0, 1) := by decide +kernel
theorem d_Reader_readMonk_31 : decode M_Reader_readMonk.2.1 31 = .ok (.iconst 0, 1) := by decide +kernel
theorem d_Reader_readMonk_32 : decode M_Reader_readMonk.2.1 32 = .ok (.bipush 60, 2) := by decide +kernel
theorem d_Reader_readMonk_34 : decode M_Reader_readMonk.2.1 34 = .ok (.invokevirtual 133, 3) := by decide +kernel
theorem d_Reader_readMonk_37 : decode M_Reader_readMonk.2.1 37 = .ok (.istore_n 3, 1) := by decide +kernel
theorem d_Reader_readMonk_38 : decode M_Reader_readMonk.2.1 38 = .ok (.aload_n 0, 1) := by decide +kernel
theorem d_Reader_readMonk_39 : decode M_Reader_readMonk.2.1 39 = .ok (.getfield 47, 3) := by decide +kernel
theorem d_Reader_readMonk_42 : decode M_Reader_readMonk.2.1 42 = .ok (.ifCond .ne 70, 3) := by decide +kernel
theorem d_Reader_readMonk_45 : decode M_Reader_readMonk.2.1 45 = .ok (.aload_n 0, 1) := by decide +kernel
theorem d_Reader_readMonk_46 : decode M_Reader_readMonk.2.1 46 = .ok (.getfield 12, 3) := by decide +kernel
theorem d_Reader_readMonk_49 : decode M_Reader_readMonk.2.1 49 = .ok (.getfield 126, 3) := by decide +kernel
theorem d_Reader_readMonk_52 : decode M_Reader_readMonk.2.1 52 = .ok (.istore 4, 2) := by decide +kernel
theorem d_Reader_readMonk_54 : decode M_Reader_readMonk.2.1 54 = .ok (.aload_n 0, 1) := by decide +kernel
theorem d_Reader_readMonk_55 : decode M_Reader_readMonk.2.1 55 = .ok (.getfield 12, 3) := by decide +kernel
theorem d_Reader_readMonk_58 : decode M_Reader_readMonk.2.1 58 = .ok (.dup, 1) := by decide +kernel
theorem d_Reader_readMonk_59 : decode M_Reader_readMonk.2.1 59 = .ok (.getfield 126, 3) := by decide +kernel
theorem d_Reader_readMonk_62 : decode M_Reader_readMonk.2.1 62 = .ok (.iconst 1, 1) := by decide +kernel
theorem d_Reader_readMonk_63 : decode M_Reader_readMonk.2.1 63 = .ok (.iadd, 1) := by decide +kernel
theorem d_Reader_readMonk_64 : decode M_Reader_readMonk.2.1 64 = .ok (.putfield 126, 3) := by decide +kernel
theorem d_Reader_readMonk_67 : decode M_Reader_readMonk.2.1 67 = .ok (.aload_n 0, 1) := by decide +kernel
theorem d_Reader_readMonk_68 : decode M_Reader_readMonk.2.1 68 = .ok (.getfield 12, 3) := by decide +kernel
theorem d_Reader_readMonk_71 : decode M_Reader_readMonk.2.1 71 = .ok (.getfield 136, 3) := by decide +kernel
theorem d_Reader_readMonk_74 : decode M_Reader_readMonk.2.1 74 = .ok (.iload 4, 2) := by decide +kernel
theorem d_Reader_readMonk_76 : decode M_Reader_readMonk.2.1 76 = .ok (.iload_n 1, 1) := by decide +kernel
theorem d_Reader_readMonk_77 : decode M_Reader_readMonk.2.1 77 = .ok (.iastore, 1) := by decide +kernel
theorem d_Reader_readMonk_78 : decode M_Reader_readMonk.2.1 78 = .ok (.aload_n 0, 1) := by decide +kernel
theorem d_Reader_readMonk_79 : decode M_Reader_readMonk.2.1 79 = .ok (.getfield 12, 3) := by decide +kernel
theorem d_Reader_readMonk_82 : decode M_Reader_readMonk.2.1 82 = .ok (.getfield 140, 3) := by decide +kernel
theorem d_Reader_readMonk_85 : decode M_Reader_readMonk.2.1 85 = .ok (.iload 4, 2) := by decide +kernel
theorem d_Reader_readMonk_87 : decode M_Reader_readMonk.2.1 87 = .ok (.iload_n 2, 1) := by decide +kernel
theorem d_Reader_readMonk_88 : decode M_Reader_readMonk.2.1 88 = .ok (.iastore, 1) := by decide +kernel
theorem d_Reader_readMonk_89 : decode M_Reader_readMonk.2.1 89 = .ok (.aload_n 0, 1) := by decide +kernel
theorem d_Reader_readMonk_90 : decode M_Reader_readMonk.2.1 90 = .ok (.getfield 23, 3) := by decide +kernel
theorem d_Reader_readMonk_93 : decode M_Reader_readMonk.2.1 93 = .ok (.getfield 143, 3) := by decide +kernel
theorem d_Reader_readMonk_96 : decode M_Reader_readMonk.2.1 96 = .ok (.iload 4, 2) := by decide +kernel
theorem d_Reader_readMonk_98 : decode M_Reader_readMonk.2.1 98 = .ok (.iload_n 3, 1) := by decide +kernel
theorem d_Reader_readMonk_99 : decode M_Reader_readMonk.2.1 99 = .ok (.aload_n 0, 1) := by decide +kernel
theorem d_Reader_readMonk_100 : decode M_Reader_readMonk.2.1 100 = .ok (.getfield 12, 3) := by decide +kernel
theorem d_Reader_readMonk_103 : decode M_Reader_readMonk.2.1 103 = .ok (.iload 4, 2) := by decide +kernel
theorem d_Reader_readMonk_105 : decode M_Reader_readMonk.2.1 105 = .ok (.invokevirtual 145, 3) := by decide +kernel
theorem d_Reader_readMonk_108 : decode M_Reader_readMonk.2.1 108 = .ok (.invokestatic 31, 3) := by decide +kernel
theorem d_Reader_readMonk_111 : decode M_Reader_readMonk.2.1 111 = .ok (.iastore, 1) := by decide +kernel
theorem d_Reader_readMonk_112 : decode M_Reader_readMonk.2.1 112 = .ok (.return_, 1) := by decide +kernel
theorem d_Reader_takeTold_0 : decode M_Reader_takeTold.2.1 0 = .ok (.aload_n 0, 1) := by decide +kernel
theorem d_Reader_takeTold_1 : decode M_Reader_takeTold.2.1 1 = .ok (.getfield 47, 3) := by decide +kernel
theorem d_Reader_takeTold_4 : decode M_Reader_takeTold.2.1 4 = .ok (.ifCond .ne 7, 3) := by decide +kernel
theorem d_Reader_takeTold_7 : decode M_Reader_takeTold.2.1 7 = .ok (.aload_n 0, 1) := by decide +kernel
theorem d_Reader_takeTold_8 : decode M_Reader_takeTold.2.1 8 = .ok (.invokevirtual 120, 3) := by decide +kernel
theorem d_Reader_takeTold_11 : decode M_Reader_takeTold.2.1 11 = .ok (.aload_n 0, 1) := by decide +kernel
theorem d_Reader_takeTold_12 : decode M_Reader_takeTold.2.1 12 = .ok (.getfield 47, 3) := by decide +kernel
theorem d_Reader_takeTold_15 : decode M_Reader_takeTold.2.1 15 = .ok (.ifCond .ne 16, 3) := by decide +kernel
theorem d_Reader_takeTold_18 : decode M_Reader_takeTold.2.1 18 = .ok (.aload_n 0, 1) := by decide +kernel
theorem d_Reader_takeTold_19 : decode M_Reader_takeTold.2.1 19 = .ok (.getfield 117, 3) := by decide +kernel
theorem d_Reader_takeTold_22 : decode M_Reader_takeTold.2.1 22 = .ok (.iload_n 1, 1) := by decide +kernel
theorem d_Reader_takeTold_23 : decode M_Reader_takeTold.2.1 23 = .ok (.if_icmp .lt 8, 3) := by decide +kernel
theorem d_Reader_takeTold_26 : decode M_Reader_takeTold.2.1 26 = .ok (.aload_n 0, 1) := by decide +kernel
theorem d_Reader_takeTold_27 : decode M_Reader_takeTold.2.1 27 = .ok (.iconst 3, 1) := by decide +kernel
theorem d_Reader_takeTold_28 : decode M_Reader_takeTold.2.1 28 = .ok (.invokevirtual 78, 3) := by decide +kernel
theorem d_Reader_takeTold_31 : decode M_Reader_takeTold.2.1 31 = .ok (.aload_n 0, 1) := by decide +kernel
theorem d_Reader_takeTold_32 : decode M_Reader_takeTold.2.1 32 = .ok (.invokevirtual 123, 3) := by decide +kernel
theorem d_Reader_takeTold_35 : decode M_Reader_takeTold.2.1 35 = .ok (.ireturn, 1) := by decide +kernel
theorem d_Reader_readEntry_0 : decode M_Reader_readEntry.2.1 0 = .ok (.aload_n 0, 1) := by decide +kernel
theorem d_Reader_readEntry_1 : decode M_Reader_readEntry.2.1 1 = .ok (.getfield 23, 3) := by decide +kernel
theorem d_Reader_readEntry_4 : decode M_Reader_readEntry.2.1 4 = .ok (.invokevirtual 149, 3) := by decide +kernel
theorem d_Reader_readEntry_7 : decode M_Reader_readEntry.2.1 7 = .ok (.ifCond .eq 9, 3) := by decide +kernel
theorem d_Reader_readEntry_10 : decode M_Reader_readEntry.2.1 10 = .ok (.aload_n 0, 1) := by decide +kernel
theorem d_Reader_readEntry_11 : decode M_Reader_readEntry.2.1 11 = .ok (.iconst 2, 1) := by decide +kernel
theorem d_Reader_readEntry_12 : decode M_Reader_readEntry.2.1 12 = .ok (.invokevirtual 78, 3) := by decide +kernel
theorem d_Reader_readEntry_15 : decode M_Reader_readEntry.2.1 15 = .ok (.return_, 1) := by decide +kernel
theorem d_Reader_readEntry_16 : decode M_Reader_readEntry.2.1 16 = .ok (.aload_n 0, 1) := by decide +kernel
theorem d_Reader_readEntry_17 : decode M_Reader_readEntry.2.1 17 = .ok (.invokevirtual 59, 3) := by decide +kernel
theorem d_Reader_readEntry_20 : decode M_Reader_readEntry.2.1 20 = .ok (.aload_n 0, 1) := by decide +kernel
theorem d_Reader_readEntry_21 : decode M_Reader_readEntry.2.1 21 = .ok (.aload_n 0, 1) := by decide +kernel
theorem d_Reader_readEntry_22 : decode M_Reader_readEntry.2.1 22 = .ok (.getfield 12, 3) := by decide +kernel
theorem d_Reader_readEntry_25 : decode M_Reader_readEntry.2.1 25 = .ok (.getfield 126, 3) := by decide +kernel
theorem d_Reader_readEntry_28 : decode M_Reader_readEntry.2.1 28 = .ok (.invokevirtual 153, 3) := by decide +kernel
theorem d_Reader_readEntry_31 : decode M_Reader_readEntry.2.1 31 = .ok (.istore_n 2, 1) := by decide +kernel
theorem d_Reader_readEntry_32 : decode M_Reader_readEntry.2.1 32 = .ok (.aload_n 0, 1) := by decide +kernel
theorem d_Reader_readEntry_33 : decode M_Reader_readEntry.2.1 33 = .ok (.iconst 0, 1) := by decide +kernel
theorem d_Reader_readEntry_34 : decode M_Reader_readEntry.2.1 34 = .ok (.bipush 60, 2) := by decide +kernel
theorem d_Reader_readEntry_36 : decode M_Reader_readEntry.2.1 36 = .ok (.invokevirtual 133, 3) := by decide +kernel
theorem d_Reader_readEntry_39 : decode M_Reader_readEntry.2.1 39 = .ok (.istore_n 3, 1) := by decide +kernel
theorem d_Reader_readEntry_40 : decode M_Reader_readEntry.2.1 40 = .ok (.aload_n 0, 1) := by decide +kernel
theorem d_Reader_readEntry_41 : decode M_Reader_readEntry.2.1 41 = .ok (.iconst 0, 1) := by decide +kernel
theorem d_Reader_readEntry_42 : decode M_Reader_readEntry.2.1 42 = .ok (.bipush 7, 2) := by decide +kernel
theorem d_Reader_readEntry_44 : decode M_Reader_readEntry.2.1 44 = .ok (.invokevirtual 133, 3) := by decide +kernel
theorem d_Reader_readEntry_47 : decode M_Reader_readEntry.2.1 47 = .ok (.istore 4, 2) := by decide +kernel
theorem d_Reader_readEntry_49 : decode M_Reader_readEntry.2.1 49 = .ok (.aload_n 0, 1) := by decide +kernel
theorem d_Reader_readEntry_50 : decode M_Reader_readEntry.2.1 50 = .ok (.iconst 0, 1) := by decide +kernel
theorem d_Reader_readEntry_51 : decode M_Reader_readEntry.2.1 51 = .ok (.sipush 999, 3) := by decide +kernel
theorem d_Reader_readEntry_54 : decode M_Reader_readEntry.2.1 54 = .ok (.invokevirtual 133, 3) := by decide +kernel
theorem d_Reader_readEntry_57 : decode M_Reader_readEntry.2.1 57 = .ok (.istore 5, 2) := by decide +kernel
theorem d_Reader_readEntry_59 : decode M_Reader_readEntry.2.1 59 = .ok (.aload_n 0, 1) := by decide +kernel
theorem d_Reader_readEntry_60 : decode M_Reader_readEntry.2.1 60 = .ok (.getfield 47, 3) := by decide +kernel
theorem d_Reader_readEntry_63 : decode M_Reader_readEntry.2.1 63 = .ok (.ifCond .ne 79, 3) := by decide +kernel
theorem d_Reader_readEntry_66 : decode M_Reader_readEntry.2.1 66 = .ok (.aload_n 0, 1) := by decide +kernel
theorem d_Reader_readEntry_67 : decode M_Reader_readEntry.2.1 67 = .ok (.getfield 23, 3) := by decide +kernel
theorem d_Reader_readEntry_70 : decode M_Reader_readEntry.2.1 70 = .ok (.iload_n 2, 1) := by decide +kernel
theorem d_Reader_readEntry_71 : decode M_Reader_readEntry.2.1 71 = .ok (.iload_n 3, 1) := by decide +kernel
theorem d_Reader_readEntry_72 : decode M_Reader_readEntry.2.1 72 = .ok (.ineg, 1) := by decide +kernel
theorem d_Reader_readEntry_73 : decode M_Reader_readEntry.2.1 73 = .ok (.iload_n 1, 1) := by decide +kernel
theorem d_Reader_readEntry_74 : decode M_Reader_readEntry.2.1 74 = .ok (.iload 4, 2) := by decide +kernel
theorem d_Reader_readEntry_76 : decode M_Reader_readEntry.2.1 76 = .ok (.iload 5, 2) := by decide +kernel
theorem d_Reader_readEntry_78 : decode M_Reader_readEntry.2.1 78 = .ok (.invokevirtual 156, 3) := by decide +kernel
theorem d_Reader_readEntry_81 : decode M_Reader_readEntry.2.1 81 = .ok (.istore 6, 2) := by decide +kernel
theorem d_Reader_readEntry_83 : decode M_Reader_readEntry.2.1 83 = .ok (.aload_n 0, 1) := by decide +kernel
theorem d_Reader_readEntry_84 : decode M_Reader_readEntry.2.1 84 = .ok (.getfield 62, 3) := by decide +kernel
theorem d_Reader_readEntry_87 : decode M_Reader_readEntry.2.1 87 = .ok (.bipush 114, 2) := by decide +kernel
theorem d_Reader_readEntry_89 : decode M_Reader_readEntry.2.1 89 = .ok (.if_icmp .ne 24, 3) := by decide +kernel
theorem d_Reader_readEntry_92 : decode M_Reader_readEntry.2.1 92 = .ok (.aload_n 0, 1) := by decide +kernel
theorem d_Reader_readEntry_93 : decode M_Reader_readEntry.2.1 93 = .ok (.invokevirtual 59, 3) := by decide +kernel
theorem d_Reader_readEntry_96 : decode M_Reader_readEntry.2.1 96 = .ok (.aload_n 0, 1) := by decide +kernel
theorem d_Reader_readEntry_97 : decode M_Reader_readEntry.2.1 97 = .ok (.getfield 12, 3) := by decide +kernel
theorem d_Reader_readEntry_100 : decode M_Reader_readEntry.2.1 100 = .ok (.iload 6, 2) := by decide +kernel
theorem d_Reader_readEntry_102 : decode M_Reader_readEntry.2.1 102 = .ok (.iconst 5, 1) := by decide +kernel
theorem d_Reader_readEntry_103 : decode M_Reader_readEntry.2.1 103 = .ok (.aload_n 0, 1) := by decide +kernel
theorem d_Reader_readEntry_104 : decode M_Reader_readEntry.2.1 104 = .ok (.iconst 0, 1) := by decide +kernel
theorem d_Reader_readEntry_105 : decode M_Reader_readEntry.2.1 105 = .ok (.bipush 7, 2) := by decide +kernel
theorem d_Reader_readEntry_107 : decode M_Reader_readEntry.2.1 107 = .ok (.invokevirtual 133, 3) := by decide +kernel
theorem d_Reader_readEntry_110 : decode M_Reader_readEntry.2.1 110 = .ok (.invokevirtual 160, 3) := by decide +kernel
theorem d_Reader_readEntry_113 : decode M_Reader_readEntry.2.1 113 = .ok (.aload_n 0, 1) := by decide +kernel
theorem d_Reader_readEntry_114 : decode M_Reader_readEntry.2.1 114 = .ok (.getfield 47, 3) := by decide +kernel
theorem d_Reader_readEntry_117 : decode M_Reader_readEntry.2.1 117 = .ok (.ifCond .ne 25, 3) := by decide +kernel
theorem d_Reader_readEntry_120 : decode M_Reader_readEntry.2.1 120 = .ok (.aload_n 0, 1) := by decide +kernel
theorem d_Reader_readEntry_121 : decode M_Reader_readEntry.2.1 121 = .ok (.getfield 62, 3) := by decide +kernel
theorem d_Reader_readEntry_124 : decode M_Reader_readEntry.2.1 124 = .ok (.bipush 115, 2) := by decide +kernel
theorem d_Reader_readEntry_126 : decode M_Reader_readEntry.2.1 126 = .ok (.if_icmp .ne 16, 3) := by decide +kernel
theorem d_Reader_readEntry_129 : decode M_Reader_readEntry.2.1 129 = .ok (.aload_n 0, 1) := by decide +kernel
theorem d_Reader_readEntry_130 : decode M_Reader_readEntry.2.1 130 = .ok (.invokevirtual 59, 3) := by decide +kernel
theorem d_Reader_readEntry_133 : decode M_Reader_readEntry.2.1 133 = .ok (.aload_n 0, 1) := by decide +kernel
theorem d_Reader_readEntry_134 : decode M_Reader_readEntry.2.1 134 = .ok (.getfield 23, 3) := by decide +kernel
theorem d_Reader_readEntry_137 : decode M_Reader_readEntry.2.1 137 = .ok (.iload 6, 2) := by decide +kernel
theorem d_Reader_readEntry_139 : decode M_Reader_readEntry.2.1 139 = .ok (.invokevirtual 164, 3) := by decide +kernel
theorem d_Reader_readEntry_142 : decode M_Reader_readEntry.2.1 142 = .ok (.return_, 1) := by decide +kernel
theorem d_Reader_takeCopier_0 : decode M_Reader_takeCopier.2.1 0 = .ok (.aload_n 0, 1) := by decide +kernel
theorem d_Reader_takeCopier_1 : decode M_Reader_takeCopier.2.1 1 = .ok (.getfield 47, 3) := by decide +kernel
theorem d_Reader_takeCopier_4 : decode M_Reader_takeCopier.2.1 4 = .ok (.ifCond .ne 7, 3) := by decide +kernel
theorem d_Reader_takeCopier_7 : decode M_Reader_takeCopier.2.1 7 = .ok (.aload_n 0, 1) := by decide +kernel
theorem d_Reader_takeCopier_8 : decode M_Reader_takeCopier.2.1 8 = .ok (.invokevirtual 120, 3) := by decide +kernel
theorem d_Reader_takeCopier_11 : decode M_Reader_takeCopier.2.1 11 = .ok (.aload_n 0, 1) := by decide +kernel
theorem d_Reader_takeCopier_12 : decode M_Reader_takeCopier.2.1 12 = .ok (.getfield 47, 3) := by decide +kernel
theorem d_Reader_takeCopier_15 : decode M_Reader_takeCopier.2.1 15 = .ok (.ifCond .ne 22, 3) := by decide +kernel
theorem d_Reader_takeCopier_18 : decode M_Reader_takeCopier.2.1 18 = .ok (.aload_n 0, 1) := by decide +kernel
theorem d_Reader_takeCopier_19 : decode M_Reader_takeCopier.2.1 19 = .ok (.getfield 117, 3) := by decide +kernel
theorem d_Reader_takeCopier_22 : decode M_Reader_takeCopier.2.1 22 = .ok (.aload_n 0, 1) := by decide +kernel
theorem d_Reader_takeCopier_23 : decode M_Reader_takeCopier.2.1 23 = .ok (.getfield 12, 3) := by decide +kernel
theorem d_Reader_takeCopier_26 : decode M_Reader_takeCopier.2.1 26 = .ok (.getfield 126, 3) := by decide +kernel
theorem d_Reader_takeCopier_29 : decode M_Reader_takeCopier.2.1 29 = .ok (.if_icmp .lt 8, 3) := by decide +kernel
theorem d_Reader_takeCopier_32 : decode M_Reader_takeCopier.2.1 32 = .ok (.aload_n 0, 1) := by decide +kernel
theorem d_Reader_takeCopier_33 : decode M_Reader_takeCopier.2.1 33 = .ok (.iconst 3, 1) := by decide +kernel
theorem d_Reader_takeCopier_34 : decode M_Reader_takeCopier.2.1 34 = .ok (.invokevirtual 78, 3) := by decide +kernel
theorem d_Reader_takeCopier_37 : decode M_Reader_takeCopier.2.1 37 = .ok (.aload_n 0, 1) := by decide +kernel
theorem d_Reader_takeCopier_38 : decode M_Reader_takeCopier.2.1 38 = .ok (.getfield 47, 3) := by decide +kernel
theorem d_Reader_takeCopier_41 : decode M_Reader_takeCopier.2.1 41 = .ok (.ifCond .ne 23, 3) := by decide +kernel
theorem d_Reader_takeCopier_44 : decode M_Reader_takeCopier.2.1 44 = .ok (.aload_n 0, 1) := by decide +kernel
theorem d_Reader_takeCopier_45 : decode M_Reader_takeCopier.2.1 45 = .ok (.getfield 23, 3) := by decide +kernel
theorem d_Reader_takeCopier_48 : decode M_Reader_takeCopier.2.1 48 = .ok (.aload_n 0, 1) := by decide +kernel
theorem d_Reader_takeCopier_49 : decode M_Reader_takeCopier.2.1 49 = .ok (.getfield 117, 3) := by decide +kernel
theorem d_Reader_takeCopier_52 : decode M_Reader_takeCopier.2.1 52 = .ok (.iload_n 1, 1) := by decide +kernel
theorem d_Reader_takeCopier_53 : decode M_Reader_takeCopier.2.1 53 = .ok (.invokevirtual 129, 3) := by decide +kernel
theorem d_Reader_takeCopier_56 : decode M_Reader_takeCopier.2.1 56 = .ok (.ifCond .eq 8, 3) := by decide +kernel
theorem d_Reader_takeCopier_59 : decode M_Reader_takeCopier.2.1 59 = .ok (.aload_n 0, 1) := by decide +kernel
theorem d_Reader_takeCopier_60 : decode M_Reader_takeCopier.2.1 60 = .ok (.iconst 4, 1) := by decide +kernel
theorem d_Reader_takeCopier_61 : decode M_Reader_takeCopier.2.1 61 = .ok (.invokevirtual 78, 3) := by decide +kernel
theorem d_Reader_takeCopier_64 : decode M_Reader_takeCopier.2.1 64 = .ok (.aload_n 0, 1) := by decide +kernel
theorem d_Reader_takeCopier_65 : decode M_Reader_takeCopier.2.1 65 = .ok (.invokevirtual 123, 3) := by decide +kernel
theorem d_Reader_takeCopier_68 : decode M_Reader_takeCopier.2.1 68 = .ok (.ireturn, 1) := by decide +kernel
theorem d_Reader_readCopy_0 : decode M_Reader_readCopy.2.1 0 = .ok (.aload_n 0, 1) := by decide +kernel
theorem d_Reader_readCopy_1 : decode M_Reader_readCopy.2.1 1 = .ok (.getfield 23, 3) := by decide +kernel
theorem d_Reader_readCopy_4 : decode M_Reader_readCopy.2.1 4 = .ok (.invokevirtual 149, 3) := by decide +kernel
theorem d_Reader_readCopy_7 : decode M_Reader_readCopy.2.1 7 = .ok (.ifCond .eq 9, 3) := by decide +kernel
theorem d_Reader_readCopy_10 : decode M_Reader_readCopy.2.1 10 = .ok (.aload_n 0, 1) := by decide +kernel
theorem d_Reader_readCopy_11 : decode M_Reader_readCopy.2.1 11 = .ok (.iconst 2, 1) := by decide +kernel
theorem d_Reader_readCopy_12 : decode M_Reader_readCopy.2.1 12 = .ok (.invokevirtual 78, 3) := by decide +kernel
theorem d_Reader_readCopy_15 : decode M_Reader_readCopy.2.1 15 = .ok (.return_, 1) := by decide +kernel
theorem d_Reader_readCopy_16 : decode M_Reader_readCopy.2.1 16 = .ok (.aload_n 0, 1) := by decide +kernel
theorem d_Reader_readCopy_17 : decode M_Reader_readCopy.2.1 17 = .ok (.invokevirtual 59, 3) := by decide +kernel
theorem d_Reader_readCopy_20 : decode M_Reader_readCopy.2.1 20 = .ok (.aload_n 0, 1) := by decide +kernel
theorem d_Reader_readCopy_21 : decode M_Reader_readCopy.2.1 21 = .ok (.aload_n 0, 1) := by decide +kernel
theorem d_Reader_readCopy_22 : decode M_Reader_readCopy.2.1 22 = .ok (.getfield 23, 3) := by decide +kernel
theorem d_Reader_readCopy_25 : decode M_Reader_readCopy.2.1 25 = .ok (.getfield 167, 3) := by decide +kernel
theorem d_Reader_readCopy_28 : decode M_Reader_readCopy.2.1 28 = .ok (.invokevirtual 153, 3) := by decide +kernel
theorem d_Reader_readCopy_31 : decode M_Reader_readCopy.2.1 31 = .ok (.istore_n 1, 1) := by decide +kernel
theorem d_Reader_readCopy_32 : decode M_Reader_readCopy.2.1 32 = .ok (.aload_n 0, 1) := by decide +kernel
theorem d_Reader_readCopy_33 : decode M_Reader_readCopy.2.1 33 = .ok (.aload_n 0, 1) := by decide +kernel
theorem d_Reader_readCopy_34 : decode M_Reader_readCopy.2.1 34 = .ok (.getfield 47, 3) := by decide +kernel
theorem d_Reader_readCopy_37 : decode M_Reader_readCopy.2.1 37 = .ok (.ifCond .ne 16, 3) := by decide +kernel
theorem d_Reader_readCopy_40 : decode M_Reader_readCopy.2.1 40 = .ok (.aload_n 0, 1) := by decide +kernel
theorem d_Reader_readCopy_41 : decode M_Reader_readCopy.2.1 41 = .ok (.getfield 12, 3) := by decide +kernel
theorem d_Reader_readCopy_44 : decode M_Reader_readCopy.2.1 44 = .ok (.iload_n 1, 1) := by decide +kernel
theorem d_Reader_readCopy_45 : decode M_Reader_readCopy.2.1 45 = .ok (.bipush 7, 2) := by decide +kernel
theorem d_Reader_readCopy_47 : decode M_Reader_readCopy.2.1 47 = .ok (.invokevirtual 170, 3) := by decide +kernel
theorem d_Reader_readCopy_50 : decode M_Reader_readCopy.2.1 50 = .ok (.goto 4, 3) := by decide +kernel
theorem d_Reader_readCopy_53 : decode M_Reader_readCopy.2.1 53 = .ok (.iconst 0, 1) := by decide +kernel
theorem d_Reader_readCopy_54 : decode M_Reader_readCopy.2.1 54 = .ok (.invokevirtual 173, 3) := by decide +kernel
theorem d_Reader_readCopy_57 : decode M_Reader_readCopy.2.1 57 = .ok (.istore_n 2, 1) := by decide +kernel
theorem d_Reader_readCopy_58 : decode M_Reader_readCopy.2.1 58 = .ok (.aload_n 0, 1) := by decide +kernel
theorem d_Reader_readCopy_59 : decode M_Reader_readCopy.2.1 59 = .ok (.iconst 0, 1) := by decide +kernel
theorem d_Reader_readCopy_60 : decode M_Reader_readCopy.2.1 60 = .ok (.bipush 60, 2) := by decide +kernel
theorem d_Reader_readCopy_62 : decode M_Reader_readCopy.2.1 62 = .ok (.invokevirtual 133, 3) := by decide +kernel
theorem d_Reader_readCopy_65 : decode M_Reader_readCopy.2.1 65 = .ok (.istore_n 3, 1) := by decide +kernel
theorem d_Reader_readCopy_66 : decode M_Reader_readCopy.2.1 66 = .ok (.aload_n 0, 1) := by decide +kernel
theorem d_Reader_readCopy_67 : decode M_Reader_readCopy.2.1 67 = .ok (.getfield 47, 3) := by decide +kernel
theorem d_Reader_readCopy_70 : decode M_Reader_readCopy.2.1 70 = .ok (.ifCond .ne 15, 3) := by decide +kernel
theorem d_Reader_readCopy_73 : decode M_Reader_readCopy.2.1 73 = .ok (.aload_n 0, 1) := by decide +kernel
theorem d_Reader_readCopy_74 : decode M_Reader_readCopy.2.1 74 = .ok (.getfield 23, 3) := by decide +kernel
theorem d_Reader_readCopy_77 : decode M_Reader_readCopy.2.1 77 = .ok (.iload_n 1, 1) := by decide +kernel
theorem d_Reader_readCopy_78 : decode M_Reader_readCopy.2.1 78 = .ok (.iload_n 2, 1) := by decide +kernel
theorem d_Reader_readCopy_79 : decode M_Reader_readCopy.2.1 79 = .ok (.iload_n 3, 1) := by decide +kernel
theorem d_Reader_readCopy_80 : decode M_Reader_readCopy.2.1 80 = .ok (.ineg, 1) := by decide +kernel
theorem d_Reader_readCopy_81 : decode M_Reader_readCopy.2.1 81 = .ok (.invokevirtual 176, 3) := by decide +kernel
theorem d_Reader_readCopy_84 : decode M_Reader_readCopy.2.1 84 = .ok (.pop, 1) := by decide +kernel
theorem d_Reader_readCopy_85 : decode M_Reader_readCopy.2.1 85 = .ok (.return_, 1) := by decide +kernel
theorem d_Reader_readSetting_0 : decode M_Reader_readSetting.2.1 0 = .ok (.iconst 1, 1) := by decide +kernel
theorem d_Reader_readSetting_1 : decode M_Reader_readSetting.2.1 1 = .ok (.iload_n 1, 1) := by decide +kernel
theorem d_Reader_readSetting_2 : decode M_Reader_readSetting.2.1 2 = .ok (.bipush 110, 2) := by decide +kernel
theorem d_Reader_readSetting_4 : decode M_Reader_readSetting.2.1 4 = .ok (.isub, 1) := by decide +kernel
theorem d_Reader_readSetting_5 : decode M_Reader_readSetting.2.1 5 = .ok (.ishl, 1) := by decide +kernel
theorem d_Reader_readSetting_6 : decode M_Reader_readSetting.2.1 6 = .ok (.istore_n 2, 1) := by decide +kernel
theorem d_Reader_readSetting_7 : decode M_Reader_readSetting.2.1 7 = .ok (.iload_n 1, 1) := by decide +kernel
theorem d_Reader_readSetting_8 : decode M_Reader_readSetting.2.1 8 = .ok (.bipush 110, 2) := by decide +kernel
theorem d_Reader_readSetting_10 : decode M_Reader_readSetting.2.1 10 = .ok (.if_icmp .ne 20, 3) := by decide +kernel
theorem d_Reader_readSetting_13 : decode M_Reader_readSetting.2.1 13 = .ok (.aload_n 0, 1) := by decide +kernel
theorem d_Reader_readSetting_14 : decode M_Reader_readSetting.2.1 14 = .ok (.getfield 12, 3) := by decide +kernel
theorem d_Reader_readSetting_17 : decode M_Reader_readSetting.2.1 17 = .ok (.getfield 126, 3) := by decide +kernel
theorem d_Reader_readSetting_20 : decode M_Reader_readSetting.2.1 20 = .ok (.ifCond .le 10, 3) := by decide +kernel
theorem d_Reader_readSetting_23 : decode M_Reader_readSetting.2.1 23 = .ok (.aload_n 0, 1) := by decide +kernel
theorem d_Reader_readSetting_24 : decode M_Reader_readSetting.2.1 24 = .ok (.bipush 6, 2) := by decide +kernel
theorem d_Reader_readSetting_26 : decode M_Reader_readSetting.2.1 26 = .ok (.invokevirtual 78, 3) := by decide +kernel
theorem d_Reader_readSetting_29 : decode M_Reader_readSetting.2.1 29 = .ok (.return_, 1) := by decide +kernel
theorem d_Reader_readSetting_30 : decode M_Reader_readSetting.2.1 30 = .ok (.aload_n 0, 1) := by decide +kernel
theorem d_Reader_readSetting_31 : decode M_Reader_readSetting.2.1 31 = .ok (.getfield 44, 3) := by decide +kernel
theorem d_Reader_readSetting_34 : decode M_Reader_readSetting.2.1 34 = .ok (.iload_n 2, 1) := by decide +kernel
theorem d_Reader_readSetting_35 : decode M_Reader_readSetting.2.1 35 = .ok (.iand, 1) := by decide +kernel
theorem d_Reader_readSetting_36 : decode M_Reader_readSetting.2.1 36 = .ok (.ifCond .eq 9, 3) := by decide +kernel
theorem d_Reader_readSetting_39 : decode M_Reader_readSetting.2.1 39 = .ok (.aload_n 0, 1) := by decide +kernel
theorem d_Reader_readSetting_40 : decode M_Reader_readSetting.2.1 40 = .ok (.iconst 5, 1) := by decide +kernel
theorem d_Reader_readSetting_41 : decode M_Reader_readSetting.2.1 41 = .ok (.invokevirtual 78, 3) := by decide +kernel
theorem d_Reader_readSetting_44 : decode M_Reader_readSetting.2.1 44 = .ok (.return_, 1) := by decide +kernel
theorem d_Reader_readSetting_45 : decode M_Reader_readSetting.2.1 45 = .ok (.aload_n 0, 1) := by decide +kernel
theorem d_Reader_readSetting_46 : decode M_Reader_readSetting.2.1 46 = .ok (.dup, 1) := by decide +kernel
theorem d_Reader_readSetting_47 : decode M_Reader_readSetting.2.1 47 = .ok (.getfield 44, 3) := by decide +kernel
theorem d_Reader_readSetting_50 : decode M_Reader_readSetting.2.1 50 = .ok (.iload_n 2, 1) := by decide +kernel
theorem d_Reader_readSetting_51 : decode M_Reader_readSetting.2.1 51 = .ok (.ior, 1) := by decide +kernel
theorem d_Reader_readSetting_52 : decode M_Reader_readSetting.2.1 52 = .ok (.putfield 44, 3) := by decide +kernel
theorem d_Reader_readSetting_55 : decode M_Reader_readSetting.2.1 55 = .ok (.aload_n 0, 1) := by decide +kernel
theorem d_Reader_readSetting_56 : decode M_Reader_readSetting.2.1 56 = .ok (.invokevirtual 59, 3) := by decide +kernel
theorem d_Reader_readSetting_59 : decode M_Reader_readSetting.2.1 59 = .ok (.iload_n 1, 1) := by decide +kernel
theorem d_Reader_readSetting_60 : decode M_Reader_readSetting.2.1 60 = .ok (.tableswitch 79 110 112 #[28, 45, 62], 28) := by decide +kernel
theorem d_Reader_readSetting_88 : decode M_Reader_readSetting.2.1 88 = .ok (.aload_n 0, 1) := by decide +kernel
theorem d_Reader_readSetting_89 : decode M_Reader_readSetting.2.1 89 = .ok (.getfield 12, 3) := by decide +kernel
theorem d_Reader_readSetting_92 : decode M_Reader_readSetting.2.1 92 = .ok (.aload_n 0, 1) := by decide +kernel
theorem d_Reader_readSetting_93 : decode M_Reader_readSetting.2.1 93 = .ok (.iconst 1, 1) := by decide +kernel
theorem d_Reader_readSetting_94 : decode M_Reader_readSetting.2.1 94 = .ok (.bipush 60, 2) := by decide +kernel
theorem d_Reader_readSetting_96 : decode M_Reader_readSetting.2.1 96 = .ok (.invokevirtual 133, 3) := by decide +kernel
theorem d_Reader_readSetting_99 : decode M_Reader_readSetting.2.1 99 = .ok (.putfield 180, 3) := by decide +kernel
theorem d_Reader_readSetting_102 : decode M_Reader_readSetting.2.1 102 = .ok (.goto 42, 3) := by decide +kernel
theorem d_Reader_readSetting_105 : decode M_Reader_readSetting.2.1 105 = .ok (.aload_n 0, 1) := by decide +kernel
theorem d_Reader_readSetting_106 : decode M_Reader_readSetting.2.1 106 = .ok (.getfield 12, 3) := by decide +kernel
theorem d_Reader_readSetting_109 : decode M_Reader_readSetting.2.1 109 = .ok (.aload_n 0, 1) := by decide +kernel
theorem d_Reader_readSetting_110 : decode M_Reader_readSetting.2.1 110 = .ok (.iconst 1, 1) := by decide +kernel
theorem d_Reader_readSetting_111 : decode M_Reader_readSetting.2.1 111 = .ok (.bipush 99, 2) := by decide +kernel
theorem d_Reader_readSetting_113 : decode M_Reader_readSetting.2.1 113 = .ok (.invokevirtual 133, 3) := by decide +kernel
theorem d_Reader_readSetting_116 : decode M_Reader_readSetting.2.1 116 = .ok (.putfield 183, 3) := by decide +kernel
theorem d_Reader_readSetting_119 : decode M_Reader_readSetting.2.1 119 = .ok (.goto 25, 3) := by decide +kernel
theorem d_Reader_readSetting_122 : decode M_Reader_readSetting.2.1 122 = .ok (.aload_n 0, 1) := by decide +kernel
theorem d_Reader_readSetting_123 : decode M_Reader_readSetting.2.1 123 = .ok (.getfield 12, 3) := by decide +kernel
theorem d_Reader_readSetting_126 : decode M_Reader_readSetting.2.1 126 = .ok (.aload_n 0, 1) := by decide +kernel
theorem d_Reader_readSetting_127 : decode M_Reader_readSetting.2.1 127 = .ok (.iconst 1, 1) := by decide +kernel
theorem d_Reader_readSetting_128 : decode M_Reader_readSetting.2.1 128 = .ok (.bipush 9, 2) := by decide +kernel
theorem d_Reader_readSetting_130 : decode M_Reader_readSetting.2.1 130 = .ok (.invokevirtual 133, 3) := by decide +kernel
theorem d_Reader_readSetting_133 : decode M_Reader_readSetting.2.1 133 = .ok (.putfield 186, 3) := by decide +kernel
theorem d_Reader_readSetting_136 : decode M_Reader_readSetting.2.1 136 = .ok (.goto 8, 3) := by decide +kernel
theorem d_Reader_readSetting_139 : decode M_Reader_readSetting.2.1 139 = .ok (.aload_n 0, 1) := by decide +kernel
theorem d_Reader_readSetting_140 : decode M_Reader_readSetting.2.1 140 = .ok (.iconst 1, 1) := by decide +kernel
theorem d_Reader_readSetting_141 : decode M_Reader_readSetting.2.1 141 = .ok (.invokevirtual 189, 3) := by decide +kernel
theorem d_Reader_readSetting_144 : decode M_Reader_readSetting.2.1 144 = .ok (.return_, 1) := by decide +kernel
theorem d_Reader_read_0 : decode M_Reader_read.2.1 0 = .ok (.aload_n 0, 1) := by decide +kernel
theorem d_Reader_read_1 : decode M_Reader_read.2.1 1 = .ok (.iload_n 1, 1) := by decide +kernel
theorem d_Reader_read_2 : decode M_Reader_read.2.1 2 = .ok (.aload_n 0, 1) := by decide +kernel
theorem d_Reader_read_3 : decode M_Reader_read.2.1 3 = .ok (.getfield 27, 3) := by decide +kernel
theorem d_Reader_read_6 : decode M_Reader_read.2.1 6 = .ok (.arraylength, 1) := by decide +kernel
theorem d_Reader_read_7 : decode M_Reader_read.2.1 7 = .ok (.invokestatic 31, 3) := by decide +kernel
theorem d_Reader_read_10 : decode M_Reader_read.2.1 10 = .ok (.putfield 37, 3) := by decide +kernel
theorem d_Reader_read_13 : decode M_Reader_read.2.1 13 = .ok (.aload_n 0, 1) := by decide +kernel
theorem d_Reader_read_14 : decode M_Reader_read.2.1 14 = .ok (.iconst 0, 1) := by decide +kernel
theorem d_Reader_read_15 : decode M_Reader_read.2.1 15 = .ok (.putfield 41, 3) := by decide +kernel
theorem d_Reader_read_18 : decode M_Reader_read.2.1 18 = .ok (.aload_n 0, 1) := by decide +kernel
theorem d_Reader_read_19 : decode M_Reader_read.2.1 19 = .ok (.iconst 0, 1) := by decide +kernel
theorem d_Reader_read_20 : decode M_Reader_read.2.1 20 = .ok (.putfield 44, 3) := by decide +kernel
theorem d_Reader_read_23 : decode M_Reader_read.2.1 23 = .ok (.aload_n 0, 1) := by decide +kernel
theorem d_Reader_read_24 : decode M_Reader_read.2.1 24 = .ok (.iconst 0, 1) := by decide +kernel
theorem d_Reader_read_25 : decode M_Reader_read.2.1 25 = .ok (.putfield 47, 3) := by decide +kernel
theorem d_Reader_read_28 : decode M_Reader_read.2.1 28 = .ok (.aload_n 0, 1) := by decide +kernel
theorem d_Reader_read_29 : decode M_Reader_read.2.1 29 = .ok (.iconst (-1), 1) := by decide +kernel
theorem d_Reader_read_30 : decode M_Reader_read.2.1 30 = .ok (.putfield 50, 3) := by decide +kernel
theorem d_Reader_read_33 : decode M_Reader_read.2.1 33 = .ok (.aload_n 0, 1) := by decide +kernel
theorem d_Reader_read_34 : decode M_Reader_read.2.1 34 = .ok (.getfield 12, 3) := by decide +kernel
theorem d_Reader_read_37 : decode M_Reader_read.2.1 37 = .ok (.invokevirtual 53, 3) := by decide +kernel
theorem d_Reader_read_40 : decode M_Reader_read.2.1 40 = .ok (.aload_n 0, 1) := by decide +kernel
theorem d_Reader_read_41 : decode M_Reader_read.2.1 41 = .ok (.getfield 23, 3) := by decide +kernel
theorem d_Reader_read_44 : decode M_Reader_read.2.1 44 = .ok (.invokevirtual 56, 3) := by decide +kernel
theorem d_Reader_read_47 : decode M_Reader_read.2.1 47 = .ok (.aload_n 0, 1) := by decide +kernel
theorem d_Reader_read_48 : decode M_Reader_read.2.1 48 = .ok (.invokevirtual 59, 3) := by decide +kernel
theorem d_Reader_read_51 : decode M_Reader_read.2.1 51 = .ok (.iconst 0, 1) := by decide +kernel
theorem d_Reader_read_52 : decode M_Reader_read.2.1 52 = .ok (.istore_n 2, 1) := by decide +kernel
theorem d_Reader_read_53 : decode M_Reader_read.2.1 53 = .ok (.iload_n 2, 1) := by decide +kernel
theorem d_Reader_read_54 : decode M_Reader_read.2.1 54 = .ok (.sipush 700, 3) := by decide +kernel
theorem d_Reader_read_57 : decode M_Reader_read.2.1 57 = .ok (.if_icmp .ge 144, 3) := by decide +kernel
theorem d_Reader_read_60 : decode M_Reader_read.2.1 60 = .ok (.aload_n 0, 1) := by decide +kernel
theorem d_Reader_read_61 : decode M_Reader_read.2.1 61 = .ok (.getfield 47, 3) := by decide +kernel
theorem d_Reader_read_64 : decode M_Reader_read.2.1 64 = .ok (.ifCond .ne 137, 3) := by decide +kernel
theorem d_Reader_read_67 : decode M_Reader_read.2.1 67 = .ok (.aload_n 0, 1) := by decide +kernel
theorem d_Reader_read_68 : decode M_Reader_read.2.1 68 = .ok (.getfield 62, 3) := by decide +kernel
theorem d_Reader_read_71 : decode M_Reader_read.2.1 71 = .ok (.iconst 1, 1) := by decide +kernel
theorem d_Reader_read_72 : decode M_Reader_read.2.1 72 = .ok (.if_icmp .eq 129, 3) := by decide +kernel
theorem d_Reader_read_75 : decode M_Reader_read.2.1 75 = .ok (.aload_n 0, 1) := by decide +kernel
theorem d_Reader_read_76 : decode M_Reader_read.2.1 76 = .ok (.getfield 62, 3) := by decide +kernel
theorem d_Reader_read_79 : decode M_Reader_read.2.1 79 = .ok (.bipush 101, 2) := by decide +kernel
theorem d_Reader_read_81 : decode M_Reader_read.2.1 81 = .ok (.if_icmp .lt 26, 3) := by decide +kernel
theorem d_Reader_read_84 : decode M_Reader_read.2.1 84 = .ok (.aload_n 0, 1) := by decide +kernel
theorem d_Reader_read_85 : decode M_Reader_read.2.1 85 = .ok (.getfield 62, 3) := by decide +kernel
theorem d_Reader_read_88 : decode M_Reader_read.2.1 88 = .ok (.bipush 104, 2) := by decide +kernel
theorem d_Reader_read_90 : decode M_Reader_read.2.1 90 = .ok (.if_icmp .gt 17, 3) := by decide +kernel
theorem d_Reader_read_93 : decode M_Reader_read.2.1 93 = .ok (.aload_n 0, 1) := by decide +kernel
theorem d_Reader_read_94 : decode M_Reader_read.2.1 94 = .ok (.aload_n 0, 1) := by decide +kernel
theorem d_Reader_read_95 : decode M_Reader_read.2.1 95 = .ok (.getfield 62, 3) := by decide +kernel
theorem d_Reader_read_98 : decode M_Reader_read.2.1 98 = .ok (.bipush 101, 2) := by decide +kernel
theorem d_Reader_read_100 : decode M_Reader_read.2.1 100 = .ok (.isub, 1) := by decide +kernel
theorem d_Reader_read_101 : decode M_Reader_read.2.1 101 = .ok (.invokevirtual 65, 3) := by decide +kernel
theorem d_Reader_read_104 : decode M_Reader_read.2.1 104 = .ok (.goto 85, 3) := by decide +kernel
theorem d_Reader_read_107 : decode M_Reader_read.2.1 107 = .ok (.aload_n 0, 1) := by decide +kernel
theorem d_Reader_read_108 : decode M_Reader_read.2.1 108 = .ok (.getfield 62, 3) := by decide +kernel
theorem d_Reader_read_111 : decode M_Reader_read.2.1 111 = .ok (.bipush 105, 2) := by decide +kernel
theorem d_Reader_read_113 : decode M_Reader_read.2.1 113 = .ok (.if_icmp .lt 26, 3) := by decide +kernel
theorem d_Reader_read_116 : decode M_Reader_read.2.1 116 = .ok (.aload_n 0, 1) := by decide +kernel
theorem d_Reader_read_117 : decode M_Reader_read.2.1 117 = .ok (.getfield 62, 3) := by decide +kernel
theorem d_Reader_read_120 : decode M_Reader_read.2.1 120 = .ok (.bipush 108, 2) := by decide +kernel
theorem d_Reader_read_122 : decode M_Reader_read.2.1 122 = .ok (.if_icmp .gt 17, 3) := by decide +kernel
theorem d_Reader_read_125 : decode M_Reader_read.2.1 125 = .ok (.aload_n 0, 1) := by decide +kernel
theorem d_Reader_read_126 : decode M_Reader_read.2.1 126 = .ok (.aload_n 0, 1) := by decide +kernel
theorem d_Reader_read_127 : decode M_Reader_read.2.1 127 = .ok (.getfield 62, 3) := by decide +kernel
theorem d_Reader_read_130 : decode M_Reader_read.2.1 130 = .ok (.bipush 105, 2) := by decide +kernel
theorem d_Reader_read_132 : decode M_Reader_read.2.1 132 = .ok (.isub, 1) := by decide +kernel
theorem d_Reader_read_133 : decode M_Reader_read.2.1 133 = .ok (.invokevirtual 69, 3) := by decide +kernel
theorem d_Reader_read_136 : decode M_Reader_read.2.1 136 = .ok (.goto 53, 3) := by decide +kernel
theorem d_Reader_read_139 : decode M_Reader_read.2.1 139 = .ok (.aload_n 0, 1) := by decide +kernel
theorem d_Reader_read_140 : decode M_Reader_read.2.1 140 = .ok (.getfield 62, 3) := by decide +kernel
theorem d_Reader_read_143 : decode M_Reader_read.2.1 143 = .ok (.bipush 109, 2) := by decide +kernel
theorem d_Reader_read_145 : decode M_Reader_read.2.1 145 = .ok (.if_icmp .ne 10, 3) := by decide +kernel
theorem d_Reader_read_148 : decode M_Reader_read.2.1 148 = .ok (.aload_n 0, 1) := by decide +kernel
theorem d_Reader_read_149 : decode M_Reader_read.2.1 149 = .ok (.invokevirtual 72, 3) := by decide +kernel
theorem d_Reader_read_152 : decode M_Reader_read.2.1 152 = .ok (.goto 37, 3) := by decide +kernel
theorem d_Reader_read_155 : decode M_Reader_read.2.1 155 = .ok (.aload_n 0, 1) := by decide +kernel
theorem d_Reader_read_156 : decode M_Reader_read.2.1 156 = .ok (.getfield 62, 3) := by decide +kernel
theorem d_Reader_read_159 : decode M_Reader_read.2.1 159 = .ok (.bipush 110, 2) := by decide +kernel
theorem d_Reader_read_161 : decode M_Reader_read.2.1 161 = .ok (.if_icmp .lt 23, 3) := by decide +kernel
theorem d_Reader_read_164 : decode M_Reader_read.2.1 164 = .ok (.aload_n 0, 1) := by decide +kernel
theorem d_Reader_read_165 : decode M_Reader_read.2.1 165 = .ok (.getfield 62, 3) := by decide +kernel
theorem d_Reader_read_168 : decode M_Reader_read.2.1 168 = .ok (.bipush 113, 2) := by decide +kernel
theorem d_Reader_read_170 : decode M_Reader_read.2.1 170 = .ok (.if_icmp .gt 14, 3) := by decide +kernel
theorem d_Reader_read_173 : decode M_Reader_read.2.1 173 = .ok (.aload_n 0, 1) := by decide +kernel
theorem d_Reader_read_174 : decode M_Reader_read.2.1 174 = .ok (.aload_n 0, 1) := by decide +kernel
theorem d_Reader_read_175 : decode M_Reader_read.2.1 175 = .ok (.getfield 62, 3) := by decide +kernel
theorem d_Reader_read_178 : decode M_Reader_read.2.1 178 = .ok (.invokevirtual 75, 3) := by decide +kernel
theorem d_Reader_read_181 : decode M_Reader_read.2.1 181 = .ok (.goto 8, 3) := by decide +kernel
theorem d_Reader_read_184 : decode M_Reader_read.2.1 184 = .ok (.aload_n 0, 1) := by decide +kernel
theorem d_Reader_read_185 : decode M_Reader_read.2.1 185 = .ok (.iconst 1, 1) := by decide +kernel
theorem d_Reader_read_186 : decode M_Reader_read.2.1 186 = .ok (.invokevirtual 78, 3) := by decide +kernel
theorem d_Reader_read_189 : decode M_Reader_read.2.1 189 = .ok (.aload_n 0, 1) := by decide +kernel
theorem d_Reader_read_190 : decode M_Reader_read.2.1 190 = .ok (.bipush 59, 2) := by decide +kernel
theorem d_Reader_read_192 : decode M_Reader_read.2.1 192 = .ok (.invokevirtual 81, 3) := by decide +kernel
theorem d_Reader_read_195 : decode M_Reader_read.2.1 195 = .ok (.iinc 2 1, 3) := by decide +kernel
theorem d_Reader_read_198 : decode M_Reader_read.2.1 198 = .ok (.goto (-145), 3) := by decide +kernel
theorem d_Reader_read_201 : decode M_Reader_read.2.1 201 = .ok (.return_, 1) := by decide +kernel

/-! decode rows of 26.model1 (by program) -/
theorem d_Model_thrown_0 : decode M_Model_thrown.2.1 0 = .ok (.aload_n 0, 1) := by decide +kernel
theorem d_Model_thrown_1 : decode M_Model_thrown.2.1 1 = .ok (.getfield 114, 3) := by decide +kernel
theorem d_Model_thrown_4 : decode M_Model_thrown.2.1 4 = .ok (.ireturn, 1) := by decide +kernel
theorem d_Model_fail_0 : decode M_Model_fail.2.1 0 = .ok (.aload_n 0, 1) := by decide +kernel
theorem d_Model_fail_1 : decode M_Model_fail.2.1 1 = .ok (.iload_n 1, 1) := by decide +kernel
theorem d_Model_fail_2 : decode M_Model_fail.2.1 2 = .ok (.putfield 114, 3) := by decide +kernel
theorem d_Model_fail_5 : decode M_Model_fail.2.1 5 = .ok (.iconst 0, 1) := by decide +kernel
theorem d_Model_fail_6 : decode M_Model_fail.2.1 6 = .ok (.ireturn, 1) := by decide +kernel
theorem d_Model_failing_0 : decode M_Model_failing.2.1 0 = .ok (.aload_n 0, 1) := by decide +kernel
theorem d_Model_failing_1 : decode M_Model_failing.2.1 1 = .ok (.iload_n 1, 1) := by decide +kernel
theorem d_Model_failing_2 : decode M_Model_failing.2.1 2 = .ok (.putfield 114, 3) := by decide +kernel
theorem d_Model_failing_5 : decode M_Model_failing.2.1 5 = .ok (.iconst 0, 1) := by decide +kernel
theorem d_Model_failing_6 : decode M_Model_failing.2.1 6 = .ok (.ireturn, 1) := by decide +kernel
theorem d_Model_isIn_0 : decode M_Model_isIn.2.1 0 = .ok (.lload_n 0, 1) := by decide +kernel
theorem d_Model_isIn_1 : decode M_Model_isIn.2.1 1 = .ok (.lload_n 2, 1) := by decide +kernel
theorem d_Model_isIn_2 : decode M_Model_isIn.2.1 2 = .ok (.lcmp, 1) := by decide +kernel
theorem d_Model_isIn_3 : decode M_Model_isIn.2.1 3 = .ok (.ifCond .lt 14, 3) := by decide +kernel
theorem d_Model_isIn_6 : decode M_Model_isIn.2.1 6 = .ok (.lload_n 0, 1) := by decide +kernel
theorem d_Model_isIn_7 : decode M_Model_isIn.2.1 7 = .ok (.lload 4, 2) := by decide +kernel
theorem d_Model_isIn_9 : decode M_Model_isIn.2.1 9 = .ok (.lcmp, 1) := by decide +kernel
theorem d_Model_isIn_10 : decode M_Model_isIn.2.1 10 = .ok (.ifCond .gt 7, 3) := by decide +kernel
theorem d_Model_isIn_13 : decode M_Model_isIn.2.1 13 = .ok (.iconst 1, 1) := by decide +kernel
theorem d_Model_isIn_14 : decode M_Model_isIn.2.1 14 = .ok (.goto 4, 3) := by decide +kernel
theorem d_Model_isIn_17 : decode M_Model_isIn.2.1 17 = .ok (.iconst 0, 1) := by decide +kernel
theorem d_Model_isIn_18 : decode M_Model_isIn.2.1 18 = .ok (.ireturn, 1) := by decide +kernel
theorem d_Model_isOf_0 : decode M_Model_isOf.2.1 0 = .ok (.iload_n 0, 1) := by decide +kernel
theorem d_Model_isOf_1 : decode M_Model_isOf.2.1 1 = .ok (.iload_n 1, 1) := by decide +kernel
theorem d_Model_isOf_2 : decode M_Model_isOf.2.1 2 = .ok (.ishr, 1) := by decide +kernel
theorem d_Model_isOf_3 : decode M_Model_isOf.2.1 3 = .ok (.iconst 1, 1) := by decide +kernel
theorem d_Model_isOf_4 : decode M_Model_isOf.2.1 4 = .ok (.iand, 1) := by decide +kernel
theorem d_Model_isOf_5 : decode M_Model_isOf.2.1 5 = .ok (.iconst 1, 1) := by decide +kernel
theorem d_Model_isOf_6 : decode M_Model_isOf.2.1 6 = .ok (.if_icmp .ne 7, 3) := by decide +kernel
theorem d_Model_isOf_9 : decode M_Model_isOf.2.1 9 = .ok (.iconst 1, 1) := by decide +kernel
theorem d_Model_isOf_10 : decode M_Model_isOf.2.1 10 = .ok (.goto 4, 3) := by decide +kernel
theorem d_Model_isOf_13 : decode M_Model_isOf.2.1 13 = .ok (.iconst 0, 1) := by decide +kernel
theorem d_Model_isOf_14 : decode M_Model_isOf.2.1 14 = .ok (.ireturn, 1) := by decide +kernel
theorem d_Model_isMonk_0 : decode M_Model_isMonk.2.1 0 = .ok (.iload_n 1, 1) := by decide +kernel
theorem d_Model_isMonk_1 : decode M_Model_isMonk.2.1 1 = .ok (.i2l, 1) := by decide +kernel
theorem d_Model_isMonk_2 : decode M_Model_isMonk.2.1 2 = .ok (.lconst 0, 1) := by decide +kernel
theorem d_Model_isMonk_3 : decode M_Model_isMonk.2.1 3 = .ok (.aload_n 0, 1) := by decide +kernel
theorem d_Model_isMonk_4 : decode M_Model_isMonk.2.1 4 = .ok (.getfield 51, 3) := by decide +kernel
theorem d_Model_isMonk_7 : decode M_Model_isMonk.2.1 7 = .ok (.iconst 0, 1) := by decide +kernel
theorem d_Model_isMonk_8 : decode M_Model_isMonk.2.1 8 = .ok (.iaload, 1) := by decide +kernel
theorem d_Model_isMonk_9 : decode M_Model_isMonk.2.1 9 = .ok (.iconst 1, 1) := by decide +kernel
theorem d_Model_isMonk_10 : decode M_Model_isMonk.2.1 10 = .ok (.isub, 1) := by decide +kernel
theorem d_Model_isMonk_11 : decode M_Model_isMonk.2.1 11 = .ok (.i2l, 1) := by decide +kernel
theorem d_Model_isMonk_12 : decode M_Model_isMonk.2.1 12 = .ok (.invokestatic 117, 3) := by decide +kernel
theorem d_Model_isMonk_15 : decode M_Model_isMonk.2.1 15 = .ok (.ireturn, 1) := by decide +kernel
theorem d_Model_isEntry_0 : decode M_Model_isEntry.2.1 0 = .ok (.iload_n 1, 1) := by decide +kernel
theorem d_Model_isEntry_1 : decode M_Model_isEntry.2.1 1 = .ok (.i2l, 1) := by decide +kernel
theorem d_Model_isEntry_2 : decode M_Model_isEntry.2.1 2 = .ok (.lconst 0, 1) := by decide +kernel
theorem d_Model_isEntry_3 : decode M_Model_isEntry.2.1 3 = .ok (.aload_n 0, 1) := by decide +kernel
theorem d_Model_isEntry_4 : decode M_Model_isEntry.2.1 4 = .ok (.getfield 121, 3) := by decide +kernel
theorem d_Model_isEntry_7 : decode M_Model_isEntry.2.1 7 = .ok (.iconst 1, 1) := by decide +kernel
theorem d_Model_isEntry_8 : decode M_Model_isEntry.2.1 8 = .ok (.isub, 1) := by decide +kernel
theorem d_Model_isEntry_9 : decode M_Model_isEntry.2.1 9 = .ok (.i2l, 1) := by decide +kernel
theorem d_Model_isEntry_10 : decode M_Model_isEntry.2.1 10 = .ok (.invokestatic 117, 3) := by decide +kernel
theorem d_Model_isEntry_13 : decode M_Model_isEntry.2.1 13 = .ok (.ireturn, 1) := by decide +kernel
theorem d_Model_isAbout_0 : decode M_Model_isAbout.2.1 0 = .ok (.iload_n 0, 1) := by decide +kernel
theorem d_Model_isAbout_1 : decode M_Model_isAbout.2.1 1 = .ok (.i2l, 1) := by decide +kernel
theorem d_Model_isAbout_2 : decode M_Model_isAbout.2.1 2 = .ok (.lconst 0, 1) := by decide +kernel
theorem d_Model_isAbout_3 : decode M_Model_isAbout.2.1 3 = .ok (.ldc2_w 124, 3) := by decide +kernel
theorem d_Model_isAbout_6 : decode M_Model_isAbout.2.1 6 = .ok (.invokestatic 117, 3) := by decide +kernel
theorem d_Model_isAbout_9 : decode M_Model_isAbout.2.1 9 = .ok (.ireturn, 1) := by decide +kernel
theorem d_Model_feed_0 : decode M_Model_feed.2.1 0 = .ok (.aload_n 0, 1) := by decide +kernel
theorem d_Model_feed_1 : decode M_Model_feed.2.1 1 = .ok (.iconst 0, 1) := by decide +kernel
theorem d_Model_feed_2 : decode M_Model_feed.2.1 2 = .ok (.putfield 114, 3) := by decide +kernel
theorem d_Model_feed_5 : decode M_Model_feed.2.1 5 = .ok (.aload_n 0, 1) := by decide +kernel
theorem d_Model_feed_6 : decode M_Model_feed.2.1 6 = .ok (.getfield 126, 3) := by decide +kernel
theorem d_Model_feed_9 : decode M_Model_feed.2.1 9 = .ok (.bipush 20, 2) := by decide +kernel
theorem d_Model_feed_11 : decode M_Model_feed.2.1 11 = .ok (.iadd, 1) := by decide +kernel
theorem d_Model_feed_12 : decode M_Model_feed.2.1 12 = .ok (.sipush 700, 3) := by decide +kernel
theorem d_Model_feed_15 : decode M_Model_feed.2.1 15 = .ok (.if_icmp .le 5, 3) := by decide +kernel
theorem d_Model_feed_18 : decode M_Model_feed.2.1 18 = .ok (.iconst (-1), 1) := by decide +kernel
theorem d_Model_feed_19 : decode M_Model_feed.2.1 19 = .ok (.ireturn, 1) := by decide +kernel
theorem d_Model_feed_20 : decode M_Model_feed.2.1 20 = .ok (.iconst 0, 1) := by decide +kernel
theorem d_Model_feed_21 : decode M_Model_feed.2.1 21 = .ok (.istore 6, 2) := by decide +kernel
theorem d_Model_feed_23 : decode M_Model_feed.2.1 23 = .ok (.iload 6, 2) := by decide +kernel
theorem d_Model_feed_25 : decode M_Model_feed.2.1 25 = .ok (.bipush 20, 2) := by decide +kernel
theorem d_Model_feed_27 : decode M_Model_feed.2.1 27 = .ok (.if_icmp .ge 93, 3) := by decide +kernel
theorem d_Model_feed_30 : decode M_Model_feed.2.1 30 = .ok (.iload 6, 2) := by decide +kernel
theorem d_Model_feed_32 : decode M_Model_feed.2.1 32 = .ok (.iconst 4, 1) := by decide +kernel
theorem d_Model_feed_33 : decode M_Model_feed.2.1 33 = .ok (.if_icmp .ge 7, 3) := by decide +kernel
theorem d_Model_feed_36 : decode M_Model_feed.2.1 36 = .ok (.iload_n 1, 1) := by decide +kernel
theorem d_Model_feed_37 : decode M_Model_feed.2.1 37 = .ok (.goto 39, 3) := by decide +kernel
theorem d_Model_feed_40 : decode M_Model_feed.2.1 40 = .ok (.iload 6, 2) := by decide +kernel
theorem d_Model_feed_42 : decode M_Model_feed.2.1 42 = .ok (.bipush 8, 2) := by decide +kernel
theorem d_Model_feed_44 : decode M_Model_feed.2.1 44 = .ok (.if_icmp .ge 7, 3) := by decide +kernel
theorem d_Model_feed_47 : decode M_Model_feed.2.1 47 = .ok (.iload_n 2, 1) := by decide +kernel
theorem d_Model_feed_48 : decode M_Model_feed.2.1 48 = .ok (.goto 28, 3) := by decide +kernel
theorem d_Model_feed_51 : decode M_Model_feed.2.1 51 = .ok (.iload 6, 2) := by decide +kernel
theorem d_Model_feed_53 : decode M_Model_feed.2.1 53 = .ok (.bipush 12, 2) := by decide +kernel
theorem d_Model_feed_55 : decode M_Model_feed.2.1 55 = .ok (.if_icmp .ge 7, 3) := by decide +kernel
theorem d_Model_feed_58 : decode M_Model_feed.2.1 58 = .ok (.iload_n 3, 1) := by decide +kernel
theorem d_Model_feed_59 : decode M_Model_feed.2.1 59 = .ok (.goto 17, 3) := by decide +kernel
theorem d_Model_feed_62 : decode M_Model_feed.2.1 62 = .ok (.iload 6, 2) := by decide +kernel
theorem d_Model_feed_64 : decode M_Model_feed.2.1 64 = .ok (.bipush 16, 2) := by decide +kernel
theorem d_Model_feed_66 : decode M_Model_feed.2.1 66 = .ok (.if_icmp .ge 8, 3) := by decide +kernel
theorem d_Model_feed_69 : decode M_Model_feed.2.1 69 = .ok (.iload 4, 2) := by decide +kernel
theorem d_Model_feed_71 : decode M_Model_feed.2.1 71 = .ok (.goto 5, 3) := by decide +kernel
theorem d_Model_feed_74 : decode M_Model_feed.2.1 74 = .ok (.iload 5, 2) := by decide +kernel
theorem d_Model_feed_76 : decode M_Model_feed.2.1 76 = .ok (.istore 7, 2) := by decide +kernel
theorem d_Model_feed_78 : decode M_Model_feed.2.1 78 = .ok (.aload_n 0, 1) := by decide +kernel
theorem d_Model_feed_79 : decode M_Model_feed.2.1 79 = .ok (.getfield 71, 3) := by decide +kernel
theorem d_Model_feed_82 : decode M_Model_feed.2.1 82 = .ok (.aload_n 0, 1) := by decide +kernel
theorem d_Model_feed_83 : decode M_Model_feed.2.1 83 = .ok (.getfield 126, 3) := by decide +kernel
theorem d_Model_feed_86 : decode M_Model_feed.2.1 86 = .ok (.iload 7, 2) := by decide +kernel
theorem d_Model_feed_88 : decode M_Model_feed.2.1 88 = .ok (.bipush 24, 2) := by decide +kernel
theorem d_Model_feed_90 : decode M_Model_feed.2.1 90 = .ok (.bipush 8, 2) := by decide +kernel
theorem d_Model_feed_92 : decode M_Model_feed.2.1 92 = .ok (.iload 6, 2) := by decide +kernel
theorem d_Model_feed_94 : decode M_Model_feed.2.1 94 = .ok (.iconst 4, 1) := by decide +kernel
theorem d_Model_feed_95 : decode M_Model_feed.2.1 95 = .ok (.irem, 1) := by decide +kernel
theorem d_Model_feed_96 : decode M_Model_feed.2.1 96 = .ok (.imul, 1) := by decide +kernel
theorem d_Model_feed_97 : decode M_Model_feed.2.1 97 = .ok (.isub, 1) := by decide +kernel
theorem d_Model_feed_98 : decode M_Model_feed.2.1 98 = .ok (.ishr, 1) := by decide +kernel
theorem d_Model_feed_99 : decode M_Model_feed.2.1 99 = .ok (.sipush 255, 3) := by decide +kernel
theorem d_Model_feed_102 : decode M_Model_feed.2.1 102 = .ok (.iand, 1) := by decide +kernel
theorem d_Model_feed_103 : decode M_Model_feed.2.1 103 = .ok (.iastore, 1) := by decide +kernel
theorem d_Model_feed_104 : decode M_Model_feed.2.1 104 = .ok (.aload_n 0, 1) := by decide +kernel
theorem d_Model_feed_105 : decode M_Model_feed.2.1 105 = .ok (.dup, 1) := by decide +kernel
theorem d_Model_feed_106 : decode M_Model_feed.2.1 106 = .ok (.getfield 126, 3) := by decide +kernel
theorem d_Model_feed_109 : decode M_Model_feed.2.1 109 = .ok (.iconst 1, 1) := by decide +kernel
theorem d_Model_feed_110 : decode M_Model_feed.2.1 110 = .ok (.iadd, 1) := by decide +kernel
theorem d_Model_feed_111 : decode M_Model_feed.2.1 111 = .ok (.putfield 126, 3) := by decide +kernel
theorem d_Model_feed_114 : decode M_Model_feed.2.1 114 = .ok (.iinc 6 1, 3) := by decide +kernel
theorem d_Model_feed_117 : decode M_Model_feed.2.1 117 = .ok (.goto (-94), 3) := by decide +kernel
theorem d_Model_feed_120 : decode M_Model_feed.2.1 120 = .ok (.aload_n 0, 1) := by decide +kernel
theorem d_Model_feed_121 : decode M_Model_feed.2.1 121 = .ok (.getfield 126, 3) := by decide +kernel
theorem d_Model_feed_124 : decode M_Model_feed.2.1 124 = .ok (.ireturn, 1) := by decide +kernel
theorem d_Model_byteAt_0 : decode M_Model_byteAt.2.1 0 = .ok (.iload_n 1, 1) := by decide +kernel
theorem d_Model_byteAt_1 : decode M_Model_byteAt.2.1 1 = .ok (.aload_n 0, 1) := by decide +kernel
theorem d_Model_byteAt_2 : decode M_Model_byteAt.2.1 2 = .ok (.getfield 129, 3) := by decide +kernel
theorem d_Model_byteAt_5 : decode M_Model_byteAt.2.1 5 = .ok (.if_icmp .ge 12, 3) := by decide +kernel
theorem d_Model_byteAt_8 : decode M_Model_byteAt.2.1 8 = .ok (.aload_n 0, 1) := by decide +kernel
theorem d_Model_byteAt_9 : decode M_Model_byteAt.2.1 9 = .ok (.getfield 71, 3) := by decide +kernel
theorem d_Model_byteAt_12 : decode M_Model_byteAt.2.1 12 = .ok (.iload_n 1, 1) := by decide +kernel
theorem d_Model_byteAt_13 : decode M_Model_byteAt.2.1 13 = .ok (.iaload, 1) := by decide +kernel
theorem d_Model_byteAt_14 : decode M_Model_byteAt.2.1 14 = .ok (.goto 4, 3) := by decide +kernel
theorem d_Model_byteAt_17 : decode M_Model_byteAt.2.1 17 = .ok (.iconst (-1), 1) := by decide +kernel
theorem d_Model_byteAt_18 : decode M_Model_byteAt.2.1 18 = .ok (.ireturn, 1) := by decide +kernel
theorem d_Model_isLetter_0 : decode M_Model_isLetter.2.1 0 = .ok (.iload_n 0, 1) := by decide +kernel
theorem d_Model_isLetter_1 : decode M_Model_isLetter.2.1 1 = .ok (.bipush 97, 2) := by decide +kernel
theorem d_Model_isLetter_3 : decode M_Model_isLetter.2.1 3 = .ok (.if_icmp .lt 13, 3) := by decide +kernel
theorem d_Model_isLetter_6 : decode M_Model_isLetter.2.1 6 = .ok (.iload_n 0, 1) := by decide +kernel
theorem d_Model_isLetter_7 : decode M_Model_isLetter.2.1 7 = .ok (.bipush 122, 2) := by decide +kernel
theorem d_Model_isLetter_9 : decode M_Model_isLetter.2.1 9 = .ok (.if_icmp .gt 7, 3) := by decide +kernel
theorem d_Model_isLetter_12 : decode M_Model_isLetter.2.1 12 = .ok (.iconst 1, 1) := by decide +kernel
theorem d_Model_isLetter_13 : decode M_Model_isLetter.2.1 13 = .ok (.goto 4, 3) := by decide +kernel
theorem d_Model_isLetter_16 : decode M_Model_isLetter.2.1 16 = .ok (.iconst 0, 1) := by decide +kernel
theorem d_Model_isLetter_17 : decode M_Model_isLetter.2.1 17 = .ok (.ireturn, 1) := by decide +kernel
theorem d_Model_isDigit_0 : decode M_Model_isDigit.2.1 0 = .ok (.iload_n 0, 1) := by decide +kernel
theorem d_Model_isDigit_1 : decode M_Model_isDigit.2.1 1 = .ok (.bipush 48, 2) := by decide +kernel
theorem d_Model_isDigit_3 : decode M_Model_isDigit.2.1 3 = .ok (.if_icmp .lt 13, 3) := by decide +kernel
theorem d_Model_isDigit_6 : decode M_Model_isDigit.2.1 6 = .ok (.iload_n 0, 1) := by decide +kernel
theorem d_Model_isDigit_7 : decode M_Model_isDigit.2.1 7 = .ok (.bipush 57, 2) := by decide +kernel
theorem d_Model_isDigit_9 : decode M_Model_isDigit.2.1 9 = .ok (.if_icmp .gt 7, 3) := by decide +kernel
theorem d_Model_isDigit_12 : decode M_Model_isDigit.2.1 12 = .ok (.iconst 1, 1) := by decide +kernel
theorem d_Model_isDigit_13 : decode M_Model_isDigit.2.1 13 = .ok (.goto 4, 3) := by decide +kernel
theorem d_Model_isDigit_16 : decode M_Model_isDigit.2.1 16 = .ok (.iconst 0, 1) := by decide +kernel
theorem d_Model_isDigit_17 : decode M_Model_isDigit.2.1 17 = .ok (.ireturn, 1) := by decide +kernel
theorem d_Model_isMark_0 : decode M_Model_isMark.2.1 0 = .ok (.iload_n 0, 1) := by decide +kernel
theorem d_Model_isMark_1 : decode M_Model_isMark.2.1 1 = .ok (.bipush 59, 2) := by decide +kernel
theorem d_Model_isMark_3 : decode M_Model_isMark.2.1 3 = .ok (.if_icmp .eq 51, 3) := by decide +kernel
theorem d_Model_isMark_6 : decode M_Model_isMark.2.1 6 = .ok (.iload_n 0, 1) := by decide +kernel
theorem d_Model_isMark_7 : decode M_Model_isMark.2.1 7 = .ok (.bipush 40, 2) := by decide +kernel
theorem d_Model_isMark_9 : decode M_Model_isMark.2.1 9 = .ok (.if_icmp .eq 45, 3) := by decide +kernel
theorem d_Model_isMark_12 : decode M_Model_isMark.2.1 12 = .ok (.iload_n 0, 1) := by decide +kernel
theorem d_Model_isMark_13 : decode M_Model_isMark.2.1 13 = .ok (.bipush 41, 2) := by decide +kernel
theorem d_Model_isMark_15 : decode M_Model_isMark.2.1 15 = .ok (.if_icmp .eq 39, 3) := by decide +kernel
theorem d_Model_isMark_18 : decode M_Model_isMark.2.1 18 = .ok (.iload_n 0, 1) := by decide +kernel
theorem d_Model_isMark_19 : decode M_Model_isMark.2.1 19 = .ok (.bipush 43, 2) := by decide +kernel
theorem d_Model_isMark_21 : decode M_Model_isMark.2.1 21 = .ok (.if_icmp .eq 33, 3) := by decide +kernel
theorem d_Model_isMark_24 : decode M_Model_isMark.2.1 24 = .ok (.iload_n 0, 1) := by decide +kernel
theorem d_Model_isMark_25 : decode M_Model_isMark.2.1 25 = .ok (.bipush 45, 2) := by decide +kernel
theorem d_Model_isMark_27 : decode M_Model_isMark.2.1 27 = .ok (.if_icmp .eq 27, 3) := by decide +kernel
theorem d_Model_isMark_30 : decode M_Model_isMark.2.1 30 = .ok (.iload_n 0, 1) := by decide +kernel
theorem d_Model_isMark_31 : decode M_Model_isMark.2.1 31 = .ok (.bipush 42, 2) := by decide +kernel
theorem d_Model_isMark_33 : decode M_Model_isMark.2.1 33 = .ok (.if_icmp .eq 21, 3) := by decide +kernel
theorem d_Model_isMark_36 : decode M_Model_isMark.2.1 36 = .ok (.iload_n 0, 1) := by decide +kernel
theorem d_Model_isMark_37 : decode M_Model_isMark.2.1 37 = .ok (.bipush 47, 2) := by decide +kernel
theorem d_Model_isMark_39 : decode M_Model_isMark.2.1 39 = .ok (.if_icmp .eq 15, 3) := by decide +kernel
theorem d_Model_isMark_42 : decode M_Model_isMark.2.1 42 = .ok (.iload_n 0, 1) := by decide +kernel
theorem d_Model_isMark_43 : decode M_Model_isMark.2.1 43 = .ok (.bipush 60, 2) := by decide +kernel
theorem d_Model_isMark_45 : decode M_Model_isMark.2.1 45 = .ok (.if_icmp .eq 9, 3) := by decide +kernel
theorem d_Model_isMark_48 : decode M_Model_isMark.2.1 48 = .ok (.iload_n 0, 1) := by decide +kernel
theorem d_Model_isMark_49 : decode M_Model_isMark.2.1 49 = .ok (.bipush 61, 2) := by decide +kernel
theorem d_Model_isMark_51 : decode M_Model_isMark.2.1 51 = .ok (.if_icmp .ne 7, 3) := by decide +kernel
theorem d_Model_isMark_54 : decode M_Model_isMark.2.1 54 = .ok (.iconst 1, 1) := by decide +kernel
theorem d_Model_isMark_55 : decode M_Model_isMark.2.1 55 = .ok (.goto 4, 3) := by decide +kernel
theorem d_Model_isMark_58 : decode M_Model_isMark.2.1 58 = .ok (.iconst 0, 1) := by decide +kernel
theorem d_Model_isMark_59 : decode M_Model_isMark.2.1 59 = .ok (.ireturn, 1) := by decide +kernel
theorem d_Model_stepOn_0 : decode M_Model_stepOn.2.1 0 = .ok (.aload_n 0, 1) := by decide +kernel
theorem d_Model_stepOn_1 : decode M_Model_stepOn.2.1 1 = .ok (.aload_n 0, 1) := by decide +kernel
theorem d_Model_stepOn_2 : decode M_Model_stepOn.2.1 2 = .ok (.getfield 132, 3) := by decide +kernel
theorem d_Model_stepOn_5 : decode M_Model_stepOn.2.1 5 = .ok (.invokevirtual 135, 3) := by decide +kernel
theorem d_Model_stepOn_8 : decode M_Model_stepOn.2.1 8 = .ok (.bipush 32, 2) := by decide +kernel
theorem d_Model_stepOn_10 : decode M_Model_stepOn.2.1 10 = .ok (.if_icmp .eq 16, 3) := by decide +kernel
theorem d_Model_stepOn_13 : decode M_Model_stepOn.2.1 13 = .ok (.aload_n 0, 1) := by decide +kernel
theorem d_Model_stepOn_14 : decode M_Model_stepOn.2.1 14 = .ok (.aload_n 0, 1) := by decide +kernel
theorem d_Model_stepOn_15 : decode M_Model_stepOn.2.1 15 = .ok (.getfield 132, 3) := by decide +kernel
theorem d_Model_stepOn_18 : decode M_Model_stepOn.2.1 18 = .ok (.invokevirtual 135, 3) := by decide +kernel
theorem d_Model_stepOn_21 : decode M_Model_stepOn.2.1 21 = .ok (.bipush 10, 2) := by decide +kernel
theorem d_Model_stepOn_23 : decode M_Model_stepOn.2.1 23 = .ok (.if_icmp .ne 16, 3) := by decide +kernel
theorem d_Model_stepOn_26 : decode M_Model_stepOn.2.1 26 = .ok (.aload_n 0, 1) := by decide +kernel
theorem d_Model_stepOn_27 : decode M_Model_stepOn.2.1 27 = .ok (.dup, 1) := by decide +kernel
theorem d_Model_stepOn_28 : decode M_Model_stepOn.2.1 28 = .ok (.getfield 132, 3) := by decide +kernel
theorem d_Model_stepOn_31 : decode M_Model_stepOn.2.1 31 = .ok (.iconst 1, 1) := by decide +kernel
theorem d_Model_stepOn_32 : decode M_Model_stepOn.2.1 32 = .ok (.iadd, 1) := by decide +kernel
theorem d_Model_stepOn_33 : decode M_Model_stepOn.2.1 33 = .ok (.putfield 132, 3) := by decide +kernel
theorem d_Model_stepOn_36 : decode M_Model_stepOn.2.1 36 = .ok (.goto (-36), 3) := by decide +kernel
theorem d_Model_stepOn_39 : decode M_Model_stepOn.2.1 39 = .ok (.aload_n 0, 1) := by decide +kernel
theorem d_Model_stepOn_40 : decode M_Model_stepOn.2.1 40 = .ok (.aload_n 0, 1) := by decide +kernel
theorem d_Model_stepOn_41 : decode M_Model_stepOn.2.1 41 = .ok (.getfield 132, 3) := by decide +kernel
theorem d_Model_stepOn_44 : decode M_Model_stepOn.2.1 44 = .ok (.putfield 139, 3) := by decide +kernel
theorem d_Model_stepOn_47 : decode M_Model_stepOn.2.1 47 = .ok (.aload_n 0, 1) := by decide +kernel
theorem d_Model_stepOn_48 : decode M_Model_stepOn.2.1 48 = .ok (.aload_n 0, 1) := by decide +kernel
theorem d_Model_stepOn_49 : decode M_Model_stepOn.2.1 49 = .ok (.getfield 132, 3) := by decide +kernel
theorem d_Model_stepOn_52 : decode M_Model_stepOn.2.1 52 = .ok (.invokevirtual 135, 3) := by decide +kernel
theorem d_Model_stepOn_55 : decode M_Model_stepOn.2.1 55 = .ok (.istore_n 1, 1) := by decide +kernel
theorem d_Model_stepOn_56 : decode M_Model_stepOn.2.1 56 = .ok (.iload_n 1, 1) := by decide +kernel
theorem d_Model_stepOn_57 : decode M_Model_stepOn.2.1 57 = .ok (.iconst (-1), 1) := by decide +kernel
theorem d_Model_stepOn_58 : decode M_Model_stepOn.2.1 58 = .ok (.if_icmp .ne 11, 3) := by decide +kernel
theorem d_Model_stepOn_61 : decode M_Model_stepOn.2.1 61 = .ok (.aload_n 0, 1) := by decide +kernel
theorem d_Model_stepOn_62 : decode M_Model_stepOn.2.1 62 = .ok (.iconst 0, 1) := by decide +kernel
theorem d_Model_stepOn_63 : decode M_Model_stepOn.2.1 63 = .ok (.putfield 142, 3) := by decide +kernel
theorem d_Model_stepOn_66 : decode M_Model_stepOn.2.1 66 = .ok (.goto 146, 3) := by decide +kernel
theorem d_Model_stepOn_69 : decode M_Model_stepOn.2.1 69 = .ok (.iload_n 1, 1) := by decide +kernel
theorem d_Model_stepOn_70 : decode M_Model_stepOn.2.1 70 = .ok (.invokestatic 145, 3) := by decide +kernel
theorem d_Model_stepOn_73 : decode M_Model_stepOn.2.1 73 = .ok (.ifCond .eq 38, 3) := by decide +kernel
theorem d_Model_stepOn_76 : decode M_Model_stepOn.2.1 76 = .ok (.aload_n 0, 1) := by decide +kernel
theorem d_Model_stepOn_77 : decode M_Model_stepOn.2.1 77 = .ok (.aload_n 0, 1) := by decide +kernel
theorem d_Model_stepOn_78 : decode M_Model_stepOn.2.1 78 = .ok (.getfield 132, 3) := by decide +kernel
theorem d_Model_stepOn_81 : decode M_Model_stepOn.2.1 81 = .ok (.invokevirtual 135, 3) := by decide +kernel
theorem d_Model_stepOn_84 : decode M_Model_stepOn.2.1 84 = .ok (.invokestatic 145, 3) := by decide +kernel
theorem d_Model_stepOn_87 : decode M_Model_stepOn.2.1 87 = .ok (.ifCond .eq 16, 3) := by decide +kernel
theorem d_Model_stepOn_90 : decode M_Model_stepOn.2.1 90 = .ok (.aload_n 0, 1) := by decide +kernel
theorem d_Model_stepOn_91 : decode M_Model_stepOn.2.1 91 = .ok (.dup, 1) := by decide +kernel
theorem d_Model_stepOn_92 : decode M_Model_stepOn.2.1 92 = .ok (.getfield 132, 3) := by decide +kernel
theorem d_Model_stepOn_95 : decode M_Model_stepOn.2.1 95 = .ok (.iconst 1, 1) := by decide +kernel
theorem d_Model_stepOn_96 : decode M_Model_stepOn.2.1 96 = .ok (.iadd, 1) := by decide +kernel
theorem d_Model_stepOn_97 : decode M_Model_stepOn.2.1 97 = .ok (.putfield 132, 3) := by decide +kernel
theorem d_Model_stepOn_100 : decode M_Model_stepOn.2.1 100 = .ok (.goto (-24), 3) := by decide +kernel
theorem d_Model_stepOn_103 : decode M_Model_stepOn.2.1 103 = .ok (.aload_n 0, 1) := by decide +kernel
theorem d_Model_stepOn_104 : decode M_Model_stepOn.2.1 104 = .ok (.iconst 1, 1) := by decide +kernel
theorem d_Model_stepOn_105 : decode M_Model_stepOn.2.1 105 = .ok (.putfield 142, 3) := by decide +kernel
theorem d_Model_stepOn_108 : decode M_Model_stepOn.2.1 108 = .ok (.goto 104, 3) := by decide +kernel
theorem d_Model_stepOn_111 : decode M_Model_stepOn.2.1 111 = .ok (.iload_n 1, 1) := by decide +kernel
theorem d_Model_stepOn_112 : decode M_Model_stepOn.2.1 112 = .ok (.invokestatic 149, 3) := by decide +kernel
theorem d_Model_stepOn_115 : decode M_Model_stepOn.2.1 115 = .ok (.ifCond .eq 71, 3) := by decide +kernel
theorem d_Model_stepOn_118 : decode M_Model_stepOn.2.1 118 = .ok (.aload_n 0, 1) := by decide +kernel
theorem d_Model_stepOn_119 : decode M_Model_stepOn.2.1 119 = .ok (.iconst 0, 1) := by decide +kernel
theorem d_Model_stepOn_120 : decode M_Model_stepOn.2.1 120 = .ok (.putfield 152, 3) := by decide +kernel
theorem d_Model_stepOn_123 : decode M_Model_stepOn.2.1 123 = .ok (.aload_n 0, 1) := by decide +kernel
theorem d_Model_stepOn_124 : decode M_Model_stepOn.2.1 124 = .ok (.aload_n 0, 1) := by decide +kernel
theorem d_Model_stepOn_125 : decode M_Model_stepOn.2.1 125 = .ok (.getfield 132, 3) := by decide +kernel
theorem d_Model_stepOn_128 : decode M_Model_stepOn.2.1 128 = .ok (.invokevirtual 135, 3) := by decide +kernel
theorem d_Model_stepOn_131 : decode M_Model_stepOn.2.1 131 = .ok (.invokestatic 149, 3) := by decide +kernel
theorem d_Model_stepOn_134 : decode M_Model_stepOn.2.1 134 = .ok (.ifCond .eq 44, 3) := by decide +kernel
theorem d_Model_stepOn_137 : decode M_Model_stepOn.2.1 137 = .ok (.aload_n 0, 1) := by decide +kernel
theorem d_Model_stepOn_138 : decode M_Model_stepOn.2.1 138 = .ok (.ldc 155, 2) := by decide +kernel
theorem d_Model_stepOn_140 : decode M_Model_stepOn.2.1 140 = .ok (.bipush 10, 2) := by decide +kernel
theorem d_Model_stepOn_142 : decode M_Model_stepOn.2.1 142 = .ok (.aload_n 0, 1) := by decide +kernel
theorem d_Model_stepOn_143 : decode M_Model_stepOn.2.1 143 = .ok (.getfield 152, 3) := by decide +kernel
theorem d_Model_stepOn_146 : decode M_Model_stepOn.2.1 146 = .ok (.imul, 1) := by decide +kernel
theorem d_Model_stepOn_147 : decode M_Model_stepOn.2.1 147 = .ok (.aload_n 0, 1) := by decide +kernel
theorem d_Model_stepOn_148 : decode M_Model_stepOn.2.1 148 = .ok (.aload_n 0, 1) := by decide +kernel
theorem d_Model_stepOn_149 : decode M_Model_stepOn.2.1 149 = .ok (.getfield 132, 3) := by decide +kernel
theorem d_Model_stepOn_152 : decode M_Model_stepOn.2.1 152 = .ok (.invokevirtual 135, 3) := by decide +kernel
theorem d_Model_stepOn_155 : decode M_Model_stepOn.2.1 155 = .ok (.iadd, 1) := by decide +kernel
theorem d_Model_stepOn_156 : decode M_Model_stepOn.2.1 156 = .ok (.bipush 48, 2) := by decide +kernel
theorem d_Model_stepOn_158 : decode M_Model_stepOn.2.1 158 = .ok (.isub, 1) := by decide +kernel
theorem d_Model_stepOn_159 : decode M_Model_stepOn.2.1 159 = .ok (.invokestatic 156, 3) := by decide +kernel
theorem d_Model_stepOn_162 : decode M_Model_stepOn.2.1 162 = .ok (.putfield 152, 3) := by decide +kernel
theorem d_Model_stepOn_165 : decode M_Model_stepOn.2.1 165 = .ok (.aload_n 0, 1) := by decide +kernel
theorem d_Model_stepOn_166 : decode M_Model_stepOn.2.1 166 = .ok (.dup, 1) := by decide +kernel
theorem d_Model_stepOn_167 : decode M_Model_stepOn.2.1 167 = .ok (.getfield 132, 3) := by decide +kernel
theorem d_Model_stepOn_170 : decode M_Model_stepOn.2.1 170 = .ok (.iconst 1, 1) := by decide +kernel
theorem d_Model_stepOn_171 : decode M_Model_stepOn.2.1 171 = .ok (.iadd, 1) := by decide +kernel
theorem d_Model_stepOn_172 : decode M_Model_stepOn.2.1 172 = .ok (.putfield 132, 3) := by decide +kernel
theorem d_Model_stepOn_175 : decode M_Model_stepOn.2.1 175 = .ok (.goto (-52), 3) := by decide +kernel
theorem d_Model_stepOn_178 : decode M_Model_stepOn.2.1 178 = .ok (.aload_n 0, 1) := by decide +kernel
theorem d_Model_stepOn_179 : decode M_Model_stepOn.2.1 179 = .ok (.iconst 2, 1) := by decide +kernel
theorem d_Model_stepOn_180 : decode M_Model_stepOn.2.1 180 = .ok (.putfield 142, 3) := by decide +kernel
theorem d_Model_stepOn_183 : decode M_Model_stepOn.2.1 183 = .ok (.goto 29, 3) := by decide +kernel
theorem d_Model_stepOn_186 : decode M_Model_stepOn.2.1 186 = .ok (.aload_n 0, 1) := by decide +kernel
theorem d_Model_stepOn_187 : decode M_Model_stepOn.2.1 187 = .ok (.dup, 1) := by decide +kernel
theorem d_Model_stepOn_188 : decode M_Model_stepOn.2.1 188 = .ok (.getfield 132, 3) := by decide +kernel
theorem d_Model_stepOn_191 : decode M_Model_stepOn.2.1 191 = .ok (.iconst 1, 1) := by decide +kernel
theorem d_Model_stepOn_192 : decode M_Model_stepOn.2.1 192 = .ok (.iadd, 1) := by decide +kernel
theorem d_Model_stepOn_193 : decode M_Model_stepOn.2.1 193 = .ok (.putfield 132, 3) := by decide +kernel
theorem d_Model_stepOn_196 : decode M_Model_stepOn.2.1 196 = .ok (.aload_n 0, 1) := by decide +kernel
theorem d_Model_stepOn_197 : decode M_Model_stepOn.2.1 197 = .ok (.iload_n 1, 1) := by decide +kernel
theorem d_Model_stepOn_198 : decode M_Model_stepOn.2.1 198 = .ok (.invokestatic 162, 3) := by decide +kernel
theorem d_Model_stepOn_201 : decode M_Model_stepOn.2.1 201 = .ok (.ifCond .eq 7, 3) := by decide +kernel
theorem d_Model_stepOn_204 : decode M_Model_stepOn.2.1 204 = .ok (.iconst 3, 1) := by decide +kernel
theorem d_Model_stepOn_205 : decode M_Model_stepOn.2.1 205 = .ok (.goto 4, 3) := by decide +kernel
theorem d_Model_stepOn_208 : decode M_Model_stepOn.2.1 208 = .ok (.iconst 4, 1) := by decide +kernel
theorem d_Model_stepOn_209 : decode M_Model_stepOn.2.1 209 = .ok (.putfield 142, 3) := by decide +kernel
theorem d_Model_stepOn_212 : decode M_Model_stepOn.2.1 212 = .ok (.aload_n 0, 1) := by decide +kernel
theorem d_Model_stepOn_213 : decode M_Model_stepOn.2.1 213 = .ok (.aload_n 0, 1) := by decide +kernel
theorem d_Model_stepOn_214 : decode M_Model_stepOn.2.1 214 = .ok (.getfield 132, 3) := by decide +kernel
theorem d_Model_stepOn_217 : decode M_Model_stepOn.2.1 217 = .ok (.putfield 165, 3) := by decide +kernel
theorem d_Model_stepOn_220 : decode M_Model_stepOn.2.1 220 = .ok (.return_, 1) := by decide +kernel
theorem d_Model_wrong_0 : decode M_Model_wrong.2.1 0 = .ok (.aload_n 0, 1) := by decide +kernel
theorem d_Model_wrong_1 : decode M_Model_wrong.2.1 1 = .ok (.getfield 168, 3) := by decide +kernel
theorem d_Model_wrong_4 : decode M_Model_wrong.2.1 4 = .ok (.ifCond .eq 4, 3) := by decide +kernel
theorem d_Model_wrong_7 : decode M_Model_wrong.2.1 7 = .ok (.return_, 1) := by decide +kernel
theorem d_Model_wrong_8 : decode M_Model_wrong.2.1 8 = .ok (.aload_n 0, 1) := by decide +kernel
theorem d_Model_wrong_9 : decode M_Model_wrong.2.1 9 = .ok (.iload_n 1, 1) := by decide +kernel
theorem d_Model_wrong_10 : decode M_Model_wrong.2.1 10 = .ok (.putfield 168, 3) := by decide +kernel
theorem d_Model_wrong_13 : decode M_Model_wrong.2.1 13 = .ok (.aload_n 0, 1) := by decide +kernel
theorem d_Model_wrong_14 : decode M_Model_wrong.2.1 14 = .ok (.aload_n 0, 1) := by decide +kernel
theorem d_Model_wrong_15 : decode M_Model_wrong.2.1 15 = .ok (.getfield 139, 3) := by decide +kernel
theorem d_Model_wrong_18 : decode M_Model_wrong.2.1 18 = .ok (.putfield 171, 3) := by decide +kernel
theorem d_Model_wrong_21 : decode M_Model_wrong.2.1 21 = .ok (.return_, 1) := by decide +kernel
theorem d_Model_is_0 : decode M_Model_is.2.1 0 = .ok (.aload_n 0, 1) := by decide +kernel
theorem d_Model_is_1 : decode M_Model_is.2.1 1 = .ok (.getfield 168, 3) := by decide +kernel
theorem d_Model_is_4 : decode M_Model_is.2.1 4 = .ok (.ifCond .ne 31, 3) := by decide +kernel
theorem d_Model_is_7 : decode M_Model_is.2.1 7 = .ok (.aload_n 0, 1) := by decide +kernel
theorem d_Model_is_8 : decode M_Model_is.2.1 8 = .ok (.getfield 142, 3) := by decide +kernel
theorem d_Model_is_11 : decode M_Model_is.2.1 11 = .ok (.iconst 1, 1) := by decide +kernel
theorem d_Model_is_12 : decode M_Model_is.2.1 12 = .ok (.if_icmp .ne 23, 3) := by decide +kernel
theorem d_Model_is_15 : decode M_Model_is.2.1 15 = .ok (.aload_n 1, 1) := by decide +kernel
theorem d_Model_is_16 : decode M_Model_is.2.1 16 = .ok (.invokevirtual 174, 3) := by decide +kernel
theorem d_Model_is_19 : decode M_Model_is.2.1 19 = .ok (.aload_n 0, 1) := by decide +kernel
theorem d_Model_is_20 : decode M_Model_is.2.1 20 = .ok (.getfield 165, 3) := by decide +kernel
theorem d_Model_is_23 : decode M_Model_is.2.1 23 = .ok (.aload_n 0, 1) := by decide +kernel
theorem d_Model_is_24 : decode M_Model_is.2.1 24 = .ok (.getfield 139, 3) := by decide +kernel
theorem d_Model_is_27 : decode M_Model_is.2.1 27 = .ok (.isub, 1) := by decide +kernel
theorem d_Model_is_28 : decode M_Model_is.2.1 28 = .ok (.if_icmp .ne 7, 3) := by decide +kernel
theorem d_Model_is_31 : decode M_Model_is.2.1 31 = .ok (.iconst 1, 1) := by decide +kernel
theorem d_Model_is_32 : decode M_Model_is.2.1 32 = .ok (.goto 4, 3) := by decide +kernel
theorem d_Model_is_35 : decode M_Model_is.2.1 35 = .ok (.iconst 0, 1) := by decide +kernel
theorem d_Model_is_36 : decode M_Model_is.2.1 36 = .ok (.istore_n 2, 1) := by decide +kernel
theorem d_Model_is_37 : decode M_Model_is.2.1 37 = .ok (.iconst 0, 1) := by decide +kernel
theorem d_Model_is_38 : decode M_Model_is.2.1 38 = .ok (.istore_n 3, 1) := by decide +kernel
theorem d_Model_is_39 : decode M_Model_is.2.1 39 = .ok (.iload_n 2, 1) := by decide +kernel
theorem d_Model_is_40 : decode M_Model_is.2.1 40 = .ok (.ifCond .eq 42, 3) := by decide +kernel
theorem d_Model_is_43 : decode M_Model_is.2.1 43 = .ok (.iload_n 3, 1) := by decide +kernel
theorem d_Model_is_44 : decode M_Model_is.2.1 44 = .ok (.aload_n 1, 1) := by decide +kernel
theorem d_Model_is_45 : decode M_Model_is.2.1 45 = .ok (.invokevirtual 174, 3) := by decide +kernel
theorem d_Model_is_48 : decode M_Model_is.2.1 48 = .ok (.if_icmp .ge 34, 3) := by decide +kernel
theorem d_Model_is_51 : decode M_Model_is.2.1 51 = .ok (.aload_n 1, 1) := by decide +kernel
theorem d_Model_is_52 : decode M_Model_is.2.1 52 = .ok (.iload_n 3, 1) := by decide +kernel
theorem d_Model_is_53 : decode M_Model_is.2.1 53 = .ok (.invokevirtual 178, 3) := by decide +kernel
theorem d_Model_is_56 : decode M_Model_is.2.1 56 = .ok (.aload_n 0, 1) := by decide +kernel
theorem d_Model_is_57 : decode M_Model_is.2.1 57 = .ok (.getfield 71, 3) := by decide +kernel
theorem d_Model_is_60 : decode M_Model_is.2.1 60 = .ok (.aload_n 0, 1) := by decide +kernel
theorem d_Model_is_61 : decode M_Model_is.2.1 61 = .ok (.getfield 139, 3) := by decide +kernel
theorem d_Model_is_64 : decode M_Model_is.2.1 64 = .ok (.iload_n 3, 1) := by decide +kernel
theorem d_Model_is_65 : decode M_Model_is.2.1 65 = .ok (.iadd, 1) := by decide +kernel
theorem d_Model_is_66 : decode M_Model_is.2.1 66 = .ok (.iaload, 1) := by decide +kernel
theorem d_Model_is_67 : decode M_Model_is.2.1 67 = .ok (.if_icmp .ne 7, 3) := by decide +kernel
theorem d_Model_is_70 : decode M_Model_is.2.1 70 = .ok (.iconst 1, 1) := by decide +kernel
theorem d_Model_is_71 : decode M_Model_is.2.1 71 = .ok (.goto 4, 3) := by decide +kernel
theorem d_Model_is_74 : decode M_Model_is.2.1 74 = .ok (.iconst 0, 1) := by decide +kernel
theorem d_Model_is_75 : decode M_Model_is.2.1 75 = .ok (.istore_n 2, 1) := by decide +kernel
theorem d_Model_is_76 : decode M_Model_is.2.1 76 = .ok (.iinc 3 1, 3) := by decide +kernel
theorem d_Model_is_79 : decode M_Model_is.2.1 79 = .ok (.goto (-40), 3) := by decide +kernel
theorem d_Model_is_82 : decode M_Model_is.2.1 82 = .ok (.iload_n 2, 1) := by decide +kernel
theorem d_Model_is_83 : decode M_Model_is.2.1 83 = .ok (.ireturn, 1) := by decide +kernel
theorem d_Model_which_0 : decode M_Model_which.2.1 0 = .ok (.iconst 0, 1) := by decide +kernel
theorem d_Model_which_1 : decode M_Model_which.2.1 1 = .ok (.istore_n 2, 1) := by decide +kernel
theorem d_Model_which_2 : decode M_Model_which.2.1 2 = .ok (.iload_n 2, 1) := by decide +kernel
theorem d_Model_which_3 : decode M_Model_which.2.1 3 = .ok (.aload_n 1, 1) := by decide +kernel
theorem d_Model_which_4 : decode M_Model_which.2.1 4 = .ok (.arraylength, 1) := by decide +kernel
theorem d_Model_which_5 : decode M_Model_which.2.1 5 = .ok (.if_icmp .ge 21, 3) := by decide +kernel
theorem d_Model_which_8 : decode M_Model_which.2.1 8 = .ok (.aload_n 0, 1) := by decide +kernel
theorem d_Model_which_9 : decode M_Model_which.2.1 9 = .ok (.aload_n 1, 1) := by decide +kernel
theorem d_Model_which_10 : decode M_Model_which.2.1 10 = .ok (.iload_n 2, 1) := by decide +kernel
theorem d_Model_which_11 : decode M_Model_which.2.1 11 = .ok (.aaload, 1) := by decide +kernel
theorem d_Model_which_12 : decode M_Model_which.2.1 12 = .ok (.invokevirtual 182, 3) := by decide +kernel
theorem d_Model_which_15 : decode M_Model_which.2.1 15 = .ok (.ifCond .eq 5, 3) := by decide +kernel
theorem d_Model_which_18 : decode M_Model_which.2.1 18 = .ok (.iload_n 2, 1) := by decide +kernel
theorem d_Model_which_19 : decode M_Model_which.2.1 19 = .ok (.ireturn, 1) := by decide +kernel
theorem d_Model_which_20 : decode M_Model_which.2.1 20 = .ok (.iinc 2 1, 3) := by decide +kernel
theorem d_Model_which_23 : decode M_Model_which.2.1 23 = .ok (.goto (-21), 3) := by decide +kernel
theorem d_Model_which_26 : decode M_Model_which.2.1 26 = .ok (.iconst (-1), 1) := by decide +kernel
theorem d_Model_which_27 : decode M_Model_which.2.1 27 = .ok (.ireturn, 1) := by decide +kernel
theorem d_Model_isMarked_0 : decode M_Model_isMarked.2.1 0 = .ok (.aload_n 0, 1) := by decide +kernel
theorem d_Model_isMarked_1 : decode M_Model_isMarked.2.1 1 = .ok (.getfield 168, 3) := by decide +kernel
theorem d_Model_isMarked_4 : decode M_Model_isMarked.2.1 4 = .ok (.ifCond .ne 28, 3) := by decide +kernel
theorem d_Model_isMarked_7 : decode M_Model_isMarked.2.1 7 = .ok (.aload_n 0, 1) := by decide +kernel
theorem d_Model_isMarked_8 : decode M_Model_isMarked.2.1 8 = .ok (.getfield 142, 3) := by decide +kernel
theorem d_Model_isMarked_11 : decode M_Model_isMarked.2.1 11 = .ok (.iconst 3, 1) := by decide +kernel
theorem d_Model_isMarked_12 : decode M_Model_isMarked.2.1 12 = .ok (.if_icmp .ne 20, 3) := by decide +kernel
theorem d_Model_isMarked_15 : decode M_Model_isMarked.2.1 15 = .ok (.aload_n 0, 1) := by decide +kernel
theorem d_Model_isMarked_16 : decode M_Model_isMarked.2.1 16 = .ok (.getfield 71, 3) := by decide +kernel
theorem d_Model_isMarked_19 : decode M_Model_isMarked.2.1 19 = .ok (.aload_n 0, 1) := by decide +kernel
theorem d_Model_isMarked_20 : decode M_Model_isMarked.2.1 20 = .ok (.getfield 139, 3) := by decide +kernel
theorem d_Model_isMarked_23 : decode M_Model_isMarked.2.1 23 = .ok (.iaload, 1) := by decide +kernel
theorem d_Model_isMarked_24 : decode M_Model_isMarked.2.1 24 = .ok (.iload_n 1, 1) := by decide +kernel
theorem d_Model_isMarked_25 : decode M_Model_isMarked.2.1 25 = .ok (.if_icmp .ne 7, 3) := by decide +kernel
theorem d_Model_isMarked_28 : decode M_Model_isMarked.2.1 28 = .ok (.iconst 1, 1) := by decide +kernel
theorem d_Model_isMarked_29 : decode M_Model_isMarked.2.1 29 = .ok (.goto 4, 3) := by decide +kernel
theorem d_Model_isMarked_32 : decode M_Model_isMarked.2.1 32 = .ok (.iconst 0, 1) := by decide +kernel
theorem d_Model_isMarked_33 : decode M_Model_isMarked.2.1 33 = .ok (.ireturn, 1) := by decide +kernel
theorem d_Model_mark_0 : decode M_Model_mark.2.1 0 = .ok (.aload_n 0, 1) := by decide +kernel
theorem d_Model_mark_1 : decode M_Model_mark.2.1 1 = .ok (.getfield 168, 3) := by decide +kernel
theorem d_Model_mark_4 : decode M_Model_mark.2.1 4 = .ok (.ifCond .ne 16, 3) := by decide +kernel
theorem d_Model_mark_7 : decode M_Model_mark.2.1 7 = .ok (.aload_n 0, 1) := by decide +kernel
theorem d_Model_mark_8 : decode M_Model_mark.2.1 8 = .ok (.iload_n 1, 1) := by decide +kernel
theorem d_Model_mark_9 : decode M_Model_mark.2.1 9 = .ok (.invokevirtual 186, 3) := by decide +kernel
theorem d_Model_mark_12 : decode M_Model_mark.2.1 12 = .ok (.ifCond .ne 8, 3) := by decide +kernel
theorem d_Model_mark_15 : decode M_Model_mark.2.1 15 = .ok (.aload_n 0, 1) := by decide +kernel
theorem d_Model_mark_16 : decode M_Model_mark.2.1 16 = .ok (.iconst 1, 1) := by decide +kernel
theorem d_Model_mark_17 : decode M_Model_mark.2.1 17 = .ok (.invokevirtual 189, 3) := by decide +kernel
theorem d_Model_mark_20 : decode M_Model_mark.2.1 20 = .ok (.aload_n 0, 1) := by decide +kernel
theorem d_Model_mark_21 : decode M_Model_mark.2.1 21 = .ok (.getfield 168, 3) := by decide +kernel
theorem d_Model_mark_24 : decode M_Model_mark.2.1 24 = .ok (.ifCond .ne 7, 3) := by decide +kernel
theorem d_Model_mark_27 : decode M_Model_mark.2.1 27 = .ok (.aload_n 0, 1) := by decide +kernel
theorem d_Model_mark_28 : decode M_Model_mark.2.1 28 = .ok (.invokevirtual 193, 3) := by decide +kernel
theorem d_Model_mark_31 : decode M_Model_mark.2.1 31 = .ok (.return_, 1) := by decide +kernel
theorem d_Model_numberNow_0 : decode M_Model_numberNow.2.1 0 = .ok (.aload_n 0, 1) := by decide +kernel
theorem d_Model_numberNow_1 : decode M_Model_numberNow.2.1 1 = .ok (.getfield 168, 3) := by decide +kernel
theorem d_Model_numberNow_4 : decode M_Model_numberNow.2.1 4 = .ok (.ifCond .eq 5, 3) := by decide +kernel
theorem d_Model_numberNow_7 : decode M_Model_numberNow.2.1 7 = .ok (.iconst 0, 1) := by decide +kernel
theorem d_Model_numberNow_8 : decode M_Model_numberNow.2.1 8 = .ok (.ireturn, 1) := by decide +kernel
theorem d_Model_numberNow_9 : decode M_Model_numberNow.2.1 9 = .ok (.aload_n 0, 1) := by decide +kernel
theorem d_Model_numberNow_10 : decode M_Model_numberNow.2.1 10 = .ok (.getfield 142, 3) := by decide +kernel
theorem d_Model_numberNow_13 : decode M_Model_numberNow.2.1 13 = .ok (.iconst 2, 1) := by decide +kernel
theorem d_Model_numberNow_14 : decode M_Model_numberNow.2.1 14 = .ok (.if_icmp .eq 11, 3) := by decide +kernel
theorem d_Model_numberNow_17 : decode M_Model_numberNow.2.1 17 = .ok (.aload_n 0, 1) := by decide +kernel
theorem d_Model_numberNow_18 : decode M_Model_numberNow.2.1 18 = .ok (.iconst 1, 1) := by decide +kernel
theorem d_Model_numberNow_19 : decode M_Model_numberNow.2.1 19 = .ok (.invokevirtual 189, 3) := by decide +kernel
theorem d_Model_numberNow_22 : decode M_Model_numberNow.2.1 22 = .ok (.goto 37, 3) := by decide +kernel
theorem d_Model_numberNow_25 : decode M_Model_numberNow.2.1 25 = .ok (.aload_n 0, 1) := by decide +kernel
theorem d_Model_numberNow_26 : decode M_Model_numberNow.2.1 26 = .ok (.getfield 165, 3) := by decide +kernel
theorem d_Model_numberNow_29 : decode M_Model_numberNow.2.1 29 = .ok (.aload_n 0, 1) := by decide +kernel
theorem d_Model_numberNow_30 : decode M_Model_numberNow.2.1 30 = .ok (.getfield 139, 3) := by decide +kernel
theorem d_Model_numberNow_33 : decode M_Model_numberNow.2.1 33 = .ok (.isub, 1) := by decide +kernel
theorem d_Model_numberNow_34 : decode M_Model_numberNow.2.1 34 = .ok (.iconst 4, 1) := by decide +kernel
theorem d_Model_numberNow_35 : decode M_Model_numberNow.2.1 35 = .ok (.if_icmp .gt 19, 3) := by decide +kernel
theorem d_Model_numberNow_38 : decode M_Model_numberNow.2.1 38 = .ok (.aload_n 0, 1) := by decide +kernel
theorem d_Model_numberNow_39 : decode M_Model_numberNow.2.1 39 = .ok (.getfield 152, 3) := by decide +kernel
theorem d_Model_numberNow_42 : decode M_Model_numberNow.2.1 42 = .ok (.iload_n 1, 1) := by decide +kernel
theorem d_Model_numberNow_43 : decode M_Model_numberNow.2.1 43 = .ok (.if_icmp .lt 11, 3) := by decide +kernel
theorem d_Model_numberNow_46 : decode M_Model_numberNow.2.1 46 = .ok (.aload_n 0, 1) := by decide +kernel
theorem d_Model_numberNow_47 : decode M_Model_numberNow.2.1 47 = .ok (.getfield 152, 3) := by decide +kernel
theorem d_Model_numberNow_50 : decode M_Model_numberNow.2.1 50 = .ok (.iload_n 2, 1) := by decide +kernel
theorem d_Model_numberNow_51 : decode M_Model_numberNow.2.1 51 = .ok (.if_icmp .le 8, 3) := by decide +kernel
theorem d_Model_numberNow_54 : decode M_Model_numberNow.2.1 54 = .ok (.aload_n 0, 1) := by decide +kernel
theorem d_Model_numberNow_55 : decode M_Model_numberNow.2.1 55 = .ok (.iconst 2, 1) := by decide +kernel
theorem d_Model_numberNow_56 : decode M_Model_numberNow.2.1 56 = .ok (.invokevirtual 189, 3) := by decide +kernel
theorem d_Model_numberNow_59 : decode M_Model_numberNow.2.1 59 = .ok (.aload_n 0, 1) := by decide +kernel
theorem d_Model_numberNow_60 : decode M_Model_numberNow.2.1 60 = .ok (.getfield 168, 3) := by decide +kernel
theorem d_Model_numberNow_63 : decode M_Model_numberNow.2.1 63 = .ok (.ifCond .ne 10, 3) := by decide +kernel
theorem d_Model_numberNow_66 : decode M_Model_numberNow.2.1 66 = .ok (.aload_n 0, 1) := by decide +kernel
theorem d_Model_numberNow_67 : decode M_Model_numberNow.2.1 67 = .ok (.getfield 152, 3) := by decide +kernel
theorem d_Model_numberNow_70 : decode M_Model_numberNow.2.1 70 = .ok (.goto 4, 3) := by decide +kernel
theorem d_Model_numberNow_73 : decode M_Model_numberNow.2.1 73 = .ok (.iconst 0, 1) := by decide +kernel
theorem d_Model_numberNow_74 : decode M_Model_numberNow.2.1 74 = .ok (.ireturn, 1) := by decide +kernel
theorem d_Model_readNumber_0 : decode M_Model_readNumber.2.1 0 = .ok (.aload_n 0, 1) := by decide +kernel
theorem d_Model_readNumber_1 : decode M_Model_readNumber.2.1 1 = .ok (.iload_n 1, 1) := by decide +kernel
theorem d_Model_readNumber_2 : decode M_Model_readNumber.2.1 2 = .ok (.iload_n 2, 1) := by decide +kernel
theorem d_Model_readNumber_3 : decode M_Model_readNumber.2.1 3 = .ok (.invokevirtual 196, 3) := by decide +kernel
theorem d_Model_readNumber_6 : decode M_Model_readNumber.2.1 6 = .ok (.istore_n 3, 1) := by decide +kernel
theorem d_Model_readNumber_7 : decode M_Model_readNumber.2.1 7 = .ok (.aload_n 0, 1) := by decide +kernel
theorem d_Model_readNumber_8 : decode M_Model_readNumber.2.1 8 = .ok (.getfield 168, 3) := by decide +kernel
theorem d_Model_readNumber_11 : decode M_Model_readNumber.2.1 11 = .ok (.ifCond .ne 7, 3) := by decide +kernel
theorem d_Model_readNumber_14 : decode M_Model_readNumber.2.1 14 = .ok (.aload_n 0, 1) := by decide +kernel
theorem d_Model_readNumber_15 : decode M_Model_readNumber.2.1 15 = .ok (.invokevirtual 193, 3) := by decide +kernel
theorem d_Model_readNumber_18 : decode M_Model_readNumber.2.1 18 = .ok (.iload_n 3, 1) := by decide +kernel
theorem d_Model_readNumber_19 : decode M_Model_readNumber.2.1 19 = .ok (.ireturn, 1) := by decide +kernel
theorem d_Model_oneNow_0 : decode M_Model_oneNow.2.1 0 = .ok (.aload_n 0, 1) := by decide +kernel
theorem d_Model_oneNow_1 : decode M_Model_oneNow.2.1 1 = .ok (.iconst 0, 1) := by decide +kernel
theorem d_Model_oneNow_2 : decode M_Model_oneNow.2.1 2 = .ok (.sipush 9999, 3) := by decide +kernel
theorem d_Model_oneNow_5 : decode M_Model_oneNow.2.1 5 = .ok (.invokevirtual 196, 3) := by decide +kernel
theorem d_Model_oneNow_8 : decode M_Model_oneNow.2.1 8 = .ok (.istore_n 2, 1) := by decide +kernel
theorem d_Model_oneNow_9 : decode M_Model_oneNow.2.1 9 = .ok (.aload_n 0, 1) := by decide +kernel
theorem d_Model_oneNow_10 : decode M_Model_oneNow.2.1 10 = .ok (.getfield 168, 3) := by decide +kernel
theorem d_Model_oneNow_13 : decode M_Model_oneNow.2.1 13 = .ok (.ifCond .ne 13, 3) := by decide +kernel
theorem d_Model_oneNow_16 : decode M_Model_oneNow.2.1 16 = .ok (.iload_n 2, 1) := by decide +kernel
theorem d_Model_oneNow_17 : decode M_Model_oneNow.2.1 17 = .ok (.iload_n 1, 1) := by decide +kernel
theorem d_Model_oneNow_18 : decode M_Model_oneNow.2.1 18 = .ok (.if_icmp .lt 8, 3) := by decide +kernel
theorem d_Model_oneNow_21 : decode M_Model_oneNow.2.1 21 = .ok (.aload_n 0, 1) := by decide +kernel
theorem d_Model_oneNow_22 : decode M_Model_oneNow.2.1 22 = .ok (.iconst 3, 1) := by decide +kernel
theorem d_Model_oneNow_23 : decode M_Model_oneNow.2.1 23 = .ok (.invokevirtual 189, 3) := by decide +kernel
theorem d_Model_oneNow_26 : decode M_Model_oneNow.2.1 26 = .ok (.aload_n 0, 1) := by decide +kernel
theorem d_Model_oneNow_27 : decode M_Model_oneNow.2.1 27 = .ok (.getfield 168, 3) := by decide +kernel
theorem d_Model_oneNow_30 : decode M_Model_oneNow.2.1 30 = .ok (.ifCond .ne 7, 3) := by decide +kernel
theorem d_Model_oneNow_33 : decode M_Model_oneNow.2.1 33 = .ok (.iload_n 2, 1) := by decide +kernel
theorem d_Model_oneNow_34 : decode M_Model_oneNow.2.1 34 = .ok (.goto 4, 3) := by decide +kernel
theorem d_Model_oneNow_37 : decode M_Model_oneNow.2.1 37 = .ok (.iconst 0, 1) := by decide +kernel
theorem d_Model_oneNow_38 : decode M_Model_oneNow.2.1 38 = .ok (.ireturn, 1) := by decide +kernel
theorem d_Model_readOne_0 : decode M_Model_readOne.2.1 0 = .ok (.aload_n 0, 1) := by decide +kernel
theorem d_Model_readOne_1 : decode M_Model_readOne.2.1 1 = .ok (.iload_n 1, 1) := by decide +kernel
theorem d_Model_readOne_2 : decode M_Model_readOne.2.1 2 = .ok (.invokevirtual 199, 3) := by decide +kernel
theorem d_Model_readOne_5 : decode M_Model_readOne.2.1 5 = .ok (.istore_n 2, 1) := by decide +kernel
theorem d_Model_readOne_6 : decode M_Model_readOne.2.1 6 = .ok (.aload_n 0, 1) := by decide +kernel
theorem d_Model_readOne_7 : decode M_Model_readOne.2.1 7 = .ok (.getfield 168, 3) := by decide +kernel
theorem d_Model_readOne_10 : decode M_Model_readOne.2.1 10 = .ok (.ifCond .ne 7, 3) := by decide +kernel
theorem d_Model_readOne_13 : decode M_Model_readOne.2.1 13 = .ok (.aload_n 0, 1) := by decide +kernel
theorem d_Model_readOne_14 : decode M_Model_readOne.2.1 14 = .ok (.invokevirtual 193, 3) := by decide +kernel
theorem d_Model_readOne_17 : decode M_Model_readOne.2.1 17 = .ok (.iload_n 2, 1) := by decide +kernel
theorem d_Model_readOne_18 : decode M_Model_readOne.2.1 18 = .ok (.ireturn, 1) := by decide +kernel
theorem d_Model_lay_0 : decode M_Model_lay.2.1 0 = .ok (.aload_n 0, 1) := by decide +kernel
theorem d_Model_lay_1 : decode M_Model_lay.2.1 1 = .ok (.getfield 168, 3) := by decide +kernel
theorem d_Model_lay_4 : decode M_Model_lay.2.1 4 = .ok (.ifCond .eq 4, 3) := by decide +kernel
theorem d_Model_lay_7 : decode M_Model_lay.2.1 7 = .ok (.return_, 1) := by decide +kernel
theorem d_Model_lay_8 : decode M_Model_lay.2.1 8 = .ok (.aload_n 0, 1) := by decide +kernel
theorem d_Model_lay_9 : decode M_Model_lay.2.1 9 = .ok (.getfield 65, 3) := by decide +kernel
theorem d_Model_lay_12 : decode M_Model_lay.2.1 12 = .ok (.sipush 700, 3) := by decide +kernel
theorem d_Model_lay_15 : decode M_Model_lay.2.1 15 = .ok (.aload_n 0, 1) := by decide +kernel
theorem d_Model_lay_16 : decode M_Model_lay.2.1 16 = .ok (.getfield 51, 3) := by decide +kernel
theorem d_Model_lay_19 : decode M_Model_lay.2.1 19 = .ok (.bipush 11, 2) := by decide +kernel
theorem d_Model_lay_21 : decode M_Model_lay.2.1 21 = .ok (.iaload, 1) := by decide +kernel
theorem d_Model_lay_22 : decode M_Model_lay.2.1 22 = .ok (.iadd, 1) := by decide +kernel
theorem d_Model_lay_23 : decode M_Model_lay.2.1 23 = .ok (.iload_n 1, 1) := by decide +kernel
theorem d_Model_lay_24 : decode M_Model_lay.2.1 24 = .ok (.iastore, 1) := by decide +kernel
theorem d_Model_lay_25 : decode M_Model_lay.2.1 25 = .ok (.aload_n 0, 1) := by decide +kernel
theorem d_Model_lay_26 : decode M_Model_lay.2.1 26 = .ok (.getfield 51, 3) := by decide +kernel
theorem d_Model_lay_29 : decode M_Model_lay.2.1 29 = .ok (.bipush 11, 2) := by decide +kernel
theorem d_Model_lay_31 : decode M_Model_lay.2.1 31 = .ok (.dup2, 1) := by decide +kernel
theorem d_Model_lay_32 : decode M_Model_lay.2.1 32 = .ok (.iaload, 1) := by decide +kernel
theorem d_Model_lay_33 : decode M_Model_lay.2.1 33 = .ok (.iconst 1, 1) := by decide +kernel
theorem d_Model_lay_34 : decode M_Model_lay.2.1 34 = .ok (.iadd, 1) := by decide +kernel
theorem d_Model_lay_35 : decode M_Model_lay.2.1 35 = .ok (.iastore, 1) := by decide +kernel
theorem d_Model_lay_36 : decode M_Model_lay.2.1 36 = .ok (.return_, 1) := by decide +kernel
theorem d_Model_mayHave_0 : decode M_Model_mayHave.2.1 0 = .ok (.iload_n 0, 1) := by decide +kernel
theorem d_Model_mayHave_1 : decode M_Model_mayHave.2.1 1 = .ok (.iconst 2, 1) := by decide +kernel
theorem d_Model_mayHave_2 : decode M_Model_mayHave.2.1 2 = .ok (.if_icmp .ne 7, 3) := by decide +kernel
theorem d_Model_mayHave_5 : decode M_Model_mayHave.2.1 5 = .ok (.iconst 0, 1) := by decide +kernel
theorem d_Model_mayHave_6 : decode M_Model_mayHave.2.1 6 = .ok (.goto 17, 3) := by decide +kernel
theorem d_Model_mayHave_9 : decode M_Model_mayHave.2.1 9 = .ok (.iload_n 0, 1) := by decide +kernel
theorem d_Model_mayHave_10 : decode M_Model_mayHave.2.1 10 = .ok (.iconst 1, 1) := by decide +kernel
theorem d_Model_mayHave_11 : decode M_Model_mayHave.2.1 11 = .ok (.if_icmp .ne 11, 3) := by decide +kernel
theorem d_Model_mayHave_14 : decode M_Model_mayHave.2.1 14 = .ok (.iconst 5, 1) := by decide +kernel
theorem d_Model_mayHave_15 : decode M_Model_mayHave.2.1 15 = .ok (.iload_n 1, 1) := by decide +kernel
theorem d_Model_mayHave_16 : decode M_Model_mayHave.2.1 16 = .ok (.invokestatic 156, 3) := by decide +kernel
theorem d_Model_mayHave_19 : decode M_Model_mayHave.2.1 19 = .ok (.goto 4, 3) := by decide +kernel
theorem d_Model_mayHave_22 : decode M_Model_mayHave.2.1 22 = .ok (.iload_n 1, 1) := by decide +kernel
theorem d_Model_mayHave_23 : decode M_Model_mayHave.2.1 23 = .ok (.ireturn, 1) := by decide +kernel
theorem d_Model_readMonk_0 : decode M_Model_readMonk.2.1 0 = .ok (.aload_n 0, 1) := by decide +kernel
theorem d_Model_readMonk_1 : decode M_Model_readMonk.2.1 1 = .ok (.getfield 51, 3) := by decide +kernel
theorem d_Model_readMonk_4 : decode M_Model_readMonk.2.1 4 = .ok (.bipush 6, 2) := by decide +kernel
theorem d_Model_readMonk_6 : decode M_Model_readMonk.2.1 6 = .ok (.iaload, 1) := by decide +kernel
theorem d_Model_readMonk_7 : decode M_Model_readMonk.2.1 7 = .ok (.bipush 6, 2) := by decide +kernel
theorem d_Model_readMonk_9 : decode M_Model_readMonk.2.1 9 = .ok (.if_icmp .ne 8, 3) := by decide +kernel
theorem d_Model_readMonk_12 : decode M_Model_readMonk.2.1 12 = .ok (.aload_n 0, 1) := by decide +kernel
theorem d_Model_readMonk_13 : decode M_Model_readMonk.2.1 13 = .ok (.iconst 2, 1) := by decide +kernel
theorem d_Model_readMonk_14 : decode M_Model_readMonk.2.1 14 = .ok (.invokevirtual 189, 3) := by decide +kernel
theorem d_Model_readMonk_17 : decode M_Model_readMonk.2.1 17 = .ok (.aload_n 0, 1) := by decide +kernel
theorem d_Model_readMonk_18 : decode M_Model_readMonk.2.1 18 = .ok (.getfield 168, 3) := by decide +kernel
theorem d_Model_readMonk_21 : decode M_Model_readMonk.2.1 21 = .ok (.ifCond .eq 4, 3) := by decide +kernel
theorem d_Model_readMonk_24 : decode M_Model_readMonk.2.1 24 = .ok (.return_, 1) := by decide +kernel
theorem d_Model_readMonk_25 : decode M_Model_readMonk.2.1 25 = .ok (.aload_n 0, 1) := by decide +kernel
theorem d_Model_readMonk_26 : decode M_Model_readMonk.2.1 26 = .ok (.invokevirtual 193, 3) := by decide +kernel
theorem d_Model_readMonk_29 : decode M_Model_readMonk.2.1 29 = .ok (.bipush 6, 2) := by decide +kernel
theorem d_Model_readMonk_31 : decode M_Model_readMonk.2.1 31 = .ok (.aload_n 0, 1) := by decide +kernel
theorem d_Model_readMonk_32 : decode M_Model_readMonk.2.1 32 = .ok (.getfield 51, 3) := by decide +kernel
theorem d_Model_readMonk_35 : decode M_Model_readMonk.2.1 35 = .ok (.bipush 6, 2) := by decide +kernel
theorem d_Model_readMonk_37 : decode M_Model_readMonk.2.1 37 = .ok (.iaload, 1) := by decide +kernel
theorem d_Model_readMonk_38 : decode M_Model_readMonk.2.1 38 = .ok (.iadd, 1) := by decide +kernel
theorem d_Model_readMonk_39 : decode M_Model_readMonk.2.1 39 = .ok (.istore_n 2, 1) := by decide +kernel
theorem d_Model_readMonk_40 : decode M_Model_readMonk.2.1 40 = .ok (.aload_n 0, 1) := by decide +kernel
theorem d_Model_readMonk_41 : decode M_Model_readMonk.2.1 41 = .ok (.getfield 55, 3) := by decide +kernel
theorem d_Model_readMonk_44 : decode M_Model_readMonk.2.1 44 = .ok (.iload_n 2, 1) := by decide +kernel
theorem d_Model_readMonk_45 : decode M_Model_readMonk.2.1 45 = .ok (.iload_n 1, 1) := by decide +kernel
theorem d_Model_readMonk_46 : decode M_Model_readMonk.2.1 46 = .ok (.iastore, 1) := by decide +kernel
theorem d_Model_readMonk_47 : decode M_Model_readMonk.2.1 47 = .ok (.aload_n 0, 1) := by decide +kernel
theorem d_Model_readMonk_48 : decode M_Model_readMonk.2.1 48 = .ok (.getfield 57, 3) := by decide +kernel
theorem d_Model_readMonk_51 : decode M_Model_readMonk.2.1 51 = .ok (.iload_n 2, 1) := by decide +kernel
theorem d_Model_readMonk_52 : decode M_Model_readMonk.2.1 52 = .ok (.aload_n 0, 1) := by decide +kernel
theorem d_Model_readMonk_53 : decode M_Model_readMonk.2.1 53 = .ok (.iconst 0, 1) := by decide +kernel
theorem d_Model_readMonk_54 : decode M_Model_readMonk.2.1 54 = .ok (.bipush 99, 2) := by decide +kernel
theorem d_Model_readMonk_56 : decode M_Model_readMonk.2.1 56 = .ok (.invokevirtual 202, 3) := by decide +kernel
theorem d_Model_readMonk_59 : decode M_Model_readMonk.2.1 59 = .ok (.iastore, 1) := by decide +kernel
theorem d_Model_readMonk_60 : decode M_Model_readMonk.2.1 60 = .ok (.aload_n 0, 1) := by decide +kernel
theorem d_Model_readMonk_61 : decode M_Model_readMonk.2.1 61 = .ok (.getfield 59, 3) := by decide +kernel
theorem d_Model_readMonk_64 : decode M_Model_readMonk.2.1 64 = .ok (.iload_n 2, 1) := by decide +kernel
theorem d_Model_readMonk_65 : decode M_Model_readMonk.2.1 65 = .ok (.aload_n 0, 1) := by decide +kernel
theorem d_Model_readMonk_66 : decode M_Model_readMonk.2.1 66 = .ok (.iconst 0, 1) := by decide +kernel
theorem d_Model_readMonk_67 : decode M_Model_readMonk.2.1 67 = .ok (.bipush 60, 2) := by decide +kernel
theorem d_Model_readMonk_69 : decode M_Model_readMonk.2.1 69 = .ok (.invokevirtual 202, 3) := by decide +kernel
theorem d_Model_readMonk_72 : decode M_Model_readMonk.2.1 72 = .ok (.iload_n 1, 1) := by decide +kernel
theorem d_Model_readMonk_73 : decode M_Model_readMonk.2.1 73 = .ok (.aload_n 0, 1) := by decide +kernel
theorem d_Model_readMonk_74 : decode M_Model_readMonk.2.1 74 = .ok (.getfield 51, 3) := by decide +kernel
theorem d_Model_readMonk_77 : decode M_Model_readMonk.2.1 77 = .ok (.bipush 7, 2) := by decide +kernel
theorem d_Model_readMonk_79 : decode M_Model_readMonk.2.1 79 = .ok (.iaload, 1) := by decide +kernel
theorem d_Model_readMonk_80 : decode M_Model_readMonk.2.1 80 = .ok (.invokestatic 239, 3) := by decide +kernel
theorem d_Model_readMonk_83 : decode M_Model_readMonk.2.1 83 = .ok (.invokestatic 156, 3) := by decide +kernel
theorem d_Model_readMonk_86 : decode M_Model_readMonk.2.1 86 = .ok (.iastore, 1) := by decide +kernel
theorem d_Model_readMonk_87 : decode M_Model_readMonk.2.1 87 = .ok (.aload_n 0, 1) := by decide +kernel
theorem d_Model_readMonk_88 : decode M_Model_readMonk.2.1 88 = .ok (.getfield 51, 3) := by decide +kernel
theorem d_Model_readMonk_91 : decode M_Model_readMonk.2.1 91 = .ok (.bipush 6, 2) := by decide +kernel
theorem d_Model_readMonk_93 : decode M_Model_readMonk.2.1 93 = .ok (.dup2, 1) := by decide +kernel
theorem d_Model_readMonk_94 : decode M_Model_readMonk.2.1 94 = .ok (.iaload, 1) := by decide +kernel
theorem d_Model_readMonk_95 : decode M_Model_readMonk.2.1 95 = .ok (.iconst 1, 1) := by decide +kernel
theorem d_Model_readMonk_96 : decode M_Model_readMonk.2.1 96 = .ok (.iadd, 1) := by decide +kernel
theorem d_Model_readMonk_97 : decode M_Model_readMonk.2.1 97 = .ok (.iastore, 1) := by decide +kernel
theorem d_Model_readMonk_98 : decode M_Model_readMonk.2.1 98 = .ok (.return_, 1) := by decide +kernel
theorem d_Model_readAt_0 : decode M_Model_readAt.2.1 0 = .ok (.bipush 9, 2) := by decide +kernel
theorem d_Model_readAt_2 : decode M_Model_readAt.2.1 2 = .ok (.bipush 24, 2) := by decide +kernel
theorem d_Model_readAt_4 : decode M_Model_readAt.2.1 4 = .ok (.iload_n 0, 1) := by decide +kernel
theorem d_Model_readAt_5 : decode M_Model_readAt.2.1 5 = .ok (.iadd, 1) := by decide +kernel
theorem d_Model_readAt_6 : decode M_Model_readAt.2.1 6 = .ok (.imul, 1) := by decide +kernel
theorem d_Model_readAt_7 : decode M_Model_readAt.2.1 7 = .ok (.ireturn, 1) := by decide +kernel
theorem d_Model_anotherEntry_0 : decode M_Model_anotherEntry.2.1 0 = .ok (.aload_n 0, 1) := by decide +kernel
theorem d_Model_anotherEntry_1 : decode M_Model_anotherEntry.2.1 1 = .ok (.getfield 51, 3) := by decide +kernel
theorem d_Model_anotherEntry_4 : decode M_Model_anotherEntry.2.1 4 = .ok (.bipush 10, 2) := by decide +kernel
theorem d_Model_anotherEntry_6 : decode M_Model_anotherEntry.2.1 6 = .ok (.iaload, 1) := by decide +kernel
theorem d_Model_anotherEntry_7 : decode M_Model_anotherEntry.2.1 7 = .ok (.bipush 24, 2) := by decide +kernel
theorem d_Model_anotherEntry_9 : decode M_Model_anotherEntry.2.1 9 = .ok (.if_icmp .ne 8, 3) := by decide +kernel
theorem d_Model_anotherEntry_12 : decode M_Model_anotherEntry.2.1 12 = .ok (.aload_n 0, 1) := by decide +kernel
theorem d_Model_anotherEntry_13 : decode M_Model_anotherEntry.2.1 13 = .ok (.iconst 2, 1) := by decide +kernel
theorem d_Model_anotherEntry_14 : decode M_Model_anotherEntry.2.1 14 = .ok (.invokevirtual 189, 3) := by decide +kernel
theorem d_Model_anotherEntry_17 : decode M_Model_anotherEntry.2.1 17 = .ok (.aload_n 0, 1) := by decide +kernel
theorem d_Model_anotherEntry_18 : decode M_Model_anotherEntry.2.1 18 = .ok (.getfield 168, 3) := by decide +kernel
theorem d_Model_anotherEntry_21 : decode M_Model_anotherEntry.2.1 21 = .ok (.ifCond .eq 5, 3) := by decide +kernel
theorem d_Model_anotherEntry_24 : decode M_Model_anotherEntry.2.1 24 = .ok (.iconst 0, 1) := by decide +kernel
theorem d_Model_anotherEntry_25 : decode M_Model_anotherEntry.2.1 25 = .ok (.ireturn, 1) := by decide +kernel
theorem d_Model_anotherEntry_26 : decode M_Model_anotherEntry.2.1 26 = .ok (.aload_n 0, 1) := by decide +kernel
theorem d_Model_anotherEntry_27 : decode M_Model_anotherEntry.2.1 27 = .ok (.invokevirtual 193, 3) := by decide +kernel
theorem d_Model_anotherEntry_30 : decode M_Model_anotherEntry.2.1 30 = .ok (.iconst 1, 1) := by decide +kernel
theorem d_Model_anotherEntry_31 : decode M_Model_anotherEntry.2.1 31 = .ok (.ireturn, 1) := by decide +kernel
theorem d_Model_readEntry_0 : decode M_Model_readEntry.2.1 0 = .ok (.aload_n 0, 1) := by decide +kernel
theorem d_Model_readEntry_1 : decode M_Model_readEntry.2.1 1 = .ok (.invokevirtual 242, 3) := by decide +kernel
theorem d_Model_readEntry_4 : decode M_Model_readEntry.2.1 4 = .ok (.ifCond .ne 4, 3) := by decide +kernel
theorem d_Model_readEntry_7 : decode M_Model_readEntry.2.1 7 = .ok (.return_, 1) := by decide +kernel
theorem d_Model_readEntry_8 : decode M_Model_readEntry.2.1 8 = .ok (.aload_n 0, 1) := by decide +kernel
theorem d_Model_readEntry_9 : decode M_Model_readEntry.2.1 9 = .ok (.getfield 51, 3) := by decide +kernel
theorem d_Model_readEntry_12 : decode M_Model_readEntry.2.1 12 = .ok (.bipush 10, 2) := by decide +kernel
theorem d_Model_readEntry_14 : decode M_Model_readEntry.2.1 14 = .ok (.iaload, 1) := by decide +kernel
theorem d_Model_readEntry_15 : decode M_Model_readEntry.2.1 15 = .ok (.invokestatic 246, 3) := by decide +kernel
theorem d_Model_readEntry_18 : decode M_Model_readEntry.2.1 18 = .ok (.istore_n 2, 1) := by decide +kernel
theorem d_Model_readEntry_19 : decode M_Model_readEntry.2.1 19 = .ok (.aload_n 0, 1) := by decide +kernel
theorem d_Model_readEntry_20 : decode M_Model_readEntry.2.1 20 = .ok (.getfield 62, 3) := by decide +kernel
theorem d_Model_readEntry_23 : decode M_Model_readEntry.2.1 23 = .ok (.iload_n 2, 1) := by decide +kernel
theorem d_Model_readEntry_24 : decode M_Model_readEntry.2.1 24 = .ok (.iconst 0, 1) := by decide +kernel
theorem d_Model_readEntry_25 : decode M_Model_readEntry.2.1 25 = .ok (.iadd, 1) := by decide +kernel
theorem d_Model_readEntry_26 : decode M_Model_readEntry.2.1 26 = .ok (.iload_n 1, 1) := by decide +kernel
theorem d_Model_readEntry_27 : decode M_Model_readEntry.2.1 27 = .ok (.iastore, 1) := by decide +kernel
theorem d_Model_readEntry_28 : decode M_Model_readEntry.2.1 28 = .ok (.aload_n 0, 1) := by decide +kernel
theorem d_Model_readEntry_29 : decode M_Model_readEntry.2.1 29 = .ok (.getfield 62, 3) := by decide +kernel
theorem d_Model_readEntry_32 : decode M_Model_readEntry.2.1 32 = .ok (.iload_n 2, 1) := by decide +kernel
theorem d_Model_readEntry_33 : decode M_Model_readEntry.2.1 33 = .ok (.iconst 1, 1) := by decide +kernel
theorem d_Model_readEntry_34 : decode M_Model_readEntry.2.1 34 = .ok (.iadd, 1) := by decide +kernel
theorem d_Model_readEntry_35 : decode M_Model_readEntry.2.1 35 = .ok (.aload_n 0, 1) := by decide +kernel
theorem d_Model_readEntry_36 : decode M_Model_readEntry.2.1 36 = .ok (.aload_n 0, 1) := by decide +kernel
theorem d_Model_readEntry_37 : decode M_Model_readEntry.2.1 37 = .ok (.getfield 51, 3) := by decide +kernel
theorem d_Model_readEntry_40 : decode M_Model_readEntry.2.1 40 = .ok (.bipush 6, 2) := by decide +kernel
theorem d_Model_readEntry_42 : decode M_Model_readEntry.2.1 42 = .ok (.iaload, 1) := by decide +kernel
theorem d_Model_readEntry_43 : decode M_Model_readEntry.2.1 43 = .ok (.invokevirtual 249, 3) := by decide +kernel
theorem d_Model_readEntry_46 : decode M_Model_readEntry.2.1 46 = .ok (.iastore, 1) := by decide +kernel
theorem d_Model_readEntry_47 : decode M_Model_readEntry.2.1 47 = .ok (.aload_n 0, 1) := by decide +kernel
theorem d_Model_readEntry_48 : decode M_Model_readEntry.2.1 48 = .ok (.getfield 62, 3) := by decide +kernel
theorem d_Model_readEntry_51 : decode M_Model_readEntry.2.1 51 = .ok (.iload_n 2, 1) := by decide +kernel
theorem d_Model_readEntry_52 : decode M_Model_readEntry.2.1 52 = .ok (.iconst 2, 1) := by decide +kernel
theorem d_Model_readEntry_53 : decode M_Model_readEntry.2.1 53 = .ok (.iadd, 1) := by decide +kernel
theorem d_Model_readEntry_54 : decode M_Model_readEntry.2.1 54 = .ok (.aload_n 0, 1) := by decide +kernel
theorem d_Model_readEntry_55 : decode M_Model_readEntry.2.1 55 = .ok (.iconst 0, 1) := by decide +kernel
theorem d_Model_readEntry_56 : decode M_Model_readEntry.2.1 56 = .ok (.bipush 60, 2) := by decide +kernel
theorem d_Model_readEntry_58 : decode M_Model_readEntry.2.1 58 = .ok (.invokevirtual 202, 3) := by decide +kernel
theorem d_Model_readEntry_61 : decode M_Model_readEntry.2.1 61 = .ok (.ineg, 1) := by decide +kernel
theorem d_Model_readEntry_62 : decode M_Model_readEntry.2.1 62 = .ok (.iastore, 1) := by decide +kernel
theorem d_Model_readEntry_63 : decode M_Model_readEntry.2.1 63 = .ok (.aload_n 0, 1) := by decide +kernel
theorem d_Model_readEntry_64 : decode M_Model_readEntry.2.1 64 = .ok (.getfield 62, 3) := by decide +kernel
theorem d_Model_readEntry_67 : decode M_Model_readEntry.2.1 67 = .ok (.iload_n 2, 1) := by decide +kernel
theorem d_Model_readEntry_68 : decode M_Model_readEntry.2.1 68 = .ok (.iconst 3, 1) := by decide +kernel
theorem d_Model_readEntry_69 : decode M_Model_readEntry.2.1 69 = .ok (.iadd, 1) := by decide +kernel
theorem d_Model_readEntry_70 : decode M_Model_readEntry.2.1 70 = .ok (.aload_n 0, 1) := by decide +kernel
theorem d_Model_readEntry_71 : decode M_Model_readEntry.2.1 71 = .ok (.iconst 0, 1) := by decide +kernel
theorem d_Model_readEntry_72 : decode M_Model_readEntry.2.1 72 = .ok (.bipush 7, 2) := by decide +kernel
theorem d_Model_readEntry_74 : decode M_Model_readEntry.2.1 74 = .ok (.invokevirtual 202, 3) := by decide +kernel
theorem d_Model_readEntry_77 : decode M_Model_readEntry.2.1 77 = .ok (.iastore, 1) := by decide +kernel
theorem d_Model_readEntry_78 : decode M_Model_readEntry.2.1 78 = .ok (.aload_n 0, 1) := by decide +kernel
theorem d_Model_readEntry_79 : decode M_Model_readEntry.2.1 79 = .ok (.getfield 62, 3) := by decide +kernel
theorem d_Model_readEntry_82 : decode M_Model_readEntry.2.1 82 = .ok (.iload_n 2, 1) := by decide +kernel
theorem d_Model_readEntry_83 : decode M_Model_readEntry.2.1 83 = .ok (.iconst 4, 1) := by decide +kernel
theorem d_Model_readEntry_84 : decode M_Model_readEntry.2.1 84 = .ok (.iadd, 1) := by decide +kernel
theorem d_Model_readEntry_85 : decode M_Model_readEntry.2.1 85 = .ok (.aload_n 0, 1) := by decide +kernel
theorem d_Model_readEntry_86 : decode M_Model_readEntry.2.1 86 = .ok (.iconst 0, 1) := by decide +kernel
theorem d_Model_readEntry_87 : decode M_Model_readEntry.2.1 87 = .ok (.sipush 999, 3) := by decide +kernel
theorem d_Model_readEntry_90 : decode M_Model_readEntry.2.1 90 = .ok (.invokevirtual 202, 3) := by decide +kernel
theorem d_Model_readEntry_93 : decode M_Model_readEntry.2.1 93 = .ok (.iastore, 1) := by decide +kernel
theorem d_Model_readEntry_94 : decode M_Model_readEntry.2.1 94 = .ok (.aload_n 0, 1) := by decide +kernel
theorem d_Model_readEntry_95 : decode M_Model_readEntry.2.1 95 = .ok (.getfield 62, 3) := by decide +kernel
theorem d_Model_readEntry_98 : decode M_Model_readEntry.2.1 98 = .ok (.iload_n 2, 1) := by decide +kernel
theorem d_Model_readEntry_99 : decode M_Model_readEntry.2.1 99 = .ok (.iconst 5, 1) := by decide +kernel
theorem d_Model_readEntry_100 : decode M_Model_readEntry.2.1 100 = .ok (.iadd, 1) := by decide +kernel
theorem d_Model_readEntry_101 : decode M_Model_readEntry.2.1 101 = .ok (.iconst 0, 1) := by decide +kernel
theorem d_Model_readEntry_102 : decode M_Model_readEntry.2.1 102 = .ok (.iastore, 1) := by decide +kernel
theorem d_Model_readEntry_103 : decode M_Model_readEntry.2.1 103 = .ok (.aload_n 0, 1) := by decide +kernel
theorem d_Model_readEntry_104 : decode M_Model_readEntry.2.1 104 = .ok (.ldc 252, 2) := by decide +kernel
theorem d_Model_readEntry_106 : decode M_Model_readEntry.2.1 106 = .ok (.invokevirtual 182, 3) := by decide +kernel
theorem d_Model_readEntry_109 : decode M_Model_readEntry.2.1 109 = .ok (.ifCond .eq 22, 3) := by decide +kernel
theorem d_Model_readEntry_112 : decode M_Model_readEntry.2.1 112 = .ok (.aload_n 0, 1) := by decide +kernel
theorem d_Model_readEntry_113 : decode M_Model_readEntry.2.1 113 = .ok (.invokevirtual 193, 3) := by decide +kernel
theorem d_Model_readEntry_116 : decode M_Model_readEntry.2.1 116 = .ok (.aload_n 0, 1) := by decide +kernel
theorem d_Model_readEntry_117 : decode M_Model_readEntry.2.1 117 = .ok (.getfield 62, 3) := by decide +kernel
theorem d_Model_readEntry_120 : decode M_Model_readEntry.2.1 120 = .ok (.iload_n 2, 1) := by decide +kernel
theorem d_Model_readEntry_121 : decode M_Model_readEntry.2.1 121 = .ok (.iconst 5, 1) := by decide +kernel
theorem d_Model_readEntry_122 : decode M_Model_readEntry.2.1 122 = .ok (.iadd, 1) := by decide +kernel
theorem d_Model_readEntry_123 : decode M_Model_readEntry.2.1 123 = .ok (.aload_n 0, 1) := by decide +kernel
theorem d_Model_readEntry_124 : decode M_Model_readEntry.2.1 124 = .ok (.iconst 0, 1) := by decide +kernel
theorem d_Model_readEntry_125 : decode M_Model_readEntry.2.1 125 = .ok (.bipush 7, 2) := by decide +kernel
theorem d_Model_readEntry_127 : decode M_Model_readEntry.2.1 127 = .ok (.invokevirtual 202, 3) := by decide +kernel
theorem d_Model_readEntry_130 : decode M_Model_readEntry.2.1 130 = .ok (.iastore, 1) := by decide +kernel
theorem d_Model_readEntry_131 : decode M_Model_readEntry.2.1 131 = .ok (.aload_n 0, 1) := by decide +kernel
theorem d_Model_readEntry_132 : decode M_Model_readEntry.2.1 132 = .ok (.getfield 62, 3) := by decide +kernel
theorem d_Model_readEntry_135 : decode M_Model_readEntry.2.1 135 = .ok (.iload_n 2, 1) := by decide +kernel
theorem d_Model_readEntry_136 : decode M_Model_readEntry.2.1 136 = .ok (.bipush 6, 2) := by decide +kernel
theorem d_Model_readEntry_138 : decode M_Model_readEntry.2.1 138 = .ok (.iadd, 1) := by decide +kernel
theorem d_Model_readEntry_139 : decode M_Model_readEntry.2.1 139 = .ok (.aload_n 0, 1) := by decide +kernel
theorem d_Model_readEntry_140 : decode M_Model_readEntry.2.1 140 = .ok (.ldc 254, 2) := by decide +kernel
theorem d_Model_readEntry_142 : decode M_Model_readEntry.2.1 142 = .ok (.invokevirtual 182, 3) := by decide +kernel
theorem d_Model_readEntry_145 : decode M_Model_readEntry.2.1 145 = .ok (.ifCond .eq 7, 3) := by decide +kernel
theorem d_Model_readEntry_148 : decode M_Model_readEntry.2.1 148 = .ok (.iconst 1, 1) := by decide +kernel
theorem d_Model_readEntry_149 : decode M_Model_readEntry.2.1 149 = .ok (.goto 4, 3) := by decide +kernel
theorem d_Model_readEntry_152 : decode M_Model_readEntry.2.1 152 = .ok (.iconst 0, 1) := by decide +kernel
theorem d_Model_readEntry_153 : decode M_Model_readEntry.2.1 153 = .ok (.iastore, 1) := by decide +kernel
theorem d_Model_readEntry_154 : decode M_Model_readEntry.2.1 154 = .ok (.aload_n 0, 1) := by decide +kernel
theorem d_Model_readEntry_155 : decode M_Model_readEntry.2.1 155 = .ok (.getfield 62, 3) := by decide +kernel
theorem d_Model_readEntry_158 : decode M_Model_readEntry.2.1 158 = .ok (.iload_n 2, 1) := by decide +kernel
theorem d_Model_readEntry_159 : decode M_Model_readEntry.2.1 159 = .ok (.bipush 6, 2) := by decide +kernel
theorem d_Model_readEntry_161 : decode M_Model_readEntry.2.1 161 = .ok (.iadd, 1) := by decide +kernel
theorem d_Model_readEntry_162 : decode M_Model_readEntry.2.1 162 = .ok (.iaload, 1) := by decide +kernel
theorem d_Model_readEntry_163 : decode M_Model_readEntry.2.1 163 = .ok (.iconst 1, 1) := by decide +kernel
theorem d_Model_readEntry_164 : decode M_Model_readEntry.2.1 164 = .ok (.if_icmp .ne 7, 3) := by decide +kernel
theorem d_Model_readEntry_167 : decode M_Model_readEntry.2.1 167 = .ok (.aload_n 0, 1) := by decide +kernel
theorem d_Model_readEntry_168 : decode M_Model_readEntry.2.1 168 = .ok (.invokevirtual 193, 3) := by decide +kernel
theorem d_Model_readEntry_171 : decode M_Model_readEntry.2.1 171 = .ok (.aload_n 0, 1) := by decide +kernel
theorem d_Model_readEntry_172 : decode M_Model_readEntry.2.1 172 = .ok (.getfield 62, 3) := by decide +kernel
theorem d_Model_readEntry_175 : decode M_Model_readEntry.2.1 175 = .ok (.iload_n 2, 1) := by decide +kernel
theorem d_Model_readEntry_176 : decode M_Model_readEntry.2.1 176 = .ok (.bipush 7, 2) := by decide +kernel
theorem d_Model_readEntry_178 : decode M_Model_readEntry.2.1 178 = .ok (.iadd, 1) := by decide +kernel
theorem d_Model_readEntry_179 : decode M_Model_readEntry.2.1 179 = .ok (.aload_n 0, 1) := by decide +kernel
theorem d_Model_readEntry_180 : decode M_Model_readEntry.2.1 180 = .ok (.getfield 51, 3) := by decide +kernel
theorem d_Model_readEntry_183 : decode M_Model_readEntry.2.1 183 = .ok (.bipush 10, 2) := by decide +kernel
theorem d_Model_readEntry_185 : decode M_Model_readEntry.2.1 185 = .ok (.iaload, 1) := by decide +kernel
theorem d_Model_readEntry_186 : decode M_Model_readEntry.2.1 186 = .ok (.iastore, 1) := by decide +kernel
theorem d_Model_readEntry_187 : decode M_Model_readEntry.2.1 187 = .ok (.aload_n 0, 1) := by decide +kernel
theorem d_Model_readEntry_188 : decode M_Model_readEntry.2.1 188 = .ok (.getfield 62, 3) := by decide +kernel
theorem d_Model_readEntry_191 : decode M_Model_readEntry.2.1 191 = .ok (.iload_n 2, 1) := by decide +kernel
theorem d_Model_readEntry_192 : decode M_Model_readEntry.2.1 192 = .ok (.bipush 8, 2) := by decide +kernel
theorem d_Model_readEntry_194 : decode M_Model_readEntry.2.1 194 = .ok (.iadd, 1) := by decide +kernel
theorem d_Model_readEntry_195 : decode M_Model_readEntry.2.1 195 = .ok (.iconst 0, 1) := by decide +kernel
theorem d_Model_readEntry_196 : decode M_Model_readEntry.2.1 196 = .ok (.iastore, 1) := by decide +kernel
theorem d_Model_readEntry_197 : decode M_Model_readEntry.2.1 197 = .ok (.aload_n 0, 1) := by decide +kernel
theorem d_Model_readEntry_198 : decode M_Model_readEntry.2.1 198 = .ok (.getfield 51, 3) := by decide +kernel
theorem d_Model_readEntry_201 : decode M_Model_readEntry.2.1 201 = .ok (.bipush 10, 2) := by decide +kernel
theorem d_Model_readEntry_203 : decode M_Model_readEntry.2.1 203 = .ok (.dup2, 1) := by decide +kernel
theorem d_Model_readEntry_204 : decode M_Model_readEntry.2.1 204 = .ok (.iaload, 1) := by decide +kernel
theorem d_Model_readEntry_205 : decode M_Model_readEntry.2.1 205 = .ok (.iconst 1, 1) := by decide +kernel
theorem d_Model_readEntry_206 : decode M_Model_readEntry.2.1 206 = .ok (.iadd, 1) := by decide +kernel
theorem d_Model_readEntry_207 : decode M_Model_readEntry.2.1 207 = .ok (.iastore, 1) := by decide +kernel
theorem d_Model_readEntry_208 : decode M_Model_readEntry.2.1 208 = .ok (.return_, 1) := by decide +kernel
theorem d_Model_readCopy_0 : decode M_Model_readCopy.2.1 0 = .ok (.aload_n 0, 1) := by decide +kernel
theorem d_Model_readCopy_1 : decode M_Model_readCopy.2.1 1 = .ok (.invokevirtual 242, 3) := by decide +kernel
theorem d_Model_readCopy_4 : decode M_Model_readCopy.2.1 4 = .ok (.ifCond .ne 4, 3) := by decide +kernel
theorem d_Model_readCopy_7 : decode M_Model_readCopy.2.1 7 = .ok (.return_, 1) := by decide +kernel
theorem d_Model_readCopy_8 : decode M_Model_readCopy.2.1 8 = .ok (.aload_n 0, 1) := by decide +kernel
theorem d_Model_readCopy_9 : decode M_Model_readCopy.2.1 9 = .ok (.aload_n 0, 1) := by decide +kernel
theorem d_Model_readCopy_10 : decode M_Model_readCopy.2.1 10 = .ok (.getfield 51, 3) := by decide +kernel
theorem d_Model_readCopy_13 : decode M_Model_readCopy.2.1 13 = .ok (.bipush 10, 2) := by decide +kernel
theorem d_Model_readCopy_15 : decode M_Model_readCopy.2.1 15 = .ok (.iaload, 1) := by decide +kernel
theorem d_Model_readCopy_16 : decode M_Model_readCopy.2.1 16 = .ok (.invokevirtual 249, 3) := by decide +kernel
theorem d_Model_readCopy_19 : decode M_Model_readCopy.2.1 19 = .ok (.invokestatic 246, 3) := by decide +kernel
theorem d_Model_readCopy_22 : decode M_Model_readCopy.2.1 22 = .ok (.istore_n 1, 1) := by decide +kernel
theorem d_Model_readCopy_23 : decode M_Model_readCopy.2.1 23 = .ok (.aload_n 0, 1) := by decide +kernel
theorem d_Model_readCopy_24 : decode M_Model_readCopy.2.1 24 = .ok (.aload_n 0, 1) := by decide +kernel
theorem d_Model_readCopy_25 : decode M_Model_readCopy.2.1 25 = .ok (.getfield 51, 3) := by decide +kernel
theorem d_Model_readCopy_28 : decode M_Model_readCopy.2.1 28 = .ok (.bipush 6, 2) := by decide +kernel
theorem d_Model_readCopy_30 : decode M_Model_readCopy.2.1 30 = .ok (.iaload, 1) := by decide +kernel
theorem d_Model_readCopy_31 : decode M_Model_readCopy.2.1 31 = .ok (.invokevirtual 199, 3) := by decide +kernel
theorem d_Model_readCopy_34 : decode M_Model_readCopy.2.1 34 = .ok (.istore_n 2, 1) := by decide +kernel
theorem d_Model_readCopy_35 : decode M_Model_readCopy.2.1 35 = .ok (.iconst 0, 1) := by decide +kernel
theorem d_Model_readCopy_36 : decode M_Model_readCopy.2.1 36 = .ok (.istore_n 3, 1) := by decide +kernel
theorem d_Model_readCopy_37 : decode M_Model_readCopy.2.1 37 = .ok (.iload_n 3, 1) := by decide +kernel
theorem d_Model_readCopy_38 : decode M_Model_readCopy.2.1 38 = .ok (.aload_n 0, 1) := by decide +kernel
theorem d_Model_readCopy_39 : decode M_Model_readCopy.2.1 39 = .ok (.getfield 51, 3) := by decide +kernel
theorem d_Model_readCopy_42 : decode M_Model_readCopy.2.1 42 = .ok (.bipush 10, 2) := by decide +kernel
theorem d_Model_readCopy_44 : decode M_Model_readCopy.2.1 44 = .ok (.iaload, 1) := by decide +kernel
theorem d_Model_readCopy_45 : decode M_Model_readCopy.2.1 45 = .ok (.if_icmp .ge 60, 3) := by decide +kernel
theorem d_Model_readCopy_48 : decode M_Model_readCopy.2.1 48 = .ok (.aload_n 0, 1) := by decide +kernel
theorem d_Model_readCopy_49 : decode M_Model_readCopy.2.1 49 = .ok (.getfield 168, 3) := by decide +kernel
theorem d_Model_readCopy_52 : decode M_Model_readCopy.2.1 52 = .ok (.ifCond .ne 53, 3) := by decide +kernel
theorem d_Model_readCopy_55 : decode M_Model_readCopy.2.1 55 = .ok (.aload_n 0, 1) := by decide +kernel
theorem d_Model_readCopy_56 : decode M_Model_readCopy.2.1 56 = .ok (.getfield 62, 3) := by decide +kernel
theorem d_Model_readCopy_59 : decode M_Model_readCopy.2.1 59 = .ok (.iload_n 3, 1) := by decide +kernel
theorem d_Model_readCopy_60 : decode M_Model_readCopy.2.1 60 = .ok (.invokestatic 246, 3) := by decide +kernel
theorem d_Model_readCopy_63 : decode M_Model_readCopy.2.1 63 = .ok (.bipush 7, 2) := by decide +kernel
theorem d_Model_readCopy_65 : decode M_Model_readCopy.2.1 65 = .ok (.iadd, 1) := by decide +kernel
theorem d_Model_readCopy_66 : decode M_Model_readCopy.2.1 66 = .ok (.iaload, 1) := by decide +kernel
theorem d_Model_readCopy_67 : decode M_Model_readCopy.2.1 67 = .ok (.aload_n 0, 1) := by decide +kernel
theorem d_Model_readCopy_68 : decode M_Model_readCopy.2.1 68 = .ok (.getfield 62, 3) := by decide +kernel
theorem d_Model_readCopy_71 : decode M_Model_readCopy.2.1 71 = .ok (.iload_n 1, 1) := by decide +kernel
theorem d_Model_readCopy_72 : decode M_Model_readCopy.2.1 72 = .ok (.bipush 7, 2) := by decide +kernel
theorem d_Model_readCopy_74 : decode M_Model_readCopy.2.1 74 = .ok (.iadd, 1) := by decide +kernel
theorem d_Model_readCopy_75 : decode M_Model_readCopy.2.1 75 = .ok (.iaload, 1) := by decide +kernel
theorem d_Model_readCopy_76 : decode M_Model_readCopy.2.1 76 = .ok (.if_icmp .ne 23, 3) := by decide +kernel
theorem d_Model_readCopy_79 : decode M_Model_readCopy.2.1 79 = .ok (.aload_n 0, 1) := by decide +kernel
theorem d_Model_readCopy_80 : decode M_Model_readCopy.2.1 80 = .ok (.getfield 62, 3) := by decide +kernel
theorem d_Model_readCopy_83 : decode M_Model_readCopy.2.1 83 = .ok (.iload_n 3, 1) := by decide +kernel
theorem d_Model_readCopy_84 : decode M_Model_readCopy.2.1 84 = .ok (.invokestatic 246, 3) := by decide +kernel
theorem d_Model_readCopy_87 : decode M_Model_readCopy.2.1 87 = .ok (.iconst 1, 1) := by decide +kernel
theorem d_Model_readCopy_88 : decode M_Model_readCopy.2.1 88 = .ok (.iadd, 1) := by decide +kernel
theorem d_Model_readCopy_89 : decode M_Model_readCopy.2.1 89 = .ok (.iaload, 1) := by decide +kernel
theorem d_Model_readCopy_90 : decode M_Model_readCopy.2.1 90 = .ok (.iload_n 2, 1) := by decide +kernel
theorem d_Model_readCopy_91 : decode M_Model_readCopy.2.1 91 = .ok (.if_icmp .ne 8, 3) := by decide +kernel
theorem d_Model_readCopy_94 : decode M_Model_readCopy.2.1 94 = .ok (.aload_n 0, 1) := by decide +kernel
theorem d_Model_readCopy_95 : decode M_Model_readCopy.2.1 95 = .ok (.iconst 4, 1) := by decide +kernel
theorem d_Model_readCopy_96 : decode M_Model_readCopy.2.1 96 = .ok (.invokevirtual 189, 3) := by decide +kernel
theorem d_Model_readCopy_99 : decode M_Model_readCopy.2.1 99 = .ok (.iinc 3 1, 3) := by decide +kernel
theorem d_Model_readCopy_102 : decode M_Model_readCopy.2.1 102 = .ok (.goto (-65), 3) := by decide +kernel
theorem d_Model_readCopy_105 : decode M_Model_readCopy.2.1 105 = .ok (.aload_n 0, 1) := by decide +kernel
theorem d_Model_readCopy_106 : decode M_Model_readCopy.2.1 106 = .ok (.getfield 168, 3) := by decide +kernel
theorem d_Model_readCopy_109 : decode M_Model_readCopy.2.1 109 = .ok (.ifCond .ne 7, 3) := by decide +kernel
theorem d_Model_readCopy_112 : decode M_Model_readCopy.2.1 112 = .ok (.aload_n 0, 1) := by decide +kernel
theorem d_Model_readCopy_113 : decode M_Model_readCopy.2.1 113 = .ok (.invokevirtual 193, 3) := by decide +kernel
theorem d_Model_readCopy_116 : decode M_Model_readCopy.2.1 116 = .ok (.aload_n 0, 1) := by decide +kernel
theorem d_Model_readCopy_117 : decode M_Model_readCopy.2.1 117 = .ok (.iconst 0, 1) := by decide +kernel
theorem d_Model_readCopy_118 : decode M_Model_readCopy.2.1 118 = .ok (.bipush 60, 2) := by decide +kernel
theorem d_Model_readCopy_120 : decode M_Model_readCopy.2.1 120 = .ok (.invokevirtual 202, 3) := by decide +kernel
theorem d_Model_readCopy_123 : decode M_Model_readCopy.2.1 123 = .ok (.istore_n 3, 1) := by decide +kernel
theorem d_Model_readCopy_124 : decode M_Model_readCopy.2.1 124 = .ok (.aload_n 0, 1) := by decide +kernel
theorem d_Model_readCopy_125 : decode M_Model_readCopy.2.1 125 = .ok (.getfield 168, 3) := by decide +kernel
theorem d_Model_readCopy_128 : decode M_Model_readCopy.2.1 128 = .ok (.ifCond .eq 4, 3) := by decide +kernel
theorem d_Model_readCopy_131 : decode M_Model_readCopy.2.1 131 = .ok (.return_, 1) := by decide +kernel
theorem d_Model_readCopy_132 : decode M_Model_readCopy.2.1 132 = .ok (.aload_n 0, 1) := by decide +kernel
theorem d_Model_readCopy_133 : decode M_Model_readCopy.2.1 133 = .ok (.getfield 51, 3) := by decide +kernel
theorem d_Model_readCopy_136 : decode M_Model_readCopy.2.1 136 = .ok (.bipush 10, 2) := by decide +kernel
theorem d_Model_readCopy_138 : decode M_Model_readCopy.2.1 138 = .ok (.iaload, 1) := by decide +kernel
theorem d_Model_readCopy_139 : decode M_Model_readCopy.2.1 139 = .ok (.invokestatic 246, 3) := by decide +kernel
theorem d_Model_readCopy_142 : decode M_Model_readCopy.2.1 142 = .ok (.istore 4, 2) := by decide +kernel
theorem d_Model_readCopy_144 : decode M_Model_readCopy.2.1 144 = .ok (.iconst 0, 1) := by decide +kernel
theorem d_Model_readCopy_145 : decode M_Model_readCopy.2.1 145 = .ok (.istore 5, 2) := by decide +kernel
theorem d_Model_readCopy_147 : decode M_Model_readCopy.2.1 147 = .ok (.iload 5, 2) := by decide +kernel
theorem d_Model_readCopy_149 : decode M_Model_readCopy.2.1 149 = .ok (.bipush 9, 2) := by decide +kernel
theorem d_Model_readCopy_151 : decode M_Model_readCopy.2.1 151 = .ok (.if_icmp .ge 28, 3) := by decide +kernel
theorem d_Model_readCopy_154 : decode M_Model_readCopy.2.1 154 = .ok (.aload_n 0, 1) := by decide +kernel
theorem d_Model_readCopy_155 : decode M_Model_readCopy.2.1 155 = .ok (.getfield 62, 3) := by decide +kernel
theorem d_Model_readCopy_158 : decode M_Model_readCopy.2.1 158 = .ok (.iload 4, 2) := by decide +kernel
theorem d_Model_readCopy_160 : decode M_Model_readCopy.2.1 160 = .ok (.iload 5, 2) := by decide +kernel
theorem d_Model_readCopy_162 : decode M_Model_readCopy.2.1 162 = .ok (.iadd, 1) := by decide +kernel
theorem d_Model_readCopy_163 : decode M_Model_readCopy.2.1 163 = .ok (.aload_n 0, 1) := by decide +kernel
theorem d_Model_readCopy_164 : decode M_Model_readCopy.2.1 164 = .ok (.getfield 62, 3) := by decide +kernel
theorem d_Model_readCopy_167 : decode M_Model_readCopy.2.1 167 = .ok (.iload_n 1, 1) := by decide +kernel
theorem d_Model_readCopy_168 : decode M_Model_readCopy.2.1 168 = .ok (.iload 5, 2) := by decide +kernel
theorem d_Model_readCopy_170 : decode M_Model_readCopy.2.1 170 = .ok (.iadd, 1) := by decide +kernel
theorem d_Model_readCopy_171 : decode M_Model_readCopy.2.1 171 = .ok (.iaload, 1) := by decide +kernel
theorem d_Model_readCopy_172 : decode M_Model_readCopy.2.1 172 = .ok (.iastore, 1) := by decide +kernel
theorem d_Model_readCopy_173 : decode M_Model_readCopy.2.1 173 = .ok (.iinc 5 1, 3) := by decide +kernel
theorem d_Model_readCopy_176 : decode M_Model_readCopy.2.1 176 = .ok (.goto (-29), 3) := by decide +kernel
theorem d_Model_readCopy_179 : decode M_Model_readCopy.2.1 179 = .ok (.aload_n 0, 1) := by decide +kernel
theorem d_Model_readCopy_180 : decode M_Model_readCopy.2.1 180 = .ok (.getfield 62, 3) := by decide +kernel
theorem d_Model_readCopy_183 : decode M_Model_readCopy.2.1 183 = .ok (.iload 4, 2) := by decide +kernel
theorem d_Model_readCopy_185 : decode M_Model_readCopy.2.1 185 = .ok (.iconst 1, 1) := by decide +kernel
theorem d_Model_readCopy_186 : decode M_Model_readCopy.2.1 186 = .ok (.iadd, 1) := by decide +kernel
theorem d_Model_readCopy_187 : decode M_Model_readCopy.2.1 187 = .ok (.iload_n 2, 1) := by decide +kernel
theorem d_Model_readCopy_188 : decode M_Model_readCopy.2.1 188 = .ok (.iastore, 1) := by decide +kernel
theorem d_Model_readCopy_189 : decode M_Model_readCopy.2.1 189 = .ok (.aload_n 0, 1) := by decide +kernel
theorem d_Model_readCopy_190 : decode M_Model_readCopy.2.1 190 = .ok (.getfield 62, 3) := by decide +kernel
theorem d_Model_readCopy_193 : decode M_Model_readCopy.2.1 193 = .ok (.iload 4, 2) := by decide +kernel
theorem d_Model_readCopy_195 : decode M_Model_readCopy.2.1 195 = .ok (.iconst 2, 1) := by decide +kernel
theorem d_Model_readCopy_196 : decode M_Model_readCopy.2.1 196 = .ok (.iadd, 1) := by decide +kernel
theorem d_Model_readCopy_197 : decode M_Model_readCopy.2.1 197 = .ok (.iload_n 3, 1) := by decide +kernel
theorem d_Model_readCopy_198 : decode M_Model_readCopy.2.1 198 = .ok (.ineg, 1) := by decide +kernel
theorem d_Model_readCopy_199 : decode M_Model_readCopy.2.1 199 = .ok (.iastore, 1) := by decide +kernel
theorem d_Model_readCopy_200 : decode M_Model_readCopy.2.1 200 = .ok (.aload_n 0, 1) := by decide +kernel
theorem d_Model_readCopy_201 : decode M_Model_readCopy.2.1 201 = .ok (.getfield 62, 3) := by decide +kernel
theorem d_Model_readCopy_204 : decode M_Model_readCopy.2.1 204 = .ok (.iload 4, 2) := by decide +kernel
theorem d_Model_readCopy_206 : decode M_Model_readCopy.2.1 206 = .ok (.bipush 6, 2) := by decide +kernel
theorem d_Model_readCopy_208 : decode M_Model_readCopy.2.1 208 = .ok (.iadd, 1) := by decide +kernel
theorem d_Model_readCopy_209 : decode M_Model_readCopy.2.1 209 = .ok (.iconst 0, 1) := by decide +kernel
theorem d_Model_readCopy_210 : decode M_Model_readCopy.2.1 210 = .ok (.iastore, 1) := by decide +kernel
theorem d_Model_readCopy_211 : decode M_Model_readCopy.2.1 211 = .ok (.aload_n 0, 1) := by decide +kernel
theorem d_Model_readCopy_212 : decode M_Model_readCopy.2.1 212 = .ok (.getfield 51, 3) := by decide +kernel
theorem d_Model_readCopy_215 : decode M_Model_readCopy.2.1 215 = .ok (.bipush 10, 2) := by decide +kernel
theorem d_Model_readCopy_217 : decode M_Model_readCopy.2.1 217 = .ok (.dup2, 1) := by decide +kernel
theorem d_Model_readCopy_218 : decode M_Model_readCopy.2.1 218 = .ok (.iaload, 1) := by decide +kernel
theorem d_Model_readCopy_219 : decode M_Model_readCopy.2.1 219 = .ok (.iconst 1, 1) := by decide +kernel
theorem d_Model_readCopy_220 : decode M_Model_readCopy.2.1 220 = .ok (.iadd, 1) := by decide +kernel
theorem d_Model_readCopy_221 : decode M_Model_readCopy.2.1 221 = .ok (.iastore, 1) := by decide +kernel
theorem d_Model_readCopy_222 : decode M_Model_readCopy.2.1 222 = .ok (.return_, 1) := by decide +kernel
theorem d_Model_readLine_0 : decode M_Model_readLine.2.1 0 = .ok (.aload_n 0, 1) := by decide +kernel
theorem d_Model_readLine_1 : decode M_Model_readLine.2.1 1 = .ok (.ldc_w 256, 3) := by decide +kernel
theorem d_Model_readLine_4 : decode M_Model_readLine.2.1 4 = .ok (.invokevirtual 182, 3) := by decide +kernel
theorem d_Model_readLine_7 : decode M_Model_readLine.2.1 7 = .ok (.ifCond .eq 7, 3) := by decide +kernel
theorem d_Model_readLine_10 : decode M_Model_readLine.2.1 10 = .ok (.iconst 1, 1) := by decide +kernel
theorem d_Model_readLine_11 : decode M_Model_readLine.2.1 11 = .ok (.goto 46, 3) := by decide +kernel
theorem d_Model_readLine_14 : decode M_Model_readLine.2.1 14 = .ok (.aload_n 0, 1) := by decide +kernel
theorem d_Model_readLine_15 : decode M_Model_readLine.2.1 15 = .ok (.ldc 42, 2) := by decide +kernel
theorem d_Model_readLine_17 : decode M_Model_readLine.2.1 17 = .ok (.invokevirtual 182, 3) := by decide +kernel
theorem d_Model_readLine_20 : decode M_Model_readLine.2.1 20 = .ok (.ifCond .eq 7, 3) := by decide +kernel
theorem d_Model_readLine_23 : decode M_Model_readLine.2.1 23 = .ok (.iconst 2, 1) := by decide +kernel
theorem d_Model_readLine_24 : decode M_Model_readLine.2.1 24 = .ok (.goto 33, 3) := by decide +kernel
theorem d_Model_readLine_27 : decode M_Model_readLine.2.1 27 = .ok (.aload_n 0, 1) := by decide +kernel
theorem d_Model_readLine_28 : decode M_Model_readLine.2.1 28 = .ok (.ldc_w 258, 3) := by decide +kernel
theorem d_Model_readLine_31 : decode M_Model_readLine.2.1 31 = .ok (.invokevirtual 182, 3) := by decide +kernel
theorem d_Model_readLine_34 : decode M_Model_readLine.2.1 34 = .ok (.ifCond .eq 7, 3) := by decide +kernel
theorem d_Model_readLine_37 : decode M_Model_readLine.2.1 37 = .ok (.iconst 4, 1) := by decide +kernel
theorem d_Model_readLine_38 : decode M_Model_readLine.2.1 38 = .ok (.goto 19, 3) := by decide +kernel
theorem d_Model_readLine_41 : decode M_Model_readLine.2.1 41 = .ok (.aload_n 0, 1) := by decide +kernel
theorem d_Model_readLine_42 : decode M_Model_readLine.2.1 42 = .ok (.ldc_w 260, 3) := by decide +kernel
theorem d_Model_readLine_45 : decode M_Model_readLine.2.1 45 = .ok (.invokevirtual 182, 3) := by decide +kernel
theorem d_Model_readLine_48 : decode M_Model_readLine.2.1 48 = .ok (.ifCond .eq 8, 3) := by decide +kernel
theorem d_Model_readLine_51 : decode M_Model_readLine.2.1 51 = .ok (.bipush 8, 2) := by decide +kernel
theorem d_Model_readLine_53 : decode M_Model_readLine.2.1 53 = .ok (.goto 4, 3) := by decide +kernel
theorem d_Model_readLine_56 : decode M_Model_readLine.2.1 56 = .ok (.iconst 0, 1) := by decide +kernel
theorem d_Model_readLine_57 : decode M_Model_readLine.2.1 57 = .ok (.istore_n 2, 1) := by decide +kernel
theorem d_Model_readLine_58 : decode M_Model_readLine.2.1 58 = .ok (.aload_n 0, 1) := by decide +kernel
theorem d_Model_readLine_59 : decode M_Model_readLine.2.1 59 = .ok (.aload_n 0, 1) := by decide +kernel
theorem d_Model_readLine_60 : decode M_Model_readLine.2.1 60 = .ok (.getfield 19, 3) := by decide +kernel
theorem d_Model_readLine_63 : decode M_Model_readLine.2.1 63 = .ok (.invokevirtual 208, 3) := by decide +kernel
theorem d_Model_readLine_66 : decode M_Model_readLine.2.1 66 = .ok (.istore_n 3, 1) := by decide +kernel
theorem d_Model_readLine_67 : decode M_Model_readLine.2.1 67 = .ok (.aload_n 0, 1) := by decide +kernel
theorem d_Model_readLine_68 : decode M_Model_readLine.2.1 68 = .ok (.aload_n 0, 1) := by decide +kernel
theorem d_Model_readLine_69 : decode M_Model_readLine.2.1 69 = .ok (.getfield 31, 3) := by decide +kernel
theorem d_Model_readLine_72 : decode M_Model_readLine.2.1 72 = .ok (.invokevirtual 208, 3) := by decide +kernel
theorem d_Model_readLine_75 : decode M_Model_readLine.2.1 75 = .ok (.istore 4, 2) := by decide +kernel
theorem d_Model_readLine_77 : decode M_Model_readLine.2.1 77 = .ok (.iload_n 2, 1) := by decide +kernel
theorem d_Model_readLine_78 : decode M_Model_readLine.2.1 78 = .ok (.iconst 1, 1) := by decide +kernel
theorem d_Model_readLine_79 : decode M_Model_readLine.2.1 79 = .ok (.if_icmp .ne 19, 3) := by decide +kernel
theorem d_Model_readLine_82 : decode M_Model_readLine.2.1 82 = .ok (.aload_n 0, 1) := by decide +kernel
theorem d_Model_readLine_83 : decode M_Model_readLine.2.1 83 = .ok (.getfield 51, 3) := by decide +kernel
theorem d_Model_readLine_86 : decode M_Model_readLine.2.1 86 = .ok (.bipush 6, 2) := by decide +kernel
theorem d_Model_readLine_88 : decode M_Model_readLine.2.1 88 = .ok (.iaload, 1) := by decide +kernel
theorem d_Model_readLine_89 : decode M_Model_readLine.2.1 89 = .ok (.ifCond .le 9, 3) := by decide +kernel
theorem d_Model_readLine_92 : decode M_Model_readLine.2.1 92 = .ok (.aload_n 0, 1) := by decide +kernel
theorem d_Model_readLine_93 : decode M_Model_readLine.2.1 93 = .ok (.bipush 6, 2) := by decide +kernel
theorem d_Model_readLine_95 : decode M_Model_readLine.2.1 95 = .ok (.invokevirtual 189, 3) := by decide +kernel
theorem d_Model_readLine_98 : decode M_Model_readLine.2.1 98 = .ok (.iload_n 2, 1) := by decide +kernel
theorem d_Model_readLine_99 : decode M_Model_readLine.2.1 99 = .ok (.iload_n 1, 1) := by decide +kernel
theorem d_Model_readLine_100 : decode M_Model_readLine.2.1 100 = .ok (.iand, 1) := by decide +kernel
theorem d_Model_readLine_101 : decode M_Model_readLine.2.1 101 = .ok (.ifCond .eq 8, 3) := by decide +kernel
theorem d_Model_readLine_104 : decode M_Model_readLine.2.1 104 = .ok (.aload_n 0, 1) := by decide +kernel
theorem d_Model_readLine_105 : decode M_Model_readLine.2.1 105 = .ok (.iconst 5, 1) := by decide +kernel
theorem d_Model_readLine_106 : decode M_Model_readLine.2.1 106 = .ok (.invokevirtual 189, 3) := by decide +kernel
theorem d_Model_readLine_109 : decode M_Model_readLine.2.1 109 = .ok (.iload_n 2, 1) := by decide +kernel
theorem d_Model_readLine_110 : decode M_Model_readLine.2.1 110 = .ok (.ifCond .le 88, 3) := by decide +kernel
theorem d_Model_readLine_113 : decode M_Model_readLine.2.1 113 = .ok (.aload_n 0, 1) := by decide +kernel
theorem d_Model_readLine_114 : decode M_Model_readLine.2.1 114 = .ok (.getfield 168, 3) := by decide +kernel
theorem d_Model_readLine_117 : decode M_Model_readLine.2.1 117 = .ok (.ifCond .ne 7, 3) := by decide +kernel
theorem d_Model_readLine_120 : decode M_Model_readLine.2.1 120 = .ok (.aload_n 0, 1) := by decide +kernel
theorem d_Model_readLine_121 : decode M_Model_readLine.2.1 121 = .ok (.invokevirtual 193, 3) := by decide +kernel
theorem d_Model_readLine_124 : decode M_Model_readLine.2.1 124 = .ok (.iload_n 2, 1) := by decide +kernel
theorem d_Model_readLine_125 : decode M_Model_readLine.2.1 125 = .ok (.iconst 1, 1) := by decide +kernel
theorem d_Model_readLine_126 : decode M_Model_readLine.2.1 126 = .ok (.if_icmp .ne 20, 3) := by decide +kernel
theorem d_Model_readLine_129 : decode M_Model_readLine.2.1 129 = .ok (.aload_n 0, 1) := by decide +kernel
theorem d_Model_readLine_130 : decode M_Model_readLine.2.1 130 = .ok (.getfield 51, 3) := by decide +kernel
theorem d_Model_readLine_133 : decode M_Model_readLine.2.1 133 = .ok (.bipush 7, 2) := by decide +kernel
theorem d_Model_readLine_135 : decode M_Model_readLine.2.1 135 = .ok (.aload_n 0, 1) := by decide +kernel
theorem d_Model_readLine_136 : decode M_Model_readLine.2.1 136 = .ok (.iconst 1, 1) := by decide +kernel
theorem d_Model_readLine_137 : decode M_Model_readLine.2.1 137 = .ok (.bipush 60, 2) := by decide +kernel
theorem d_Model_readLine_139 : decode M_Model_readLine.2.1 139 = .ok (.invokevirtual 202, 3) := by decide +kernel
theorem d_Model_readLine_142 : decode M_Model_readLine.2.1 142 = .ok (.iastore, 1) := by decide +kernel
theorem d_Model_readLine_143 : decode M_Model_readLine.2.1 143 = .ok (.goto 105, 3) := by decide +kernel
theorem d_Model_readLine_146 : decode M_Model_readLine.2.1 146 = .ok (.iload_n 2, 1) := by decide +kernel
theorem d_Model_readLine_147 : decode M_Model_readLine.2.1 147 = .ok (.iconst 2, 1) := by decide +kernel
theorem d_Model_readLine_148 : decode M_Model_readLine.2.1 148 = .ok (.if_icmp .ne 20, 3) := by decide +kernel
theorem d_Model_readLine_151 : decode M_Model_readLine.2.1 151 = .ok (.aload_n 0, 1) := by decide +kernel
theorem d_Model_readLine_152 : decode M_Model_readLine.2.1 152 = .ok (.getfield 51, 3) := by decide +kernel
theorem d_Model_readLine_155 : decode M_Model_readLine.2.1 155 = .ok (.bipush 8, 2) := by decide +kernel
theorem d_Model_readLine_157 : decode M_Model_readLine.2.1 157 = .ok (.aload_n 0, 1) := by decide +kernel
theorem d_Model_readLine_158 : decode M_Model_readLine.2.1 158 = .ok (.iconst 1, 1) := by decide +kernel
theorem d_Model_readLine_159 : decode M_Model_readLine.2.1 159 = .ok (.bipush 99, 2) := by decide +kernel
theorem d_Model_readLine_161 : decode M_Model_readLine.2.1 161 = .ok (.invokevirtual 202, 3) := by decide +kernel
theorem d_Model_readLine_164 : decode M_Model_readLine.2.1 164 = .ok (.iastore, 1) := by decide +kernel
theorem d_Model_readLine_165 : decode M_Model_readLine.2.1 165 = .ok (.goto 83, 3) := by decide +kernel
theorem d_Model_readLine_168 : decode M_Model_readLine.2.1 168 = .ok (.iload_n 2, 1) := by decide +kernel
theorem d_Model_readLine_169 : decode M_Model_readLine.2.1 169 = .ok (.iconst 4, 1) := by decide +kernel
theorem d_Model_readLine_170 : decode M_Model_readLine.2.1 170 = .ok (.if_icmp .ne 20, 3) := by decide +kernel
theorem d_Model_readLine_173 : decode M_Model_readLine.2.1 173 = .ok (.aload_n 0, 1) := by decide +kernel
theorem d_Model_readLine_174 : decode M_Model_readLine.2.1 174 = .ok (.getfield 51, 3) := by decide +kernel
theorem d_Model_readLine_177 : decode M_Model_readLine.2.1 177 = .ok (.bipush 9, 2) := by decide +kernel
theorem d_Model_readLine_179 : decode M_Model_readLine.2.1 179 = .ok (.aload_n 0, 1) := by decide +kernel
theorem d_Model_readLine_180 : decode M_Model_readLine.2.1 180 = .ok (.iconst 1, 1) := by decide +kernel
theorem d_Model_readLine_181 : decode M_Model_readLine.2.1 181 = .ok (.bipush 9, 2) := by decide +kernel
theorem d_Model_readLine_183 : decode M_Model_readLine.2.1 183 = .ok (.invokevirtual 202, 3) := by decide +kernel
theorem d_Model_readLine_186 : decode M_Model_readLine.2.1 186 = .ok (.iastore, 1) := by decide +kernel
theorem d_Model_readLine_187 : decode M_Model_readLine.2.1 187 = .ok (.goto 61, 3) := by decide +kernel
theorem d_Model_readLine_190 : decode M_Model_readLine.2.1 190 = .ok (.aload_n 0, 1) := by decide +kernel
theorem d_Model_readLine_191 : decode M_Model_readLine.2.1 191 = .ok (.iconst 0, 1) := by decide +kernel
theorem d_Model_readLine_192 : decode M_Model_readLine.2.1 192 = .ok (.invokevirtual 215, 3) := by decide +kernel
theorem d_Model_readLine_195 : decode M_Model_readLine.2.1 195 = .ok (.goto 53, 3) := by decide +kernel
theorem d_Model_readLine_198 : decode M_Model_readLine.2.1 198 = .ok (.iload_n 3, 1) := by decide +kernel
theorem d_Model_readLine_199 : decode M_Model_readLine.2.1 199 = .ok (.iconst (-1), 1) := by decide +kernel
theorem d_Model_readLine_200 : decode M_Model_readLine.2.1 200 = .ok (.if_icmp .eq 11, 3) := by decide +kernel
theorem d_Model_readLine_203 : decode M_Model_readLine.2.1 203 = .ok (.aload_n 0, 1) := by decide +kernel
theorem d_Model_readLine_204 : decode M_Model_readLine.2.1 204 = .ok (.iload_n 3, 1) := by decide +kernel
theorem d_Model_readLine_205 : decode M_Model_readLine.2.1 205 = .ok (.invokevirtual 262, 3) := by decide +kernel
theorem d_Model_readLine_208 : decode M_Model_readLine.2.1 208 = .ok (.goto 40, 3) := by decide +kernel
theorem d_Model_readLine_211 : decode M_Model_readLine.2.1 211 = .ok (.iload 4, 2) := by decide +kernel
theorem d_Model_readLine_213 : decode M_Model_readLine.2.1 213 = .ok (.iconst (-1), 1) := by decide +kernel
theorem d_Model_readLine_214 : decode M_Model_readLine.2.1 214 = .ok (.if_icmp .eq 12, 3) := by decide +kernel
theorem d_Model_readLine_217 : decode M_Model_readLine.2.1 217 = .ok (.aload_n 0, 1) := by decide +kernel
theorem d_Model_readLine_218 : decode M_Model_readLine.2.1 218 = .ok (.iload 4, 2) := by decide +kernel
theorem d_Model_readLine_220 : decode M_Model_readLine.2.1 220 = .ok (.invokevirtual 265, 3) := by decide +kernel
theorem d_Model_readLine_223 : decode M_Model_readLine.2.1 223 = .ok (.goto 25, 3) := by decide +kernel
theorem d_Model_readLine_226 : decode M_Model_readLine.2.1 226 = .ok (.aload_n 0, 1) := by decide +kernel
theorem d_Model_readLine_227 : decode M_Model_readLine.2.1 227 = .ok (.ldc_w 268, 3) := by decide +kernel
theorem d_Model_readLine_230 : decode M_Model_readLine.2.1 230 = .ok (.invokevirtual 182, 3) := by decide +kernel
theorem d_Model_readLine_233 : decode M_Model_readLine.2.1 233 = .ok (.ifCond .eq 10, 3) := by decide +kernel
theorem d_Model_readLine_236 : decode M_Model_readLine.2.1 236 = .ok (.aload_n 0, 1) := by decide +kernel
theorem d_Model_readLine_237 : decode M_Model_readLine.2.1 237 = .ok (.invokevirtual 270, 3) := by decide +kernel
theorem d_Model_readLine_240 : decode M_Model_readLine.2.1 240 = .ok (.goto 8, 3) := by decide +kernel
theorem d_Model_readLine_243 : decode M_Model_readLine.2.1 243 = .ok (.aload_n 0, 1) := by decide +kernel
theorem d_Model_readLine_244 : decode M_Model_readLine.2.1 244 = .ok (.iconst 1, 1) := by decide +kernel
theorem d_Model_readLine_245 : decode M_Model_readLine.2.1 245 = .ok (.invokevirtual 189, 3) := by decide +kernel
theorem d_Model_readLine_248 : decode M_Model_readLine.2.1 248 = .ok (.aload_n 0, 1) := by decide +kernel
theorem d_Model_readLine_249 : decode M_Model_readLine.2.1 249 = .ok (.bipush 59, 2) := by decide +kernel
theorem d_Model_readLine_251 : decode M_Model_readLine.2.1 251 = .ok (.invokevirtual 212, 3) := by decide +kernel
theorem d_Model_readLine_254 : decode M_Model_readLine.2.1 254 = .ok (.iload_n 1, 1) := by decide +kernel
theorem d_Model_readLine_255 : decode M_Model_readLine.2.1 255 = .ok (.iload_n 2, 1) := by decide +kernel
theorem d_Model_readLine_256 : decode M_Model_readLine.2.1 256 = .ok (.ior, 1) := by decide +kernel
theorem d_Model_readLine_257 : decode M_Model_readLine.2.1 257 = .ok (.ireturn, 1) := by decide +kernel
theorem d_Model_takeHalf_0 : decode M_Model_takeHalf.2.1 0 = .ok (.iconst 0, 1) := by decide +kernel
theorem d_Model_takeHalf_1 : decode M_Model_takeHalf.2.1 1 = .ok (.istore_n 1, 1) := by decide +kernel
theorem d_Model_takeHalf_2 : decode M_Model_takeHalf.2.1 2 = .ok (.iload_n 1, 1) := by decide +kernel
theorem d_Model_takeHalf_3 : decode M_Model_takeHalf.2.1 3 = .ok (.aload_n 0, 1) := by decide +kernel
theorem d_Model_takeHalf_4 : decode M_Model_takeHalf.2.1 4 = .ok (.arraylength, 1) := by decide +kernel
theorem d_Model_takeHalf_5 : decode M_Model_takeHalf.2.1 5 = .ok (.iconst 2, 1) := by decide +kernel
theorem d_Model_takeHalf_6 : decode M_Model_takeHalf.2.1 6 = .ok (.idiv, 1) := by decide +kernel
theorem d_Model_takeHalf_7 : decode M_Model_takeHalf.2.1 7 = .ok (.if_icmp .ge 20, 3) := by decide +kernel
theorem d_Model_takeHalf_10 : decode M_Model_takeHalf.2.1 10 = .ok (.aload_n 0, 1) := by decide +kernel
theorem d_Model_takeHalf_11 : decode M_Model_takeHalf.2.1 11 = .ok (.iload_n 1, 1) := by decide +kernel
theorem d_Model_takeHalf_12 : decode M_Model_takeHalf.2.1 12 = .ok (.aload_n 0, 1) := by decide +kernel
theorem d_Model_takeHalf_13 : decode M_Model_takeHalf.2.1 13 = .ok (.aload_n 0, 1) := by decide +kernel
theorem d_Model_takeHalf_14 : decode M_Model_takeHalf.2.1 14 = .ok (.arraylength, 1) := by decide +kernel
theorem d_Model_takeHalf_15 : decode M_Model_takeHalf.2.1 15 = .ok (.iconst 2, 1) := by decide +kernel
theorem d_Model_takeHalf_16 : decode M_Model_takeHalf.2.1 16 = .ok (.idiv, 1) := by decide +kernel
theorem d_Model_takeHalf_17 : decode M_Model_takeHalf.2.1 17 = .ok (.iload_n 1, 1) := by decide +kernel
theorem d_Model_takeHalf_18 : decode M_Model_takeHalf.2.1 18 = .ok (.iadd, 1) := by decide +kernel
theorem d_Model_takeHalf_19 : decode M_Model_takeHalf.2.1 19 = .ok (.iaload, 1) := by decide +kernel
theorem d_Model_takeHalf_20 : decode M_Model_takeHalf.2.1 20 = .ok (.iastore, 1) := by decide +kernel
theorem d_Model_takeHalf_21 : decode M_Model_takeHalf.2.1 21 = .ok (.iinc 1 1, 3) := by decide +kernel
theorem d_Model_takeHalf_24 : decode M_Model_takeHalf.2.1 24 = .ok (.goto (-22), 3) := by decide +kernel
theorem d_Model_takeHalf_27 : decode M_Model_takeHalf.2.1 27 = .ok (.return_, 1) := by decide +kernel
theorem d_Model_of_0 : decode M_Model_of.2.1 0 = .ok (.aload_n 0, 1) := by decide +kernel
theorem d_Model_of_1 : decode M_Model_of.2.1 1 = .ok (.getfield 62, 3) := by decide +kernel
theorem d_Model_of_4 : decode M_Model_of.2.1 4 = .ok (.bipush 9, 2) := by decide +kernel
theorem d_Model_of_6 : decode M_Model_of.2.1 6 = .ok (.iload_n 1, 1) := by decide +kernel
theorem d_Model_of_7 : decode M_Model_of.2.1 7 = .ok (.imul, 1) := by decide +kernel
theorem d_Model_of_8 : decode M_Model_of.2.1 8 = .ok (.iload_n 2, 1) := by decide +kernel
theorem d_Model_of_9 : decode M_Model_of.2.1 9 = .ok (.iadd, 1) := by decide +kernel
theorem d_Model_of_10 : decode M_Model_of.2.1 10 = .ok (.iaload, 1) := by decide +kernel
theorem d_Model_of_11 : decode M_Model_of.2.1 11 = .ok (.ireturn, 1) := by decide +kernel
theorem d_Model_isThere_0 : decode M_Model_isThere.2.1 0 = .ok (.aload_n 0, 1) := by decide +kernel
theorem d_Model_isThere_1 : decode M_Model_isThere.2.1 1 = .ok (.iload_n 1, 1) := by decide +kernel
theorem d_Model_isThere_2 : decode M_Model_isThere.2.1 2 = .ok (.bipush 8, 2) := by decide +kernel
theorem d_Model_isThere_4 : decode M_Model_isThere.2.1 4 = .ok (.invokevirtual 305, 3) := by decide +kernel
theorem d_Model_isThere_7 : decode M_Model_isThere.2.1 7 = .ok (.ifCond .ne 7, 3) := by decide +kernel
theorem d_Model_isThere_10 : decode M_Model_isThere.2.1 10 = .ok (.iconst 1, 1) := by decide +kernel
theorem d_Model_isThere_11 : decode M_Model_isThere.2.1 11 = .ok (.goto 4, 3) := by decide +kernel
theorem d_Model_isThere_14 : decode M_Model_isThere.2.1 14 = .ok (.iconst 0, 1) := by decide +kernel
theorem d_Model_isThere_15 : decode M_Model_isThere.2.1 15 = .ok (.ireturn, 1) := by decide +kernel
theorem d_Model_yearOf_0 : decode M_Model_yearOf.2.1 0 = .ok (.aload_n 0, 1) := by decide +kernel
theorem d_Model_yearOf_1 : decode M_Model_yearOf.2.1 1 = .ok (.getfield 289, 3) := by decide +kernel
theorem d_Model_yearOf_4 : decode M_Model_yearOf.2.1 4 = .ok (.iload_n 1, 1) := by decide +kernel
theorem d_Model_yearOf_5 : decode M_Model_yearOf.2.1 5 = .ok (.invokestatic 308, 3) := by decide +kernel
theorem d_Model_yearOf_8 : decode M_Model_yearOf.2.1 8 = .ok (.ifCond .eq 12, 3) := by decide +kernel
theorem d_Model_yearOf_11 : decode M_Model_yearOf.2.1 11 = .ok (.aload_n 0, 1) := by decide +kernel
theorem d_Model_yearOf_12 : decode M_Model_yearOf.2.1 12 = .ok (.getfield 78, 3) := by decide +kernel
theorem d_Model_yearOf_15 : decode M_Model_yearOf.2.1 15 = .ok (.iload_n 1, 1) := by decide +kernel
theorem d_Model_yearOf_16 : decode M_Model_yearOf.2.1 16 = .ok (.iaload, 1) := by decide +kernel
theorem d_Model_yearOf_17 : decode M_Model_yearOf.2.1 17 = .ok (.goto 7, 3) := by decide +kernel
theorem d_Model_yearOf_20 : decode M_Model_yearOf.2.1 20 = .ok (.aload_n 0, 1) := by decide +kernel
theorem d_Model_yearOf_21 : decode M_Model_yearOf.2.1 21 = .ok (.getfield 286, 3) := by decide +kernel
theorem d_Model_yearOf_24 : decode M_Model_yearOf.2.1 24 = .ok (.ireturn, 1) := by decide +kernel
theorem d_Model_old_0 : decode M_Model_old.2.1 0 = .ok (.aload_n 0, 1) := by decide +kernel
theorem d_Model_old_1 : decode M_Model_old.2.1 1 = .ok (.aload_n 0, 1) := by decide +kernel
theorem d_Model_old_2 : decode M_Model_old.2.1 2 = .ok (.iload_n 1, 1) := by decide +kernel
theorem d_Model_old_3 : decode M_Model_old.2.1 3 = .ok (.iconst 1, 1) := by decide +kernel
theorem d_Model_old_4 : decode M_Model_old.2.1 4 = .ok (.invokevirtual 305, 3) := by decide +kernel
theorem d_Model_old_7 : decode M_Model_old.2.1 7 = .ok (.invokevirtual 312, 3) := by decide +kernel
theorem d_Model_old_10 : decode M_Model_old.2.1 10 = .ok (.aload_n 0, 1) := by decide +kernel
theorem d_Model_old_11 : decode M_Model_old.2.1 11 = .ok (.iload_n 1, 1) := by decide +kernel
theorem d_Model_old_12 : decode M_Model_old.2.1 12 = .ok (.iconst 2, 1) := by decide +kernel
theorem d_Model_old_13 : decode M_Model_old.2.1 13 = .ok (.invokevirtual 305, 3) := by decide +kernel
theorem d_Model_old_16 : decode M_Model_old.2.1 16 = .ok (.isub, 1) := by decide +kernel
theorem d_Model_old_17 : decode M_Model_old.2.1 17 = .ok (.ireturn, 1) := by decide +kernel
theorem d_Model_lose_0 : decode M_Model_lose.2.1 0 = .ok (.aload_n 0, 1) := by decide +kernel
theorem d_Model_lose_1 : decode M_Model_lose.2.1 1 = .ok (.getfield 62, 3) := by decide +kernel
theorem d_Model_lose_4 : decode M_Model_lose.2.1 4 = .ok (.bipush 9, 2) := by decide +kernel
theorem d_Model_lose_6 : decode M_Model_lose.2.1 6 = .ok (.iload_n 1, 1) := by decide +kernel
theorem d_Model_lose_7 : decode M_Model_lose.2.1 7 = .ok (.imul, 1) := by decide +kernel
theorem d_Model_lose_8 : decode M_Model_lose.2.1 8 = .ok (.bipush 8, 2) := by decide +kernel
theorem d_Model_lose_10 : decode M_Model_lose.2.1 10 = .ok (.iadd, 1) := by decide +kernel
theorem d_Model_lose_11 : decode M_Model_lose.2.1 11 = .ok (.iconst 1, 1) := by decide +kernel
theorem d_Model_lose_12 : decode M_Model_lose.2.1 12 = .ok (.iastore, 1) := by decide +kernel
theorem d_Model_lose_13 : decode M_Model_lose.2.1 13 = .ok (.return_, 1) := by decide +kernel
theorem d_Model_loseFar_0 : decode M_Model_loseFar.2.1 0 = .ok (.iconst 0, 1) := by decide +kernel
theorem d_Model_loseFar_1 : decode M_Model_loseFar.2.1 1 = .ok (.istore_n 1, 1) := by decide +kernel
theorem d_Model_loseFar_2 : decode M_Model_loseFar.2.1 2 = .ok (.iconst 0, 1) := by decide +kernel
theorem d_Model_loseFar_3 : decode M_Model_loseFar.2.1 3 = .ok (.istore_n 2, 1) := by decide +kernel
theorem d_Model_loseFar_4 : decode M_Model_loseFar.2.1 4 = .ok (.iload_n 2, 1) := by decide +kernel
theorem d_Model_loseFar_5 : decode M_Model_loseFar.2.1 5 = .ok (.aload_n 0, 1) := by decide +kernel
theorem d_Model_loseFar_6 : decode M_Model_loseFar.2.1 6 = .ok (.getfield 121, 3) := by decide +kernel
theorem d_Model_loseFar_9 : decode M_Model_loseFar.2.1 9 = .ok (.if_icmp .ge 47, 3) := by decide +kernel
theorem d_Model_loseFar_12 : decode M_Model_loseFar.2.1 12 = .ok (.aload_n 0, 1) := by decide +kernel
theorem d_Model_loseFar_13 : decode M_Model_loseFar.2.1 13 = .ok (.iload_n 2, 1) := by decide +kernel
theorem d_Model_loseFar_14 : decode M_Model_loseFar.2.1 14 = .ok (.invokevirtual 315, 3) := by decide +kernel
theorem d_Model_loseFar_17 : decode M_Model_loseFar.2.1 17 = .ok (.ifCond .eq 33, 3) := by decide +kernel
theorem d_Model_loseFar_20 : decode M_Model_loseFar.2.1 20 = .ok (.aload_n 0, 1) := by decide +kernel
theorem d_Model_loseFar_21 : decode M_Model_loseFar.2.1 21 = .ok (.iload_n 2, 1) := by decide +kernel
theorem d_Model_loseFar_22 : decode M_Model_loseFar.2.1 22 = .ok (.invokevirtual 318, 3) := by decide +kernel
theorem d_Model_loseFar_25 : decode M_Model_loseFar.2.1 25 = .ok (.aload_n 0, 1) := by decide +kernel
theorem d_Model_loseFar_26 : decode M_Model_loseFar.2.1 26 = .ok (.getfield 59, 3) := by decide +kernel
theorem d_Model_loseFar_29 : decode M_Model_loseFar.2.1 29 = .ok (.aload_n 0, 1) := by decide +kernel
theorem d_Model_loseFar_30 : decode M_Model_loseFar.2.1 30 = .ok (.iload_n 2, 1) := by decide +kernel
theorem d_Model_loseFar_31 : decode M_Model_loseFar.2.1 31 = .ok (.iconst 1, 1) := by decide +kernel
theorem d_Model_loseFar_32 : decode M_Model_loseFar.2.1 32 = .ok (.invokevirtual 305, 3) := by decide +kernel
theorem d_Model_loseFar_35 : decode M_Model_loseFar.2.1 35 = .ok (.iaload, 1) := by decide +kernel
theorem d_Model_loseFar_36 : decode M_Model_loseFar.2.1 36 = .ok (.if_icmp .gt 6, 3) := by decide +kernel
theorem d_Model_loseFar_39 : decode M_Model_loseFar.2.1 39 = .ok (.goto 11, 3) := by decide +kernel
theorem d_Model_loseFar_42 : decode M_Model_loseFar.2.1 42 = .ok (.aload_n 0, 1) := by decide +kernel
theorem d_Model_loseFar_43 : decode M_Model_loseFar.2.1 43 = .ok (.iload_n 2, 1) := by decide +kernel
theorem d_Model_loseFar_44 : decode M_Model_loseFar.2.1 44 = .ok (.invokevirtual 320, 3) := by decide +kernel
theorem d_Model_loseFar_47 : decode M_Model_loseFar.2.1 47 = .ok (.iinc 1 1, 3) := by decide +kernel
theorem d_Model_loseFar_50 : decode M_Model_loseFar.2.1 50 = .ok (.iinc 2 1, 3) := by decide +kernel
theorem d_Model_loseFar_53 : decode M_Model_loseFar.2.1 53 = .ok (.goto (-49), 3) := by decide +kernel
theorem d_Model_loseFar_56 : decode M_Model_loseFar.2.1 56 = .ok (.iload_n 1, 1) := by decide +kernel
theorem d_Model_loseFar_57 : decode M_Model_loseFar.2.1 57 = .ok (.ireturn, 1) := by decide +kernel
theorem d_Model_takeOver_0 : decode M_Model_takeOver.2.1 0 = .ok (.aload_n 0, 1) := by decide +kernel
theorem d_Model_takeOver_1 : decode M_Model_takeOver.2.1 1 = .ok (.getfield 51, 3) := by decide +kernel
theorem d_Model_takeOver_4 : decode M_Model_takeOver.2.1 4 = .ok (.invokestatic 282, 3) := by decide +kernel
theorem d_Model_takeOver_7 : decode M_Model_takeOver.2.1 7 = .ok (.aload_n 0, 1) := by decide +kernel
theorem d_Model_takeOver_8 : decode M_Model_takeOver.2.1 8 = .ok (.getfield 55, 3) := by decide +kernel
theorem d_Model_takeOver_11 : decode M_Model_takeOver.2.1 11 = .ok (.invokestatic 282, 3) := by decide +kernel
theorem d_Model_takeOver_14 : decode M_Model_takeOver.2.1 14 = .ok (.aload_n 0, 1) := by decide +kernel
theorem d_Model_takeOver_15 : decode M_Model_takeOver.2.1 15 = .ok (.getfield 57, 3) := by decide +kernel
theorem d_Model_takeOver_18 : decode M_Model_takeOver.2.1 18 = .ok (.invokestatic 282, 3) := by decide +kernel
theorem d_Model_takeOver_21 : decode M_Model_takeOver.2.1 21 = .ok (.aload_n 0, 1) := by decide +kernel
theorem d_Model_takeOver_22 : decode M_Model_takeOver.2.1 22 = .ok (.getfield 59, 3) := by decide +kernel
theorem d_Model_takeOver_25 : decode M_Model_takeOver.2.1 25 = .ok (.invokestatic 282, 3) := by decide +kernel
theorem d_Model_takeOver_28 : decode M_Model_takeOver.2.1 28 = .ok (.aload_n 0, 1) := by decide +kernel
theorem d_Model_takeOver_29 : decode M_Model_takeOver.2.1 29 = .ok (.getfield 62, 3) := by decide +kernel
theorem d_Model_takeOver_32 : decode M_Model_takeOver.2.1 32 = .ok (.invokestatic 282, 3) := by decide +kernel
theorem d_Model_takeOver_35 : decode M_Model_takeOver.2.1 35 = .ok (.aload_n 0, 1) := by decide +kernel
theorem d_Model_takeOver_36 : decode M_Model_takeOver.2.1 36 = .ok (.getfield 65, 3) := by decide +kernel
theorem d_Model_takeOver_39 : decode M_Model_takeOver.2.1 39 = .ok (.invokestatic 282, 3) := by decide +kernel
theorem d_Model_takeOver_42 : decode M_Model_takeOver.2.1 42 = .ok (.aload_n 0, 1) := by decide +kernel
theorem d_Model_takeOver_43 : decode M_Model_takeOver.2.1 43 = .ok (.iconst 0, 1) := by decide +kernel
theorem d_Model_takeOver_44 : decode M_Model_takeOver.2.1 44 = .ok (.putfield 286, 3) := by decide +kernel
theorem d_Model_takeOver_47 : decode M_Model_takeOver.2.1 47 = .ok (.aload_n 0, 1) := by decide +kernel
theorem d_Model_takeOver_48 : decode M_Model_takeOver.2.1 48 = .ok (.iconst 0, 1) := by decide +kernel
theorem d_Model_takeOver_49 : decode M_Model_takeOver.2.1 49 = .ok (.putfield 289, 3) := by decide +kernel
theorem d_Model_takeOver_52 : decode M_Model_takeOver.2.1 52 = .ok (.aload_n 0, 1) := by decide +kernel
theorem d_Model_takeOver_53 : decode M_Model_takeOver.2.1 53 = .ok (.aload_n 0, 1) := by decide +kernel
theorem d_Model_takeOver_54 : decode M_Model_takeOver.2.1 54 = .ok (.getfield 51, 3) := by decide +kernel
theorem d_Model_takeOver_57 : decode M_Model_takeOver.2.1 57 = .ok (.iconst 4, 1) := by decide +kernel
theorem d_Model_takeOver_58 : decode M_Model_takeOver.2.1 58 = .ok (.iaload, 1) := by decide +kernel
theorem d_Model_takeOver_59 : decode M_Model_takeOver.2.1 59 = .ok (.putfield 121, 3) := by decide +kernel
theorem d_Model_takeOver_62 : decode M_Model_takeOver.2.1 62 = .ok (.iconst 0, 1) := by decide +kernel
theorem d_Model_takeOver_63 : decode M_Model_takeOver.2.1 63 = .ok (.istore_n 1, 1) := by decide +kernel
theorem d_Model_takeOver_64 : decode M_Model_takeOver.2.1 64 = .ok (.iload_n 1, 1) := by decide +kernel
theorem d_Model_takeOver_65 : decode M_Model_takeOver.2.1 65 = .ok (.bipush 6, 2) := by decide +kernel
theorem d_Model_takeOver_67 : decode M_Model_takeOver.2.1 67 = .ok (.if_icmp .ge 16, 3) := by decide +kernel
theorem d_Model_takeOver_70 : decode M_Model_takeOver.2.1 70 = .ok (.aload_n 0, 1) := by decide +kernel
theorem d_Model_takeOver_71 : decode M_Model_takeOver.2.1 71 = .ok (.getfield 78, 3) := by decide +kernel
theorem d_Model_takeOver_74 : decode M_Model_takeOver.2.1 74 = .ok (.iload_n 1, 1) := by decide +kernel
theorem d_Model_takeOver_75 : decode M_Model_takeOver.2.1 75 = .ok (.iconst 0, 1) := by decide +kernel
theorem d_Model_takeOver_76 : decode M_Model_takeOver.2.1 76 = .ok (.iastore, 1) := by decide +kernel
theorem d_Model_takeOver_77 : decode M_Model_takeOver.2.1 77 = .ok (.iinc 1 1, 3) := by decide +kernel
theorem d_Model_takeOver_80 : decode M_Model_takeOver.2.1 80 = .ok (.goto (-16), 3) := by decide +kernel
theorem d_Model_takeOver_83 : decode M_Model_takeOver.2.1 83 = .ok (.aload_n 0, 1) := by decide +kernel
theorem d_Model_takeOver_84 : decode M_Model_takeOver.2.1 84 = .ok (.invokevirtual 292, 3) := by decide +kernel
theorem d_Model_takeOver_87 : decode M_Model_takeOver.2.1 87 = .ok (.pop, 1) := by decide +kernel
theorem d_Model_takeOver_88 : decode M_Model_takeOver.2.1 88 = .ok (.aload_n 0, 1) := by decide +kernel
theorem d_Model_takeOver_89 : decode M_Model_takeOver.2.1 89 = .ok (.iconst 0, 1) := by decide +kernel
theorem d_Model_takeOver_90 : decode M_Model_takeOver.2.1 90 = .ok (.putfield 295, 3) := by decide +kernel
theorem d_Model_takeOver_93 : decode M_Model_takeOver.2.1 93 = .ok (.aload_n 0, 1) := by decide +kernel
theorem d_Model_takeOver_94 : decode M_Model_takeOver.2.1 94 = .ok (.iconst 0, 1) := by decide +kernel
theorem d_Model_takeOver_95 : decode M_Model_takeOver.2.1 95 = .ok (.putfield 298, 3) := by decide +kernel
theorem d_Model_takeOver_98 : decode M_Model_takeOver.2.1 98 = .ok (.aload_n 0, 1) := by decide +kernel
theorem d_Model_takeOver_99 : decode M_Model_takeOver.2.1 99 = .ok (.iconst 0, 1) := by decide +kernel
theorem d_Model_takeOver_100 : decode M_Model_takeOver.2.1 100 = .ok (.putfield 301, 3) := by decide +kernel
theorem d_Model_takeOver_103 : decode M_Model_takeOver.2.1 103 = .ok (.return_, 1) := by decide +kernel
theorem d_Model_archive_0 : decode M_Model_archive.2.1 0 = .ok (.aload_n 0, 1) := by decide +kernel
theorem d_Model_archive_1 : decode M_Model_archive.2.1 1 = .ok (.iconst 0, 1) := by decide +kernel
theorem d_Model_archive_2 : decode M_Model_archive.2.1 2 = .ok (.putfield 114, 3) := by decide +kernel
theorem d_Model_archive_5 : decode M_Model_archive.2.1 5 = .ok (.iload_n 1, 1) := by decide +kernel
theorem d_Model_archive_6 : decode M_Model_archive.2.1 6 = .ok (.ifCond .lt 11, 3) := by decide +kernel
theorem d_Model_archive_9 : decode M_Model_archive.2.1 9 = .ok (.iload_n 1, 1) := by decide +kernel
theorem d_Model_archive_10 : decode M_Model_archive.2.1 10 = .ok (.aload_n 0, 1) := by decide +kernel
theorem d_Model_archive_11 : decode M_Model_archive.2.1 11 = .ok (.getfield 126, 3) := by decide +kernel
theorem d_Model_archive_14 : decode M_Model_archive.2.1 14 = .ok (.if_icmp .le 9, 3) := by decide +kernel
theorem d_Model_archive_17 : decode M_Model_archive.2.1 17 = .ok (.aload_n 0, 1) := by decide +kernel
theorem d_Model_archive_18 : decode M_Model_archive.2.1 18 = .ok (.iconst 1, 1) := by decide +kernel
theorem d_Model_archive_19 : decode M_Model_archive.2.1 19 = .ok (.invokevirtual 273, 3) := by decide +kernel
theorem d_Model_archive_22 : decode M_Model_archive.2.1 22 = .ok (.ireturn, 1) := by decide +kernel
theorem d_Model_archive_23 : decode M_Model_archive.2.1 23 = .ok (.aload_n 0, 1) := by decide +kernel
theorem d_Model_archive_24 : decode M_Model_archive.2.1 24 = .ok (.iconst 0, 1) := by decide +kernel
theorem d_Model_archive_25 : decode M_Model_archive.2.1 25 = .ok (.putfield 126, 3) := by decide +kernel
theorem d_Model_archive_28 : decode M_Model_archive.2.1 28 = .ok (.aload_n 0, 1) := by decide +kernel
theorem d_Model_archive_29 : decode M_Model_archive.2.1 29 = .ok (.iload_n 1, 1) := by decide +kernel
theorem d_Model_archive_30 : decode M_Model_archive.2.1 30 = .ok (.putfield 129, 3) := by decide +kernel
theorem d_Model_archive_33 : decode M_Model_archive.2.1 33 = .ok (.aload_n 0, 1) := by decide +kernel
theorem d_Model_archive_34 : decode M_Model_archive.2.1 34 = .ok (.iconst 0, 1) := by decide +kernel
theorem d_Model_archive_35 : decode M_Model_archive.2.1 35 = .ok (.putfield 132, 3) := by decide +kernel
theorem d_Model_archive_38 : decode M_Model_archive.2.1 38 = .ok (.aload_n 0, 1) := by decide +kernel
theorem d_Model_archive_39 : decode M_Model_archive.2.1 39 = .ok (.iconst 0, 1) := by decide +kernel
theorem d_Model_archive_40 : decode M_Model_archive.2.1 40 = .ok (.putfield 168, 3) := by decide +kernel
theorem d_Model_archive_43 : decode M_Model_archive.2.1 43 = .ok (.aload_n 0, 1) := by decide +kernel
theorem d_Model_archive_44 : decode M_Model_archive.2.1 44 = .ok (.iconst (-1), 1) := by decide +kernel
theorem d_Model_archive_45 : decode M_Model_archive.2.1 45 = .ok (.putfield 74, 3) := by decide +kernel
theorem d_Model_archive_48 : decode M_Model_archive.2.1 48 = .ok (.iconst 0, 1) := by decide +kernel
theorem d_Model_archive_49 : decode M_Model_archive.2.1 49 = .ok (.istore_n 2, 1) := by decide +kernel
theorem d_Model_archive_50 : decode M_Model_archive.2.1 50 = .ok (.iload_n 2, 1) := by decide +kernel
theorem d_Model_archive_51 : decode M_Model_archive.2.1 51 = .ok (.bipush 6, 2) := by decide +kernel
theorem d_Model_archive_53 : decode M_Model_archive.2.1 53 = .ok (.if_icmp .ge 48, 3) := by decide +kernel
theorem d_Model_archive_56 : decode M_Model_archive.2.1 56 = .ok (.aload_n 0, 1) := by decide +kernel
theorem d_Model_archive_57 : decode M_Model_archive.2.1 57 = .ok (.getfield 51, 3) := by decide +kernel
theorem d_Model_archive_60 : decode M_Model_archive.2.1 60 = .ok (.bipush 6, 2) := by decide +kernel
theorem d_Model_archive_62 : decode M_Model_archive.2.1 62 = .ok (.iload_n 2, 1) := by decide +kernel
theorem d_Model_archive_63 : decode M_Model_archive.2.1 63 = .ok (.iadd, 1) := by decide +kernel
theorem d_Model_archive_64 : decode M_Model_archive.2.1 64 = .ok (.iload_n 2, 1) := by decide +kernel
theorem d_Model_archive_65 : decode M_Model_archive.2.1 65 = .ok (.iconst 1, 1) := by decide +kernel
theorem d_Model_archive_66 : decode M_Model_archive.2.1 66 = .ok (.if_icmp .ne 8, 3) := by decide +kernel
theorem d_Model_archive_69 : decode M_Model_archive.2.1 69 = .ok (.bipush 40, 2) := by decide +kernel
theorem d_Model_archive_71 : decode M_Model_archive.2.1 71 = .ok (.goto 23, 3) := by decide +kernel
theorem d_Model_archive_74 : decode M_Model_archive.2.1 74 = .ok (.iload_n 2, 1) := by decide +kernel
theorem d_Model_archive_75 : decode M_Model_archive.2.1 75 = .ok (.iconst 2, 1) := by decide +kernel
theorem d_Model_archive_76 : decode M_Model_archive.2.1 76 = .ok (.if_icmp .ne 8, 3) := by decide +kernel
theorem d_Model_archive_79 : decode M_Model_archive.2.1 79 = .ok (.bipush 60, 2) := by decide +kernel
theorem d_Model_archive_81 : decode M_Model_archive.2.1 81 = .ok (.goto 13, 3) := by decide +kernel
theorem d_Model_archive_84 : decode M_Model_archive.2.1 84 = .ok (.iload_n 2, 1) := by decide +kernel
theorem d_Model_archive_85 : decode M_Model_archive.2.1 85 = .ok (.iconst 3, 1) := by decide +kernel
theorem d_Model_archive_86 : decode M_Model_archive.2.1 86 = .ok (.if_icmp .ne 7, 3) := by decide +kernel
theorem d_Model_archive_89 : decode M_Model_archive.2.1 89 = .ok (.iconst 3, 1) := by decide +kernel
theorem d_Model_archive_90 : decode M_Model_archive.2.1 90 = .ok (.goto 4, 3) := by decide +kernel
theorem d_Model_archive_93 : decode M_Model_archive.2.1 93 = .ok (.iconst 0, 1) := by decide +kernel
theorem d_Model_archive_94 : decode M_Model_archive.2.1 94 = .ok (.iastore, 1) := by decide +kernel
theorem d_Model_archive_95 : decode M_Model_archive.2.1 95 = .ok (.iinc 2 1, 3) := by decide +kernel
theorem d_Model_archive_98 : decode M_Model_archive.2.1 98 = .ok (.goto (-48), 3) := by decide +kernel
theorem d_Model_archive_101 : decode M_Model_archive.2.1 101 = .ok (.aload_n 0, 1) := by decide +kernel
theorem d_Model_archive_102 : decode M_Model_archive.2.1 102 = .ok (.invokevirtual 193, 3) := by decide +kernel
theorem d_Model_archive_105 : decode M_Model_archive.2.1 105 = .ok (.iconst 0, 1) := by decide +kernel
theorem d_Model_archive_106 : decode M_Model_archive.2.1 106 = .ok (.istore_n 2, 1) := by decide +kernel
theorem d_Model_archive_107 : decode M_Model_archive.2.1 107 = .ok (.aload_n 0, 1) := by decide +kernel
theorem d_Model_archive_108 : decode M_Model_archive.2.1 108 = .ok (.getfield 168, 3) := by decide +kernel
theorem d_Model_archive_111 : decode M_Model_archive.2.1 111 = .ok (.ifCond .ne 19, 3) := by decide +kernel
theorem d_Model_archive_114 : decode M_Model_archive.2.1 114 = .ok (.aload_n 0, 1) := by decide +kernel
theorem d_Model_archive_115 : decode M_Model_archive.2.1 115 = .ok (.getfield 142, 3) := by decide +kernel
theorem d_Model_archive_118 : decode M_Model_archive.2.1 118 = .ok (.ifCond .eq 12, 3) := by decide +kernel
theorem d_Model_archive_121 : decode M_Model_archive.2.1 121 = .ok (.aload_n 0, 1) := by decide +kernel
theorem d_Model_archive_122 : decode M_Model_archive.2.1 122 = .ok (.iload_n 2, 1) := by decide +kernel
theorem d_Model_archive_123 : decode M_Model_archive.2.1 123 = .ok (.invokevirtual 276, 3) := by decide +kernel
theorem d_Model_archive_126 : decode M_Model_archive.2.1 126 = .ok (.istore_n 2, 1) := by decide +kernel
theorem d_Model_archive_127 : decode M_Model_archive.2.1 127 = .ok (.goto (-20), 3) := by decide +kernel
theorem d_Model_archive_130 : decode M_Model_archive.2.1 130 = .ok (.aload_n 0, 1) := by decide +kernel
theorem d_Model_archive_131 : decode M_Model_archive.2.1 131 = .ok (.getfield 168, 3) := by decide +kernel
theorem d_Model_archive_134 : decode M_Model_archive.2.1 134 = .ok (.ifCond .eq 26, 3) := by decide +kernel
theorem d_Model_archive_137 : decode M_Model_archive.2.1 137 = .ok (.aload_n 0, 1) := by decide +kernel
theorem d_Model_archive_138 : decode M_Model_archive.2.1 138 = .ok (.aload_n 0, 1) := by decide +kernel
theorem d_Model_archive_139 : decode M_Model_archive.2.1 139 = .ok (.getfield 171, 3) := by decide +kernel
theorem d_Model_archive_142 : decode M_Model_archive.2.1 142 = .ok (.putfield 74, 3) := by decide +kernel
theorem d_Model_archive_145 : decode M_Model_archive.2.1 145 = .ok (.aload_n 0, 1) := by decide +kernel
theorem d_Model_archive_146 : decode M_Model_archive.2.1 146 = .ok (.getfield 68, 3) := by decide +kernel
theorem d_Model_archive_149 : decode M_Model_archive.2.1 149 = .ok (.iconst 0, 1) := by decide +kernel
theorem d_Model_archive_150 : decode M_Model_archive.2.1 150 = .ok (.dup2, 1) := by decide +kernel
theorem d_Model_archive_151 : decode M_Model_archive.2.1 151 = .ok (.iaload, 1) := by decide +kernel
theorem d_Model_archive_152 : decode M_Model_archive.2.1 152 = .ok (.iconst 1, 1) := by decide +kernel
theorem d_Model_archive_153 : decode M_Model_archive.2.1 153 = .ok (.iadd, 1) := by decide +kernel
theorem d_Model_archive_154 : decode M_Model_archive.2.1 154 = .ok (.iastore, 1) := by decide +kernel
theorem d_Model_archive_155 : decode M_Model_archive.2.1 155 = .ok (.aload_n 0, 1) := by decide +kernel
theorem d_Model_archive_156 : decode M_Model_archive.2.1 156 = .ok (.getfield 168, 3) := by decide +kernel
theorem d_Model_archive_159 : decode M_Model_archive.2.1 159 = .ok (.ireturn, 1) := by decide +kernel
theorem d_Model_archive_160 : decode M_Model_archive.2.1 160 = .ok (.aload_n 0, 1) := by decide +kernel
theorem d_Model_archive_161 : decode M_Model_archive.2.1 161 = .ok (.invokevirtual 279, 3) := by decide +kernel
theorem d_Model_archive_164 : decode M_Model_archive.2.1 164 = .ok (.iconst 0, 1) := by decide +kernel
theorem d_Model_archive_165 : decode M_Model_archive.2.1 165 = .ok (.ireturn, 1) := by decide +kernel
theorem d_Model_fault_0 : decode M_Model_fault.2.1 0 = .ok (.aload_n 0, 1) := by decide +kernel
theorem d_Model_fault_1 : decode M_Model_fault.2.1 1 = .ok (.iconst 0, 1) := by decide +kernel
theorem d_Model_fault_2 : decode M_Model_fault.2.1 2 = .ok (.putfield 114, 3) := by decide +kernel
theorem d_Model_fault_5 : decode M_Model_fault.2.1 5 = .ok (.aload_n 0, 1) := by decide +kernel
theorem d_Model_fault_6 : decode M_Model_fault.2.1 6 = .ok (.getfield 74, 3) := by decide +kernel
theorem d_Model_fault_9 : decode M_Model_fault.2.1 9 = .ok (.ireturn, 1) := by decide +kernel
theorem d_Model_pack_0 : decode M_Model_pack.2.1 0 = .ok (.aload_n 1, 1) := by decide +kernel
theorem d_Model_pack_1 : decode M_Model_pack.2.1 1 = .ok (.iload_n 2, 1) := by decide +kernel
theorem d_Model_pack_2 : decode M_Model_pack.2.1 2 = .ok (.aload_n 0, 1) := by decide +kernel
theorem d_Model_pack_3 : decode M_Model_pack.2.1 3 = .ok (.getfield 286, 3) := by decide +kernel
theorem d_Model_pack_6 : decode M_Model_pack.2.1 6 = .ok (.iastore, 1) := by decide +kernel
theorem d_Model_pack_7 : decode M_Model_pack.2.1 7 = .ok (.aload_n 1, 1) := by decide +kernel
theorem d_Model_pack_8 : decode M_Model_pack.2.1 8 = .ok (.iload_n 2, 1) := by decide +kernel
theorem d_Model_pack_9 : decode M_Model_pack.2.1 9 = .ok (.iconst 1, 1) := by decide +kernel
theorem d_Model_pack_10 : decode M_Model_pack.2.1 10 = .ok (.iadd, 1) := by decide +kernel
theorem d_Model_pack_11 : decode M_Model_pack.2.1 11 = .ok (.aload_n 0, 1) := by decide +kernel
theorem d_Model_pack_12 : decode M_Model_pack.2.1 12 = .ok (.getfield 289, 3) := by decide +kernel
theorem d_Model_pack_15 : decode M_Model_pack.2.1 15 = .ok (.iastore, 1) := by decide +kernel
theorem d_Model_pack_16 : decode M_Model_pack.2.1 16 = .ok (.aload_n 1, 1) := by decide +kernel
theorem d_Model_pack_17 : decode M_Model_pack.2.1 17 = .ok (.iload_n 2, 1) := by decide +kernel
theorem d_Model_pack_18 : decode M_Model_pack.2.1 18 = .ok (.iconst 2, 1) := by decide +kernel
theorem d_Model_pack_19 : decode M_Model_pack.2.1 19 = .ok (.iadd, 1) := by decide +kernel
theorem d_Model_pack_20 : decode M_Model_pack.2.1 20 = .ok (.aload_n 0, 1) := by decide +kernel
theorem d_Model_pack_21 : decode M_Model_pack.2.1 21 = .ok (.getfield 121, 3) := by decide +kernel
theorem d_Model_pack_24 : decode M_Model_pack.2.1 24 = .ok (.iastore, 1) := by decide +kernel
theorem d_Model_pack_25 : decode M_Model_pack.2.1 25 = .ok (.iconst 0, 1) := by decide +kernel
theorem d_Model_pack_26 : decode M_Model_pack.2.1 26 = .ok (.istore_n 3, 1) := by decide +kernel
theorem d_Model_pack_27 : decode M_Model_pack.2.1 27 = .ok (.iload_n 3, 1) := by decide +kernel
theorem d_Model_pack_28 : decode M_Model_pack.2.1 28 = .ok (.bipush 6, 2) := by decide +kernel
theorem d_Model_pack_30 : decode M_Model_pack.2.1 30 = .ok (.if_icmp .ge 38, 3) := by decide +kernel
theorem d_Model_pack_33 : decode M_Model_pack.2.1 33 = .ok (.aload_n 1, 1) := by decide +kernel
theorem d_Model_pack_34 : decode M_Model_pack.2.1 34 = .ok (.iload_n 2, 1) := by decide +kernel
theorem d_Model_pack_35 : decode M_Model_pack.2.1 35 = .ok (.iconst 3, 1) := by decide +kernel
theorem d_Model_pack_36 : decode M_Model_pack.2.1 36 = .ok (.iadd, 1) := by decide +kernel
theorem d_Model_pack_37 : decode M_Model_pack.2.1 37 = .ok (.iload_n 3, 1) := by decide +kernel
theorem d_Model_pack_38 : decode M_Model_pack.2.1 38 = .ok (.iadd, 1) := by decide +kernel
theorem d_Model_pack_39 : decode M_Model_pack.2.1 39 = .ok (.aload_n 0, 1) := by decide +kernel
theorem d_Model_pack_40 : decode M_Model_pack.2.1 40 = .ok (.getfield 59, 3) := by decide +kernel
theorem d_Model_pack_43 : decode M_Model_pack.2.1 43 = .ok (.iload_n 3, 1) := by decide +kernel
theorem d_Model_pack_44 : decode M_Model_pack.2.1 44 = .ok (.iaload, 1) := by decide +kernel
theorem d_Model_pack_45 : decode M_Model_pack.2.1 45 = .ok (.iastore, 1) := by decide +kernel
theorem d_Model_pack_46 : decode M_Model_pack.2.1 46 = .ok (.aload_n 1, 1) := by decide +kernel
theorem d_Model_pack_47 : decode M_Model_pack.2.1 47 = .ok (.iload_n 2, 1) := by decide +kernel
theorem d_Model_pack_48 : decode M_Model_pack.2.1 48 = .ok (.iconst 3, 1) := by decide +kernel
theorem d_Model_pack_49 : decode M_Model_pack.2.1 49 = .ok (.iadd, 1) := by decide +kernel
theorem d_Model_pack_50 : decode M_Model_pack.2.1 50 = .ok (.bipush 6, 2) := by decide +kernel
theorem d_Model_pack_52 : decode M_Model_pack.2.1 52 = .ok (.iadd, 1) := by decide +kernel
theorem d_Model_pack_53 : decode M_Model_pack.2.1 53 = .ok (.iload_n 3, 1) := by decide +kernel
theorem d_Model_pack_54 : decode M_Model_pack.2.1 54 = .ok (.iadd, 1) := by decide +kernel
theorem d_Model_pack_55 : decode M_Model_pack.2.1 55 = .ok (.aload_n 0, 1) := by decide +kernel
theorem d_Model_pack_56 : decode M_Model_pack.2.1 56 = .ok (.getfield 78, 3) := by decide +kernel
theorem d_Model_pack_59 : decode M_Model_pack.2.1 59 = .ok (.iload_n 3, 1) := by decide +kernel
theorem d_Model_pack_60 : decode M_Model_pack.2.1 60 = .ok (.iaload, 1) := by decide +kernel
theorem d_Model_pack_61 : decode M_Model_pack.2.1 61 = .ok (.iastore, 1) := by decide +kernel
theorem d_Model_pack_62 : decode M_Model_pack.2.1 62 = .ok (.iinc 3 1, 3) := by decide +kernel
theorem d_Model_pack_65 : decode M_Model_pack.2.1 65 = .ok (.goto (-38), 3) := by decide +kernel
theorem d_Model_pack_68 : decode M_Model_pack.2.1 68 = .ok (.iload_n 2, 1) := by decide +kernel
theorem d_Model_pack_69 : decode M_Model_pack.2.1 69 = .ok (.iconst 3, 1) := by decide +kernel
theorem d_Model_pack_70 : decode M_Model_pack.2.1 70 = .ok (.iadd, 1) := by decide +kernel
theorem d_Model_pack_71 : decode M_Model_pack.2.1 71 = .ok (.bipush 12, 2) := by decide +kernel
theorem d_Model_pack_73 : decode M_Model_pack.2.1 73 = .ok (.iadd, 1) := by decide +kernel
theorem d_Model_pack_74 : decode M_Model_pack.2.1 74 = .ok (.istore_n 3, 1) := by decide +kernel
theorem d_Model_pack_75 : decode M_Model_pack.2.1 75 = .ok (.iconst 0, 1) := by decide +kernel
theorem d_Model_pack_76 : decode M_Model_pack.2.1 76 = .ok (.istore 4, 2) := by decide +kernel
theorem d_Model_pack_78 : decode M_Model_pack.2.1 78 = .ok (.iload 4, 2) := by decide +kernel
theorem d_Model_pack_80 : decode M_Model_pack.2.1 80 = .ok (.sipush 216, 3) := by decide +kernel
theorem d_Model_pack_83 : decode M_Model_pack.2.1 83 = .ok (.if_icmp .ge 22, 3) := by decide +kernel
theorem d_Model_pack_86 : decode M_Model_pack.2.1 86 = .ok (.aload_n 1, 1) := by decide +kernel
theorem d_Model_pack_87 : decode M_Model_pack.2.1 87 = .ok (.iload_n 3, 1) := by decide +kernel
theorem d_Model_pack_88 : decode M_Model_pack.2.1 88 = .ok (.iload 4, 2) := by decide +kernel
theorem d_Model_pack_90 : decode M_Model_pack.2.1 90 = .ok (.iadd, 1) := by decide +kernel
theorem d_Model_pack_91 : decode M_Model_pack.2.1 91 = .ok (.aload_n 0, 1) := by decide +kernel
theorem d_Model_pack_92 : decode M_Model_pack.2.1 92 = .ok (.getfield 62, 3) := by decide +kernel
theorem d_Model_pack_95 : decode M_Model_pack.2.1 95 = .ok (.iload 4, 2) := by decide +kernel
theorem d_Model_pack_97 : decode M_Model_pack.2.1 97 = .ok (.iaload, 1) := by decide +kernel
theorem d_Model_pack_98 : decode M_Model_pack.2.1 98 = .ok (.iastore, 1) := by decide +kernel
theorem d_Model_pack_99 : decode M_Model_pack.2.1 99 = .ok (.iinc 4 1, 3) := by decide +kernel
theorem d_Model_pack_102 : decode M_Model_pack.2.1 102 = .ok (.goto (-24), 3) := by decide +kernel
theorem d_Model_pack_105 : decode M_Model_pack.2.1 105 = .ok (.return_, 1) := by decide +kernel
theorem d_Model_unpack_0 : decode M_Model_unpack.2.1 0 = .ok (.aload_n 0, 1) := by decide +kernel
theorem d_Model_unpack_1 : decode M_Model_unpack.2.1 1 = .ok (.aload_n 1, 1) := by decide +kernel
theorem d_Model_unpack_2 : decode M_Model_unpack.2.1 2 = .ok (.iload_n 2, 1) := by decide +kernel
theorem d_Model_unpack_3 : decode M_Model_unpack.2.1 3 = .ok (.iaload, 1) := by decide +kernel
theorem d_Model_unpack_4 : decode M_Model_unpack.2.1 4 = .ok (.putfield 286, 3) := by decide +kernel
theorem d_Model_unpack_7 : decode M_Model_unpack.2.1 7 = .ok (.aload_n 0, 1) := by decide +kernel
theorem d_Model_unpack_8 : decode M_Model_unpack.2.1 8 = .ok (.aload_n 1, 1) := by decide +kernel
theorem d_Model_unpack_9 : decode M_Model_unpack.2.1 9 = .ok (.iload_n 2, 1) := by decide +kernel
theorem d_Model_unpack_10 : decode M_Model_unpack.2.1 10 = .ok (.iconst 1, 1) := by decide +kernel
theorem d_Model_unpack_11 : decode M_Model_unpack.2.1 11 = .ok (.iadd, 1) := by decide +kernel
theorem d_Model_unpack_12 : decode M_Model_unpack.2.1 12 = .ok (.iaload, 1) := by decide +kernel
theorem d_Model_unpack_13 : decode M_Model_unpack.2.1 13 = .ok (.putfield 289, 3) := by decide +kernel
theorem d_Model_unpack_16 : decode M_Model_unpack.2.1 16 = .ok (.aload_n 0, 1) := by decide +kernel
theorem d_Model_unpack_17 : decode M_Model_unpack.2.1 17 = .ok (.aload_n 1, 1) := by decide +kernel
theorem d_Model_unpack_18 : decode M_Model_unpack.2.1 18 = .ok (.iload_n 2, 1) := by decide +kernel
theorem d_Model_unpack_19 : decode M_Model_unpack.2.1 19 = .ok (.iconst 2, 1) := by decide +kernel
theorem d_Model_unpack_20 : decode M_Model_unpack.2.1 20 = .ok (.iadd, 1) := by decide +kernel
theorem d_Model_unpack_21 : decode M_Model_unpack.2.1 21 = .ok (.iaload, 1) := by decide +kernel
theorem d_Model_unpack_22 : decode M_Model_unpack.2.1 22 = .ok (.putfield 121, 3) := by decide +kernel
theorem d_Model_unpack_25 : decode M_Model_unpack.2.1 25 = .ok (.iconst 0, 1) := by decide +kernel
theorem d_Model_unpack_26 : decode M_Model_unpack.2.1 26 = .ok (.istore_n 3, 1) := by decide +kernel
theorem d_Model_unpack_27 : decode M_Model_unpack.2.1 27 = .ok (.iload_n 3, 1) := by decide +kernel
theorem d_Model_unpack_28 : decode M_Model_unpack.2.1 28 = .ok (.bipush 6, 2) := by decide +kernel
theorem d_Model_unpack_30 : decode M_Model_unpack.2.1 30 = .ok (.if_icmp .ge 38, 3) := by decide +kernel
theorem d_Model_unpack_33 : decode M_Model_unpack.2.1 33 = .ok (.aload_n 0, 1) := by decide +kernel
theorem d_Model_unpack_34 : decode M_Model_unpack.2.1 34 = .ok (.getfield 59, 3) := by decide +kernel
theorem d_Model_unpack_37 : decode M_Model_unpack.2.1 37 = .ok (.iload_n 3, 1) := by decide +kernel
theorem d_Model_unpack_38 : decode M_Model_unpack.2.1 38 = .ok (.aload_n 1, 1) := by decide +kernel
theorem d_Model_unpack_39 : decode M_Model_unpack.2.1 39 = .ok (.iload_n 2, 1) := by decide +kernel
theorem d_Model_unpack_40 : decode M_Model_unpack.2.1 40 = .ok (.iconst 3, 1) := by decide +kernel
theorem d_Model_unpack_41 : decode M_Model_unpack.2.1 41 = .ok (.iadd, 1) := by decide +kernel
theorem d_Model_unpack_42 : decode M_Model_unpack.2.1 42 = .ok (.iload_n 3, 1) := by decide +kernel
theorem d_Model_unpack_43 : decode M_Model_unpack.2.1 43 = .ok (.iadd, 1) := by decide +kernel
theorem d_Model_unpack_44 : decode M_Model_unpack.2.1 44 = .ok (.iaload, 1) := by decide +kernel
theorem d_Model_unpack_45 : decode M_Model_unpack.2.1 45 = .ok (.iastore, 1) := by decide +kernel
theorem d_Model_unpack_46 : decode M_Model_unpack.2.1 46 = .ok (.aload_n 0, 1) := by decide +kernel
theorem d_Model_unpack_47 : decode M_Model_unpack.2.1 47 = .ok (.getfield 78, 3) := by decide +kernel
theorem d_Model_unpack_50 : decode M_Model_unpack.2.1 50 = .ok (.iload_n 3, 1) := by decide +kernel
theorem d_Model_unpack_51 : decode M_Model_unpack.2.1 51 = .ok (.aload_n 1, 1) := by decide +kernel
theorem d_Model_unpack_52 : decode M_Model_unpack.2.1 52 = .ok (.iload_n 2, 1) := by decide +kernel
theorem d_Model_unpack_53 : decode M_Model_unpack.2.1 53 = .ok (.iconst 3, 1) := by decide +kernel
theorem d_Model_unpack_54 : decode M_Model_unpack.2.1 54 = .ok (.iadd, 1) := by decide +kernel
theorem d_Model_unpack_55 : decode M_Model_unpack.2.1 55 = .ok (.bipush 6, 2) := by decide +kernel
theorem d_Model_unpack_57 : decode M_Model_unpack.2.1 57 = .ok (.iadd, 1) := by decide +kernel
theorem d_Model_unpack_58 : decode M_Model_unpack.2.1 58 = .ok (.iload_n 3, 1) := by decide +kernel
theorem d_Model_unpack_59 : decode M_Model_unpack.2.1 59 = .ok (.iadd, 1) := by decide +kernel
theorem d_Model_unpack_60 : decode M_Model_unpack.2.1 60 = .ok (.iaload, 1) := by decide +kernel
theorem d_Model_unpack_61 : decode M_Model_unpack.2.1 61 = .ok (.iastore, 1) := by decide +kernel
theorem d_Model_unpack_62 : decode M_Model_unpack.2.1 62 = .ok (.iinc 3 1, 3) := by decide +kernel
theorem d_Model_unpack_65 : decode M_Model_unpack.2.1 65 = .ok (.goto (-38), 3) := by decide +kernel
theorem d_Model_unpack_68 : decode M_Model_unpack.2.1 68 = .ok (.iload_n 2, 1) := by decide +kernel
theorem d_Model_unpack_69 : decode M_Model_unpack.2.1 69 = .ok (.iconst 3, 1) := by decide +kernel
theorem d_Model_unpack_70 : decode M_Model_unpack.2.1 70 = .ok (.iadd, 1) := by decide +kernel
theorem d_Model_unpack_71 : decode M_Model_unpack.2.1 71 = .ok (.bipush 12, 2) := by decide +kernel
theorem d_Model_unpack_73 : decode M_Model_unpack.2.1 73 = .ok (.iadd, 1) := by decide +kernel
theorem d_Model_unpack_74 : decode M_Model_unpack.2.1 74 = .ok (.istore_n 3, 1) := by decide +kernel
theorem d_Model_unpack_75 : decode M_Model_unpack.2.1 75 = .ok (.iconst 0, 1) := by decide +kernel
theorem d_Model_unpack_76 : decode M_Model_unpack.2.1 76 = .ok (.istore 4, 2) := by decide +kernel
theorem d_Model_unpack_78 : decode M_Model_unpack.2.1 78 = .ok (.iload 4, 2) := by decide +kernel
theorem d_Model_unpack_80 : decode M_Model_unpack.2.1 80 = .ok (.sipush 216, 3) := by decide +kernel
theorem d_Model_unpack_83 : decode M_Model_unpack.2.1 83 = .ok (.if_icmp .ge 22, 3) := by decide +kernel
theorem d_Model_unpack_86 : decode M_Model_unpack.2.1 86 = .ok (.aload_n 0, 1) := by decide +kernel
theorem d_Model_unpack_87 : decode M_Model_unpack.2.1 87 = .ok (.getfield 62, 3) := by decide +kernel
theorem d_Model_unpack_90 : decode M_Model_unpack.2.1 90 = .ok (.iload 4, 2) := by decide +kernel
theorem d_Model_unpack_92 : decode M_Model_unpack.2.1 92 = .ok (.aload_n 1, 1) := by decide +kernel
theorem d_Model_unpack_93 : decode M_Model_unpack.2.1 93 = .ok (.iload_n 3, 1) := by decide +kernel
theorem d_Model_unpack_94 : decode M_Model_unpack.2.1 94 = .ok (.iload 4, 2) := by decide +kernel
theorem d_Model_unpack_96 : decode M_Model_unpack.2.1 96 = .ok (.iadd, 1) := by decide +kernel
theorem d_Model_unpack_97 : decode M_Model_unpack.2.1 97 = .ok (.iaload, 1) := by decide +kernel
theorem d_Model_unpack_98 : decode M_Model_unpack.2.1 98 = .ok (.iastore, 1) := by decide +kernel
theorem d_Model_unpack_99 : decode M_Model_unpack.2.1 99 = .ok (.iinc 4 1, 3) := by decide +kernel
theorem d_Model_unpack_102 : decode M_Model_unpack.2.1 102 = .ok (.goto (-24), 3) := by decide +kernel
theorem d_Model_unpack_105 : decode M_Model_unpack.2.1 105 = .ok (.return_, 1) := by decide +kernel
theorem d_Model_yearGoes_0 : decode M_Model_yearGoes.2.1 0 = .ok (.aload_n 0, 1) := by decide +kernel
theorem d_Model_yearGoes_1 : decode M_Model_yearGoes.2.1 1 = .ok (.dup, 1) := by decide +kernel
theorem d_Model_yearGoes_2 : decode M_Model_yearGoes.2.1 2 = .ok (.getfield 286, 3) := by decide +kernel
theorem d_Model_yearGoes_5 : decode M_Model_yearGoes.2.1 5 = .ok (.iconst 1, 1) := by decide +kernel
theorem d_Model_yearGoes_6 : decode M_Model_yearGoes.2.1 6 = .ok (.iadd, 1) := by decide +kernel
theorem d_Model_yearGoes_7 : decode M_Model_yearGoes.2.1 7 = .ok (.putfield 286, 3) := by decide +kernel
theorem d_Model_yearGoes_10 : decode M_Model_yearGoes.2.1 10 = .ok (.iconst 0, 1) := by decide +kernel
theorem d_Model_yearGoes_11 : decode M_Model_yearGoes.2.1 11 = .ok (.istore_n 1, 1) := by decide +kernel
theorem d_Model_yearGoes_12 : decode M_Model_yearGoes.2.1 12 = .ok (.iload_n 1, 1) := by decide +kernel
theorem d_Model_yearGoes_13 : decode M_Model_yearGoes.2.1 13 = .ok (.aload_n 0, 1) := by decide +kernel
theorem d_Model_yearGoes_14 : decode M_Model_yearGoes.2.1 14 = .ok (.getfield 51, 3) := by decide +kernel
theorem d_Model_yearGoes_17 : decode M_Model_yearGoes.2.1 17 = .ok (.iconst 0, 1) := by decide +kernel
theorem d_Model_yearGoes_18 : decode M_Model_yearGoes.2.1 18 = .ok (.iaload, 1) := by decide +kernel
theorem d_Model_yearGoes_19 : decode M_Model_yearGoes.2.1 19 = .ok (.if_icmp .ge 52, 3) := by decide +kernel
theorem d_Model_yearGoes_22 : decode M_Model_yearGoes.2.1 22 = .ok (.aload_n 0, 1) := by decide +kernel
theorem d_Model_yearGoes_23 : decode M_Model_yearGoes.2.1 23 = .ok (.getfield 289, 3) := by decide +kernel
theorem d_Model_yearGoes_26 : decode M_Model_yearGoes.2.1 26 = .ok (.iload_n 1, 1) := by decide +kernel
theorem d_Model_yearGoes_27 : decode M_Model_yearGoes.2.1 27 = .ok (.invokestatic 308, 3) := by decide +kernel
theorem d_Model_yearGoes_30 : decode M_Model_yearGoes.2.1 30 = .ok (.ifCond .ne 35, 3) := by decide +kernel
theorem d_Model_yearGoes_33 : decode M_Model_yearGoes.2.1 33 = .ok (.aload_n 0, 1) := by decide +kernel
theorem d_Model_yearGoes_34 : decode M_Model_yearGoes.2.1 34 = .ok (.getfield 59, 3) := by decide +kernel
theorem d_Model_yearGoes_37 : decode M_Model_yearGoes.2.1 37 = .ok (.iload_n 1, 1) := by decide +kernel
theorem d_Model_yearGoes_38 : decode M_Model_yearGoes.2.1 38 = .ok (.aload_n 0, 1) := by decide +kernel
theorem d_Model_yearGoes_39 : decode M_Model_yearGoes.2.1 39 = .ok (.getfield 59, 3) := by decide +kernel
theorem d_Model_yearGoes_42 : decode M_Model_yearGoes.2.1 42 = .ok (.iload_n 1, 1) := by decide +kernel
theorem d_Model_yearGoes_43 : decode M_Model_yearGoes.2.1 43 = .ok (.iaload, 1) := by decide +kernel
theorem d_Model_yearGoes_44 : decode M_Model_yearGoes.2.1 44 = .ok (.iconst 1, 1) := by decide +kernel
theorem d_Model_yearGoes_45 : decode M_Model_yearGoes.2.1 45 = .ok (.iadd, 1) := by decide +kernel
theorem d_Model_yearGoes_46 : decode M_Model_yearGoes.2.1 46 = .ok (.aload_n 0, 1) := by decide +kernel
theorem d_Model_yearGoes_47 : decode M_Model_yearGoes.2.1 47 = .ok (.getfield 55, 3) := by decide +kernel
theorem d_Model_yearGoes_50 : decode M_Model_yearGoes.2.1 50 = .ok (.iload_n 1, 1) := by decide +kernel
theorem d_Model_yearGoes_51 : decode M_Model_yearGoes.2.1 51 = .ok (.iaload, 1) := by decide +kernel
theorem d_Model_yearGoes_52 : decode M_Model_yearGoes.2.1 52 = .ok (.aload_n 0, 1) := by decide +kernel
theorem d_Model_yearGoes_53 : decode M_Model_yearGoes.2.1 53 = .ok (.getfield 51, 3) := by decide +kernel
theorem d_Model_yearGoes_56 : decode M_Model_yearGoes.2.1 56 = .ok (.iconst 1, 1) := by decide +kernel
theorem d_Model_yearGoes_57 : decode M_Model_yearGoes.2.1 57 = .ok (.iaload, 1) := by decide +kernel
theorem d_Model_yearGoes_58 : decode M_Model_yearGoes.2.1 58 = .ok (.invokestatic 239, 3) := by decide +kernel
theorem d_Model_yearGoes_61 : decode M_Model_yearGoes.2.1 61 = .ok (.invokestatic 156, 3) := by decide +kernel
theorem d_Model_yearGoes_64 : decode M_Model_yearGoes.2.1 64 = .ok (.iastore, 1) := by decide +kernel
theorem d_Model_yearGoes_65 : decode M_Model_yearGoes.2.1 65 = .ok (.iinc 1 1, 3) := by decide +kernel
theorem d_Model_yearGoes_68 : decode M_Model_yearGoes.2.1 68 = .ok (.goto (-56), 3) := by decide +kernel
theorem d_Model_yearGoes_71 : decode M_Model_yearGoes.2.1 71 = .ok (.aload_n 0, 1) := by decide +kernel
theorem d_Model_yearGoes_72 : decode M_Model_yearGoes.2.1 72 = .ok (.invokevirtual 292, 3) := by decide +kernel
theorem d_Model_yearGoes_75 : decode M_Model_yearGoes.2.1 75 = .ok (.pop, 1) := by decide +kernel
theorem d_Model_yearGoes_76 : decode M_Model_yearGoes.2.1 76 = .ok (.return_, 1) := by decide +kernel
theorem d_Model_mothsEat_0 : decode M_Model_mothsEat.2.1 0 = .ok (.iconst 0, 1) := by decide +kernel
theorem d_Model_mothsEat_1 : decode M_Model_mothsEat.2.1 1 = .ok (.istore 4, 2) := by decide +kernel
theorem d_Model_mothsEat_3 : decode M_Model_mothsEat.2.1 3 = .ok (.iconst 0, 1) := by decide +kernel
theorem d_Model_mothsEat_4 : decode M_Model_mothsEat.2.1 4 = .ok (.istore 5, 2) := by decide +kernel
theorem d_Model_mothsEat_6 : decode M_Model_mothsEat.2.1 6 = .ok (.iload 5, 2) := by decide +kernel
theorem d_Model_mothsEat_8 : decode M_Model_mothsEat.2.1 8 = .ok (.aload_n 0, 1) := by decide +kernel
theorem d_Model_mothsEat_9 : decode M_Model_mothsEat.2.1 9 = .ok (.getfield 121, 3) := by decide +kernel
theorem d_Model_mothsEat_12 : decode M_Model_mothsEat.2.1 12 = .ok (.if_icmp .ge 83, 3) := by decide +kernel
theorem d_Model_mothsEat_15 : decode M_Model_mothsEat.2.1 15 = .ok (.aload_n 0, 1) := by decide +kernel
theorem d_Model_mothsEat_16 : decode M_Model_mothsEat.2.1 16 = .ok (.iload 5, 2) := by decide +kernel
theorem d_Model_mothsEat_18 : decode M_Model_mothsEat.2.1 18 = .ok (.invokevirtual 315, 3) := by decide +kernel
theorem d_Model_mothsEat_21 : decode M_Model_mothsEat.2.1 21 = .ok (.ifCond .eq 68, 3) := by decide +kernel
theorem d_Model_mothsEat_24 : decode M_Model_mothsEat.2.1 24 = .ok (.aload_n 0, 1) := by decide +kernel
theorem d_Model_mothsEat_25 : decode M_Model_mothsEat.2.1 25 = .ok (.iload 5, 2) := by decide +kernel
theorem d_Model_mothsEat_27 : decode M_Model_mothsEat.2.1 27 = .ok (.iconst 1, 1) := by decide +kernel
theorem d_Model_mothsEat_28 : decode M_Model_mothsEat.2.1 28 = .ok (.invokevirtual 305, 3) := by decide +kernel
theorem d_Model_mothsEat_31 : decode M_Model_mothsEat.2.1 31 = .ok (.iload_n 1, 1) := by decide +kernel
theorem d_Model_mothsEat_32 : decode M_Model_mothsEat.2.1 32 = .ok (.if_icmp .ne 57, 3) := by decide +kernel
theorem d_Model_mothsEat_35 : decode M_Model_mothsEat.2.1 35 = .ok (.aload_n 0, 1) := by decide +kernel
theorem d_Model_mothsEat_36 : decode M_Model_mothsEat.2.1 36 = .ok (.getfield 55, 3) := by decide +kernel
theorem d_Model_mothsEat_39 : decode M_Model_mothsEat.2.1 39 = .ok (.iload_n 1, 1) := by decide +kernel
theorem d_Model_mothsEat_40 : decode M_Model_mothsEat.2.1 40 = .ok (.iaload, 1) := by decide +kernel
theorem d_Model_mothsEat_41 : decode M_Model_mothsEat.2.1 41 = .ok (.iconst 3, 1) := by decide +kernel
theorem d_Model_mothsEat_42 : decode M_Model_mothsEat.2.1 42 = .ok (.if_icmp .eq 47, 3) := by decide +kernel
theorem d_Model_mothsEat_45 : decode M_Model_mothsEat.2.1 45 = .ok (.aload_n 0, 1) := by decide +kernel
theorem d_Model_mothsEat_46 : decode M_Model_mothsEat.2.1 46 = .ok (.iload 5, 2) := by decide +kernel
theorem d_Model_mothsEat_48 : decode M_Model_mothsEat.2.1 48 = .ok (.bipush 6, 2) := by decide +kernel
theorem d_Model_mothsEat_50 : decode M_Model_mothsEat.2.1 50 = .ok (.invokevirtual 305, 3) := by decide +kernel
theorem d_Model_mothsEat_53 : decode M_Model_mothsEat.2.1 53 = .ok (.iconst 1, 1) := by decide +kernel
theorem d_Model_mothsEat_54 : decode M_Model_mothsEat.2.1 54 = .ok (.if_icmp .eq 35, 3) := by decide +kernel
theorem d_Model_mothsEat_57 : decode M_Model_mothsEat.2.1 57 = .ok (.aload_n 0, 1) := by decide +kernel
theorem d_Model_mothsEat_58 : decode M_Model_mothsEat.2.1 58 = .ok (.iload 5, 2) := by decide +kernel
theorem d_Model_mothsEat_60 : decode M_Model_mothsEat.2.1 60 = .ok (.invokevirtual 318, 3) := by decide +kernel
theorem d_Model_mothsEat_63 : decode M_Model_mothsEat.2.1 63 = .ok (.iload_n 2, 1) := by decide +kernel
theorem d_Model_mothsEat_64 : decode M_Model_mothsEat.2.1 64 = .ok (.if_icmp .lt 25, 3) := by decide +kernel
theorem d_Model_mothsEat_67 : decode M_Model_mothsEat.2.1 67 = .ok (.aload_n 0, 1) := by decide +kernel
theorem d_Model_mothsEat_68 : decode M_Model_mothsEat.2.1 68 = .ok (.iload 5, 2) := by decide +kernel
theorem d_Model_mothsEat_70 : decode M_Model_mothsEat.2.1 70 = .ok (.invokevirtual 318, 3) := by decide +kernel
theorem d_Model_mothsEat_73 : decode M_Model_mothsEat.2.1 73 = .ok (.iload_n 3, 1) := by decide +kernel
theorem d_Model_mothsEat_74 : decode M_Model_mothsEat.2.1 74 = .ok (.if_icmp .le 6, 3) := by decide +kernel
theorem d_Model_mothsEat_77 : decode M_Model_mothsEat.2.1 77 = .ok (.goto 12, 3) := by decide +kernel
theorem d_Model_mothsEat_80 : decode M_Model_mothsEat.2.1 80 = .ok (.aload_n 0, 1) := by decide +kernel
theorem d_Model_mothsEat_81 : decode M_Model_mothsEat.2.1 81 = .ok (.iload 5, 2) := by decide +kernel
theorem d_Model_mothsEat_83 : decode M_Model_mothsEat.2.1 83 = .ok (.invokevirtual 320, 3) := by decide +kernel
theorem d_Model_mothsEat_86 : decode M_Model_mothsEat.2.1 86 = .ok (.iinc 4 1, 3) := by decide +kernel
theorem d_Model_mothsEat_89 : decode M_Model_mothsEat.2.1 89 = .ok (.iinc 5 1, 3) := by decide +kernel
theorem d_Model_mothsEat_92 : decode M_Model_mothsEat.2.1 92 = .ok (.goto (-86), 3) := by decide +kernel
theorem d_Model_mothsEat_95 : decode M_Model_mothsEat.2.1 95 = .ok (.iload 4, 2) := by decide +kernel
theorem d_Model_mothsEat_97 : decode M_Model_mothsEat.2.1 97 = .ok (.ireturn, 1) := by decide +kernel
theorem d_Model_holdersOf_0 : decode M_Model_holdersOf.2.1 0 = .ok (.iconst 0, 1) := by decide +kernel
theorem d_Model_holdersOf_1 : decode M_Model_holdersOf.2.1 1 = .ok (.istore_n 2, 1) := by decide +kernel
theorem d_Model_holdersOf_2 : decode M_Model_holdersOf.2.1 2 = .ok (.iconst 0, 1) := by decide +kernel
theorem d_Model_holdersOf_3 : decode M_Model_holdersOf.2.1 3 = .ok (.istore_n 3, 1) := by decide +kernel
theorem d_Model_holdersOf_4 : decode M_Model_holdersOf.2.1 4 = .ok (.iload_n 3, 1) := by decide +kernel
theorem d_Model_holdersOf_5 : decode M_Model_holdersOf.2.1 5 = .ok (.aload_n 0, 1) := by decide +kernel
theorem d_Model_holdersOf_6 : decode M_Model_holdersOf.2.1 6 = .ok (.getfield 121, 3) := by decide +kernel
theorem d_Model_holdersOf_9 : decode M_Model_holdersOf.2.1 9 = .ok (.if_icmp .ge 39, 3) := by decide +kernel
theorem d_Model_holdersOf_12 : decode M_Model_holdersOf.2.1 12 = .ok (.aload_n 0, 1) := by decide +kernel
theorem d_Model_holdersOf_13 : decode M_Model_holdersOf.2.1 13 = .ok (.iload_n 3, 1) := by decide +kernel
theorem d_Model_holdersOf_14 : decode M_Model_holdersOf.2.1 14 = .ok (.invokevirtual 315, 3) := by decide +kernel
theorem d_Model_holdersOf_17 : decode M_Model_holdersOf.2.1 17 = .ok (.ifCond .eq 25, 3) := by decide +kernel
theorem d_Model_holdersOf_20 : decode M_Model_holdersOf.2.1 20 = .ok (.aload_n 0, 1) := by decide +kernel
theorem d_Model_holdersOf_21 : decode M_Model_holdersOf.2.1 21 = .ok (.iload_n 3, 1) := by decide +kernel
theorem d_Model_holdersOf_22 : decode M_Model_holdersOf.2.1 22 = .ok (.bipush 7, 2) := by decide +kernel
theorem d_Model_holdersOf_24 : decode M_Model_holdersOf.2.1 24 = .ok (.invokevirtual 305, 3) := by decide +kernel
theorem d_Model_holdersOf_27 : decode M_Model_holdersOf.2.1 27 = .ok (.iload_n 1, 1) := by decide +kernel
theorem d_Model_holdersOf_28 : decode M_Model_holdersOf.2.1 28 = .ok (.if_icmp .ne 14, 3) := by decide +kernel
theorem d_Model_holdersOf_31 : decode M_Model_holdersOf.2.1 31 = .ok (.iload_n 2, 1) := by decide +kernel
theorem d_Model_holdersOf_32 : decode M_Model_holdersOf.2.1 32 = .ok (.iconst 1, 1) := by decide +kernel
theorem d_Model_holdersOf_33 : decode M_Model_holdersOf.2.1 33 = .ok (.aload_n 0, 1) := by decide +kernel
theorem d_Model_holdersOf_34 : decode M_Model_holdersOf.2.1 34 = .ok (.iload_n 3, 1) := by decide +kernel
theorem d_Model_holdersOf_35 : decode M_Model_holdersOf.2.1 35 = .ok (.iconst 1, 1) := by decide +kernel
theorem d_Model_holdersOf_36 : decode M_Model_holdersOf.2.1 36 = .ok (.invokevirtual 305, 3) := by decide +kernel
theorem d_Model_holdersOf_39 : decode M_Model_holdersOf.2.1 39 = .ok (.ishl, 1) := by decide +kernel
theorem d_Model_holdersOf_40 : decode M_Model_holdersOf.2.1 40 = .ok (.ior, 1) := by decide +kernel
theorem d_Model_holdersOf_41 : decode M_Model_holdersOf.2.1 41 = .ok (.istore_n 2, 1) := by decide +kernel
theorem d_Model_holdersOf_42 : decode M_Model_holdersOf.2.1 42 = .ok (.iinc 3 1, 3) := by decide +kernel
theorem d_Model_holdersOf_45 : decode M_Model_holdersOf.2.1 45 = .ok (.goto (-41), 3) := by decide +kernel
theorem d_Model_holdersOf_48 : decode M_Model_holdersOf.2.1 48 = .ok (.iload_n 2, 1) := by decide +kernel
theorem d_Model_holdersOf_49 : decode M_Model_holdersOf.2.1 49 = .ok (.ireturn, 1) := by decide +kernel
theorem d_Model_records_0 : decode M_Model_records.2.1 0 = .ok (.iconst 0, 1) := by decide +kernel
theorem d_Model_records_1 : decode M_Model_records.2.1 1 = .ok (.istore_n 1, 1) := by decide +kernel
theorem d_Model_records_2 : decode M_Model_records.2.1 2 = .ok (.iconst 0, 1) := by decide +kernel
theorem d_Model_records_3 : decode M_Model_records.2.1 3 = .ok (.istore_n 2, 1) := by decide +kernel
theorem d_Model_records_4 : decode M_Model_records.2.1 4 = .ok (.iload_n 2, 1) := by decide +kernel
theorem d_Model_records_5 : decode M_Model_records.2.1 5 = .ok (.aload_n 0, 1) := by decide +kernel
theorem d_Model_records_6 : decode M_Model_records.2.1 6 = .ok (.getfield 121, 3) := by decide +kernel
theorem d_Model_records_9 : decode M_Model_records.2.1 9 = .ok (.if_icmp .ge 29, 3) := by decide +kernel
theorem d_Model_records_12 : decode M_Model_records.2.1 12 = .ok (.aload_n 0, 1) := by decide +kernel
theorem d_Model_records_13 : decode M_Model_records.2.1 13 = .ok (.iload_n 2, 1) := by decide +kernel
theorem d_Model_records_14 : decode M_Model_records.2.1 14 = .ok (.invokevirtual 315, 3) := by decide +kernel
theorem d_Model_records_17 : decode M_Model_records.2.1 17 = .ok (.ifCond .eq 15, 3) := by decide +kernel
theorem d_Model_records_20 : decode M_Model_records.2.1 20 = .ok (.iload_n 1, 1) := by decide +kernel
theorem d_Model_records_21 : decode M_Model_records.2.1 21 = .ok (.iconst 1, 1) := by decide +kernel
theorem d_Model_records_22 : decode M_Model_records.2.1 22 = .ok (.aload_n 0, 1) := by decide +kernel
theorem d_Model_records_23 : decode M_Model_records.2.1 23 = .ok (.iload_n 2, 1) := by decide +kernel
theorem d_Model_records_24 : decode M_Model_records.2.1 24 = .ok (.bipush 7, 2) := by decide +kernel
theorem d_Model_records_26 : decode M_Model_records.2.1 26 = .ok (.invokevirtual 305, 3) := by decide +kernel
theorem d_Model_records_29 : decode M_Model_records.2.1 29 = .ok (.ishl, 1) := by decide +kernel
theorem d_Model_records_30 : decode M_Model_records.2.1 30 = .ok (.ior, 1) := by decide +kernel
theorem d_Model_records_31 : decode M_Model_records.2.1 31 = .ok (.istore_n 1, 1) := by decide +kernel
theorem d_Model_records_32 : decode M_Model_records.2.1 32 = .ok (.iinc 2 1, 3) := by decide +kernel
theorem d_Model_records_35 : decode M_Model_records.2.1 35 = .ok (.goto (-31), 3) := by decide +kernel
theorem d_Model_records_38 : decode M_Model_records.2.1 38 = .ok (.iload_n 1, 1) := by decide +kernel
theorem d_Model_records_39 : decode M_Model_records.2.1 39 = .ok (.ireturn, 1) := by decide +kernel
theorem d_Model_bitsOf_0 : decode M_Model_bitsOf.2.1 0 = .ok (.iconst 0, 1) := by decide +kernel
theorem d_Model_bitsOf_1 : decode M_Model_bitsOf.2.1 1 = .ok (.istore_n 1, 1) := by decide +kernel
theorem d_Model_bitsOf_2 : decode M_Model_bitsOf.2.1 2 = .ok (.iload_n 0, 1) := by decide +kernel
theorem d_Model_bitsOf_3 : decode M_Model_bitsOf.2.1 3 = .ok (.istore_n 2, 1) := by decide +kernel
theorem d_Model_bitsOf_4 : decode M_Model_bitsOf.2.1 4 = .ok (.iload_n 2, 1) := by decide +kernel
theorem d_Model_bitsOf_5 : decode M_Model_bitsOf.2.1 5 = .ok (.ifCond .eq 15, 3) := by decide +kernel
theorem d_Model_bitsOf_8 : decode M_Model_bitsOf.2.1 8 = .ok (.iinc 1 1, 3) := by decide +kernel
theorem d_Model_bitsOf_11 : decode M_Model_bitsOf.2.1 11 = .ok (.iload_n 2, 1) := by decide +kernel
theorem d_Model_bitsOf_12 : decode M_Model_bitsOf.2.1 12 = .ok (.iload_n 2, 1) := by decide +kernel
theorem d_Model_bitsOf_13 : decode M_Model_bitsOf.2.1 13 = .ok (.iconst 1, 1) := by decide +kernel
theorem d_Model_bitsOf_14 : decode M_Model_bitsOf.2.1 14 = .ok (.isub, 1) := by decide +kernel
theorem d_Model_bitsOf_15 : decode M_Model_bitsOf.2.1 15 = .ok (.iand, 1) := by decide +kernel
theorem d_Model_bitsOf_16 : decode M_Model_bitsOf.2.1 16 = .ok (.istore_n 2, 1) := by decide +kernel
theorem d_Model_bitsOf_17 : decode M_Model_bitsOf.2.1 17 = .ok (.goto (-13), 3) := by decide +kernel
theorem d_Model_bitsOf_20 : decode M_Model_bitsOf.2.1 20 = .ok (.iload_n 1, 1) := by decide +kernel
theorem d_Model_bitsOf_21 : decode M_Model_bitsOf.2.1 21 = .ok (.ireturn, 1) := by decide +kernel
theorem d_Model_ageOf_0 : decode M_Model_ageOf.2.1 0 = .ok (.aload_n 0, 1) := by decide +kernel
theorem d_Model_ageOf_1 : decode M_Model_ageOf.2.1 1 = .ok (.getfield 57, 3) := by decide +kernel
theorem d_Model_ageOf_4 : decode M_Model_ageOf.2.1 4 = .ok (.iload_n 1, 1) := by decide +kernel
theorem d_Model_ageOf_5 : decode M_Model_ageOf.2.1 5 = .ok (.iaload, 1) := by decide +kernel
theorem d_Model_ageOf_6 : decode M_Model_ageOf.2.1 6 = .ok (.aload_n 0, 1) := by decide +kernel
theorem d_Model_ageOf_7 : decode M_Model_ageOf.2.1 7 = .ok (.iload_n 1, 1) := by decide +kernel
theorem d_Model_ageOf_8 : decode M_Model_ageOf.2.1 8 = .ok (.invokevirtual 312, 3) := by decide +kernel
theorem d_Model_ageOf_11 : decode M_Model_ageOf.2.1 11 = .ok (.iadd, 1) := by decide +kernel
theorem d_Model_ageOf_12 : decode M_Model_ageOf.2.1 12 = .ok (.ireturn, 1) := by decide +kernel
theorem d_Model_isGrey_0 : decode M_Model_isGrey.2.1 0 = .ok (.aload_n 0, 1) := by decide +kernel
theorem d_Model_isGrey_1 : decode M_Model_isGrey.2.1 1 = .ok (.iload_n 1, 1) := by decide +kernel
theorem d_Model_isGrey_2 : decode M_Model_isGrey.2.1 2 = .ok (.invokevirtual 323, 3) := by decide +kernel
theorem d_Model_isGrey_5 : decode M_Model_isGrey.2.1 5 = .ok (.aload_n 0, 1) := by decide +kernel
theorem d_Model_isGrey_6 : decode M_Model_isGrey.2.1 6 = .ok (.getfield 51, 3) := by decide +kernel
theorem d_Model_isGrey_9 : decode M_Model_isGrey.2.1 9 = .ok (.iconst 2, 1) := by decide +kernel
theorem d_Model_isGrey_10 : decode M_Model_isGrey.2.1 10 = .ok (.iaload, 1) := by decide +kernel
theorem d_Model_isGrey_11 : decode M_Model_isGrey.2.1 11 = .ok (.if_icmp .lt 7, 3) := by decide +kernel
theorem d_Model_isGrey_14 : decode M_Model_isGrey.2.1 14 = .ok (.iconst 1, 1) := by decide +kernel
theorem d_Model_isGrey_15 : decode M_Model_isGrey.2.1 15 = .ok (.goto 4, 3) := by decide +kernel
theorem d_Model_isGrey_18 : decode M_Model_isGrey.2.1 18 = .ok (.iconst 0, 1) := by decide +kernel
theorem d_Model_isGrey_19 : decode M_Model_isGrey.2.1 19 = .ok (.ireturn, 1) := by decide +kernel
theorem d_Model_thereMany_0 : decode M_Model_thereMany.2.1 0 = .ok (.iconst 0, 1) := by decide +kernel
theorem d_Model_thereMany_1 : decode M_Model_thereMany.2.1 1 = .ok (.istore_n 1, 1) := by decide +kernel
theorem d_Model_thereMany_2 : decode M_Model_thereMany.2.1 2 = .ok (.iconst 0, 1) := by decide +kernel
theorem d_Model_thereMany_3 : decode M_Model_thereMany.2.1 3 = .ok (.istore_n 2, 1) := by decide +kernel
theorem d_Model_thereMany_4 : decode M_Model_thereMany.2.1 4 = .ok (.iload_n 2, 1) := by decide +kernel
theorem d_Model_thereMany_5 : decode M_Model_thereMany.2.1 5 = .ok (.aload_n 0, 1) := by decide +kernel
theorem d_Model_thereMany_6 : decode M_Model_thereMany.2.1 6 = .ok (.getfield 121, 3) := by decide +kernel
theorem d_Model_thereMany_9 : decode M_Model_thereMany.2.1 9 = .ok (.if_icmp .ge 25, 3) := by decide +kernel
theorem d_Model_thereMany_12 : decode M_Model_thereMany.2.1 12 = .ok (.iload_n 1, 1) := by decide +kernel
theorem d_Model_thereMany_13 : decode M_Model_thereMany.2.1 13 = .ok (.aload_n 0, 1) := by decide +kernel
theorem d_Model_thereMany_14 : decode M_Model_thereMany.2.1 14 = .ok (.iload_n 2, 1) := by decide +kernel
theorem d_Model_thereMany_15 : decode M_Model_thereMany.2.1 15 = .ok (.invokevirtual 315, 3) := by decide +kernel
theorem d_Model_thereMany_18 : decode M_Model_thereMany.2.1 18 = .ok (.ifCond .eq 7, 3) := by decide +kernel
theorem d_Model_thereMany_21 : decode M_Model_thereMany.2.1 21 = .ok (.iconst 1, 1) := by decide +kernel
theorem d_Model_thereMany_22 : decode M_Model_thereMany.2.1 22 = .ok (.goto 4, 3) := by decide +kernel
theorem d_Model_thereMany_25 : decode M_Model_thereMany.2.1 25 = .ok (.iconst 0, 1) := by decide +kernel
theorem d_Model_thereMany_26 : decode M_Model_thereMany.2.1 26 = .ok (.iadd, 1) := by decide +kernel
theorem d_Model_thereMany_27 : decode M_Model_thereMany.2.1 27 = .ok (.istore_n 1, 1) := by decide +kernel
theorem d_Model_thereMany_28 : decode M_Model_thereMany.2.1 28 = .ok (.iinc 2 1, 3) := by decide +kernel
theorem d_Model_thereMany_31 : decode M_Model_thereMany.2.1 31 = .ok (.goto (-27), 3) := by decide +kernel
theorem d_Model_thereMany_34 : decode M_Model_thereMany.2.1 34 = .ok (.iload_n 1, 1) := by decide +kernel
theorem d_Model_thereMany_35 : decode M_Model_thereMany.2.1 35 = .ok (.ireturn, 1) := by decide +kernel
theorem d_Model_count_0 : decode M_Model_count.2.1 0 = .ok (.aload_n 0, 1) := by decide +kernel
theorem d_Model_count_1 : decode M_Model_count.2.1 1 = .ok (.iconst 0, 1) := by decide +kernel
theorem d_Model_count_2 : decode M_Model_count.2.1 2 = .ok (.putfield 114, 3) := by decide +kernel
theorem d_Model_count_5 : decode M_Model_count.2.1 5 = .ok (.iload_n 1, 1) := by decide +kernel
theorem d_Model_count_6 : decode M_Model_count.2.1 6 = .ok (.tableswitch 144 0 14 #[74, 91, 74, 74, 74, 96, 101, 106, 114, 119, 124, 129, 134, 134, 134], 74) := by decide +kernel
theorem d_Model_count_80 : decode M_Model_count.2.1 80 = .ok (.aload_n 0, 1) := by decide +kernel
theorem d_Model_count_81 : decode M_Model_count.2.1 81 = .ok (.getfield 51, 3) := by decide +kernel
theorem d_Model_count_84 : decode M_Model_count.2.1 84 = .ok (.iload_n 1, 1) := by decide +kernel
theorem d_Model_count_85 : decode M_Model_count.2.1 85 = .ok (.ifCond .ne 7, 3) := by decide +kernel
theorem d_Model_count_88 : decode M_Model_count.2.1 88 = .ok (.iconst 0, 1) := by decide +kernel
theorem d_Model_count_89 : decode M_Model_count.2.1 89 = .ok (.goto 6, 3) := by decide +kernel
theorem d_Model_count_92 : decode M_Model_count.2.1 92 = .ok (.iload_n 1, 1) := by decide +kernel
theorem d_Model_count_93 : decode M_Model_count.2.1 93 = .ok (.iconst 1, 1) := by decide +kernel
theorem d_Model_count_94 : decode M_Model_count.2.1 94 = .ok (.isub, 1) := by decide +kernel
theorem d_Model_count_95 : decode M_Model_count.2.1 95 = .ok (.iaload, 1) := by decide +kernel
theorem d_Model_count_96 : decode M_Model_count.2.1 96 = .ok (.ireturn, 1) := by decide +kernel
theorem d_Model_count_97 : decode M_Model_count.2.1 97 = .ok (.aload_n 0, 1) := by decide +kernel
theorem d_Model_count_98 : decode M_Model_count.2.1 98 = .ok (.getfield 121, 3) := by decide +kernel
theorem d_Model_count_101 : decode M_Model_count.2.1 101 = .ok (.ireturn, 1) := by decide +kernel
theorem d_Model_count_102 : decode M_Model_count.2.1 102 = .ok (.aload_n 0, 1) := by decide +kernel
theorem d_Model_count_103 : decode M_Model_count.2.1 103 = .ok (.getfield 286, 3) := by decide +kernel
theorem d_Model_count_106 : decode M_Model_count.2.1 106 = .ok (.ireturn, 1) := by decide +kernel
theorem d_Model_count_107 : decode M_Model_count.2.1 107 = .ok (.aload_n 0, 1) := by decide +kernel
theorem d_Model_count_108 : decode M_Model_count.2.1 108 = .ok (.invokevirtual 326, 3) := by decide +kernel
theorem d_Model_count_111 : decode M_Model_count.2.1 111 = .ok (.ireturn, 1) := by decide +kernel
theorem d_Model_count_112 : decode M_Model_count.2.1 112 = .ok (.aload_n 0, 1) := by decide +kernel
theorem d_Model_count_113 : decode M_Model_count.2.1 113 = .ok (.invokevirtual 329, 3) := by decide +kernel
theorem d_Model_count_116 : decode M_Model_count.2.1 116 = .ok (.invokestatic 332, 3) := by decide +kernel
theorem d_Model_count_119 : decode M_Model_count.2.1 119 = .ok (.ireturn, 1) := by decide +kernel
theorem d_Model_count_120 : decode M_Model_count.2.1 120 = .ok (.aload_n 0, 1) := by decide +kernel
theorem d_Model_count_121 : decode M_Model_count.2.1 121 = .ok (.getfield 289, 3) := by decide +kernel
theorem d_Model_count_124 : decode M_Model_count.2.1 124 = .ok (.ireturn, 1) := by decide +kernel
theorem d_Model_count_125 : decode M_Model_count.2.1 125 = .ok (.aload_n 0, 1) := by decide +kernel
theorem d_Model_count_126 : decode M_Model_count.2.1 126 = .ok (.getfield 295, 3) := by decide +kernel
theorem d_Model_count_129 : decode M_Model_count.2.1 129 = .ok (.ireturn, 1) := by decide +kernel
theorem d_Model_count_130 : decode M_Model_count.2.1 130 = .ok (.aload_n 0, 1) := by decide +kernel
theorem d_Model_count_131 : decode M_Model_count.2.1 131 = .ok (.getfield 298, 3) := by decide +kernel
theorem d_Model_count_134 : decode M_Model_count.2.1 134 = .ok (.ireturn, 1) := by decide +kernel
theorem d_Model_count_135 : decode M_Model_count.2.1 135 = .ok (.aload_n 0, 1) := by decide +kernel
theorem d_Model_count_136 : decode M_Model_count.2.1 136 = .ok (.getfield 126, 3) := by decide +kernel
theorem d_Model_count_139 : decode M_Model_count.2.1 139 = .ok (.ireturn, 1) := by decide +kernel
theorem d_Model_count_140 : decode M_Model_count.2.1 140 = .ok (.aload_n 0, 1) := by decide +kernel
theorem d_Model_count_141 : decode M_Model_count.2.1 141 = .ok (.getfield 68, 3) := by decide +kernel
theorem d_Model_count_144 : decode M_Model_count.2.1 144 = .ok (.iload_n 1, 1) := by decide +kernel
theorem d_Model_count_145 : decode M_Model_count.2.1 145 = .ok (.bipush 12, 2) := by decide +kernel
theorem d_Model_count_147 : decode M_Model_count.2.1 147 = .ok (.isub, 1) := by decide +kernel
theorem d_Model_count_148 : decode M_Model_count.2.1 148 = .ok (.iaload, 1) := by decide +kernel
theorem d_Model_count_149 : decode M_Model_count.2.1 149 = .ok (.ireturn, 1) := by decide +kernel
theorem d_Model_count_150 : decode M_Model_count.2.1 150 = .ok (.aload_n 0, 1) := by decide +kernel
theorem d_Model_count_151 : decode M_Model_count.2.1 151 = .ok (.iconst 1, 1) := by decide +kernel
theorem d_Model_count_152 : decode M_Model_count.2.1 152 = .ok (.invokevirtual 273, 3) := by decide +kernel
theorem d_Model_count_155 : decode M_Model_count.2.1 155 = .ok (.ireturn, 1) := by decide +kernel
theorem d_Model_monk_0 : decode M_Model_monk.2.1 0 = .ok (.aload_n 0, 1) := by decide +kernel
theorem d_Model_monk_1 : decode M_Model_monk.2.1 1 = .ok (.iconst 0, 1) := by decide +kernel
theorem d_Model_monk_2 : decode M_Model_monk.2.1 2 = .ok (.putfield 114, 3) := by decide +kernel
theorem d_Model_monk_5 : decode M_Model_monk.2.1 5 = .ok (.aload_n 0, 1) := by decide +kernel
theorem d_Model_monk_6 : decode M_Model_monk.2.1 6 = .ok (.iload_n 1, 1) := by decide +kernel
theorem d_Model_monk_7 : decode M_Model_monk.2.1 7 = .ok (.invokevirtual 335, 3) := by decide +kernel
theorem d_Model_monk_10 : decode M_Model_monk.2.1 10 = .ok (.ifCond .ne 9, 3) := by decide +kernel
theorem d_Model_monk_13 : decode M_Model_monk.2.1 13 = .ok (.aload_n 0, 1) := by decide +kernel
theorem d_Model_monk_14 : decode M_Model_monk.2.1 14 = .ok (.iconst 1, 1) := by decide +kernel
theorem d_Model_monk_15 : decode M_Model_monk.2.1 15 = .ok (.invokevirtual 273, 3) := by decide +kernel
theorem d_Model_monk_18 : decode M_Model_monk.2.1 18 = .ok (.ireturn, 1) := by decide +kernel
theorem d_Model_monk_19 : decode M_Model_monk.2.1 19 = .ok (.iload_n 2, 1) := by decide +kernel
theorem d_Model_monk_20 : decode M_Model_monk.2.1 20 = .ok (.tableswitch 140 0 5 #[40, 47, 53, 60, 76, 90], 40) := by decide +kernel
theorem d_Model_monk_60 : decode M_Model_monk.2.1 60 = .ok (.aload_n 0, 1) := by decide +kernel
theorem d_Model_monk_61 : decode M_Model_monk.2.1 61 = .ok (.getfield 55, 3) := by decide +kernel
theorem d_Model_monk_64 : decode M_Model_monk.2.1 64 = .ok (.iload_n 1, 1) := by decide +kernel
theorem d_Model_monk_65 : decode M_Model_monk.2.1 65 = .ok (.iaload, 1) := by decide +kernel
theorem d_Model_monk_66 : decode M_Model_monk.2.1 66 = .ok (.ireturn, 1) := by decide +kernel
theorem d_Model_monk_67 : decode M_Model_monk.2.1 67 = .ok (.aload_n 0, 1) := by decide +kernel
theorem d_Model_monk_68 : decode M_Model_monk.2.1 68 = .ok (.iload_n 1, 1) := by decide +kernel
theorem d_Model_monk_69 : decode M_Model_monk.2.1 69 = .ok (.invokevirtual 323, 3) := by decide +kernel
theorem d_Model_monk_72 : decode M_Model_monk.2.1 72 = .ok (.ireturn, 1) := by decide +kernel
theorem d_Model_monk_73 : decode M_Model_monk.2.1 73 = .ok (.aload_n 0, 1) := by decide +kernel
theorem d_Model_monk_74 : decode M_Model_monk.2.1 74 = .ok (.getfield 59, 3) := by decide +kernel
theorem d_Model_monk_77 : decode M_Model_monk.2.1 77 = .ok (.iload_n 1, 1) := by decide +kernel
theorem d_Model_monk_78 : decode M_Model_monk.2.1 78 = .ok (.iaload, 1) := by decide +kernel
theorem d_Model_monk_79 : decode M_Model_monk.2.1 79 = .ok (.ireturn, 1) := by decide +kernel
theorem d_Model_monk_80 : decode M_Model_monk.2.1 80 = .ok (.aload_n 0, 1) := by decide +kernel
theorem d_Model_monk_81 : decode M_Model_monk.2.1 81 = .ok (.getfield 55, 3) := by decide +kernel
theorem d_Model_monk_84 : decode M_Model_monk.2.1 84 = .ok (.iload_n 1, 1) := by decide +kernel
theorem d_Model_monk_85 : decode M_Model_monk.2.1 85 = .ok (.iaload, 1) := by decide +kernel
theorem d_Model_monk_86 : decode M_Model_monk.2.1 86 = .ok (.aload_n 0, 1) := by decide +kernel
theorem d_Model_monk_87 : decode M_Model_monk.2.1 87 = .ok (.getfield 51, 3) := by decide +kernel
theorem d_Model_monk_90 : decode M_Model_monk.2.1 90 = .ok (.iconst 1, 1) := by decide +kernel
theorem d_Model_monk_91 : decode M_Model_monk.2.1 91 = .ok (.iaload, 1) := by decide +kernel
theorem d_Model_monk_92 : decode M_Model_monk.2.1 92 = .ok (.invokestatic 239, 3) := by decide +kernel
theorem d_Model_monk_95 : decode M_Model_monk.2.1 95 = .ok (.ireturn, 1) := by decide +kernel
theorem d_Model_monk_96 : decode M_Model_monk.2.1 96 = .ok (.aload_n 0, 1) := by decide +kernel
theorem d_Model_monk_97 : decode M_Model_monk.2.1 97 = .ok (.iload_n 1, 1) := by decide +kernel
theorem d_Model_monk_98 : decode M_Model_monk.2.1 98 = .ok (.invokevirtual 338, 3) := by decide +kernel
theorem d_Model_monk_101 : decode M_Model_monk.2.1 101 = .ok (.ifCond .eq 7, 3) := by decide +kernel
theorem d_Model_monk_104 : decode M_Model_monk.2.1 104 = .ok (.iconst 1, 1) := by decide +kernel
theorem d_Model_monk_105 : decode M_Model_monk.2.1 105 = .ok (.goto 4, 3) := by decide +kernel
theorem d_Model_monk_108 : decode M_Model_monk.2.1 108 = .ok (.iconst 0, 1) := by decide +kernel
theorem d_Model_monk_109 : decode M_Model_monk.2.1 109 = .ok (.ireturn, 1) := by decide +kernel
theorem d_Model_monk_110 : decode M_Model_monk.2.1 110 = .ok (.iconst 0, 1) := by decide +kernel
theorem d_Model_monk_111 : decode M_Model_monk.2.1 111 = .ok (.istore_n 3, 1) := by decide +kernel
theorem d_Model_monk_112 : decode M_Model_monk.2.1 112 = .ok (.iconst 0, 1) := by decide +kernel
theorem d_Model_monk_113 : decode M_Model_monk.2.1 113 = .ok (.istore 4, 2) := by decide +kernel
theorem d_Model_monk_115 : decode M_Model_monk.2.1 115 = .ok (.iload 4, 2) := by decide +kernel
theorem d_Model_monk_117 : decode M_Model_monk.2.1 117 = .ok (.aload_n 0, 1) := by decide +kernel
theorem d_Model_monk_118 : decode M_Model_monk.2.1 118 = .ok (.getfield 121, 3) := by decide +kernel
theorem d_Model_monk_121 : decode M_Model_monk.2.1 121 = .ok (.if_icmp .ge 37, 3) := by decide +kernel
theorem d_Model_monk_124 : decode M_Model_monk.2.1 124 = .ok (.iload_n 3, 1) := by decide +kernel
theorem d_Model_monk_125 : decode M_Model_monk.2.1 125 = .ok (.aload_n 0, 1) := by decide +kernel
theorem d_Model_monk_126 : decode M_Model_monk.2.1 126 = .ok (.iload 4, 2) := by decide +kernel
theorem d_Model_monk_128 : decode M_Model_monk.2.1 128 = .ok (.invokevirtual 315, 3) := by decide +kernel
theorem d_Model_monk_131 : decode M_Model_monk.2.1 131 = .ok (.ifCond .eq 18, 3) := by decide +kernel
theorem d_Model_monk_134 : decode M_Model_monk.2.1 134 = .ok (.aload_n 0, 1) := by decide +kernel
theorem d_Model_monk_135 : decode M_Model_monk.2.1 135 = .ok (.iload 4, 2) := by decide +kernel
theorem d_Model_monk_137 : decode M_Model_monk.2.1 137 = .ok (.iconst 1, 1) := by decide +kernel
theorem d_Model_monk_138 : decode M_Model_monk.2.1 138 = .ok (.invokevirtual 305, 3) := by decide +kernel
theorem d_Model_monk_141 : decode M_Model_monk.2.1 141 = .ok (.iload_n 1, 1) := by decide +kernel
theorem d_Model_monk_142 : decode M_Model_monk.2.1 142 = .ok (.if_icmp .ne 7, 3) := by decide +kernel
theorem d_Model_monk_145 : decode M_Model_monk.2.1 145 = .ok (.iconst 1, 1) := by decide +kernel
theorem d_Model_monk_146 : decode M_Model_monk.2.1 146 = .ok (.goto 4, 3) := by decide +kernel
theorem d_Model_monk_149 : decode M_Model_monk.2.1 149 = .ok (.iconst 0, 1) := by decide +kernel
theorem d_Model_monk_150 : decode M_Model_monk.2.1 150 = .ok (.iadd, 1) := by decide +kernel
theorem d_Model_monk_151 : decode M_Model_monk.2.1 151 = .ok (.istore_n 3, 1) := by decide +kernel
theorem d_Model_monk_152 : decode M_Model_monk.2.1 152 = .ok (.iinc 4 1, 3) := by decide +kernel
theorem d_Model_monk_155 : decode M_Model_monk.2.1 155 = .ok (.goto (-40), 3) := by decide +kernel
theorem d_Model_monk_158 : decode M_Model_monk.2.1 158 = .ok (.iload_n 3, 1) := by decide +kernel
theorem d_Model_monk_159 : decode M_Model_monk.2.1 159 = .ok (.ireturn, 1) := by decide +kernel
theorem d_Model_monk_160 : decode M_Model_monk.2.1 160 = .ok (.aload_n 0, 1) := by decide +kernel
theorem d_Model_monk_161 : decode M_Model_monk.2.1 161 = .ok (.iconst 1, 1) := by decide +kernel
theorem d_Model_monk_162 : decode M_Model_monk.2.1 162 = .ok (.invokevirtual 273, 3) := by decide +kernel
theorem d_Model_monk_165 : decode M_Model_monk.2.1 165 = .ok (.ireturn, 1) := by decide +kernel
theorem d_Model_entry_0 : decode M_Model_entry.2.1 0 = .ok (.aload_n 0, 1) := by decide +kernel
theorem d_Model_entry_1 : decode M_Model_entry.2.1 1 = .ok (.iconst 0, 1) := by decide +kernel
theorem d_Model_entry_2 : decode M_Model_entry.2.1 2 = .ok (.putfield 114, 3) := by decide +kernel
theorem d_Model_entry_5 : decode M_Model_entry.2.1 5 = .ok (.aload_n 0, 1) := by decide +kernel
theorem d_Model_entry_6 : decode M_Model_entry.2.1 6 = .ok (.iload_n 1, 1) := by decide +kernel
theorem d_Model_entry_7 : decode M_Model_entry.2.1 7 = .ok (.invokevirtual 341, 3) := by decide +kernel
theorem d_Model_entry_10 : decode M_Model_entry.2.1 10 = .ok (.ifCond .eq 15, 3) := by decide +kernel
theorem d_Model_entry_13 : decode M_Model_entry.2.1 13 = .ok (.iload_n 2, 1) := by decide +kernel
theorem d_Model_entry_14 : decode M_Model_entry.2.1 14 = .ok (.i2l, 1) := by decide +kernel
theorem d_Model_entry_15 : decode M_Model_entry.2.1 15 = .ok (.lconst 0, 1) := by decide +kernel
theorem d_Model_entry_16 : decode M_Model_entry.2.1 16 = .ok (.ldc2_w 344, 3) := by decide +kernel
theorem d_Model_entry_19 : decode M_Model_entry.2.1 19 = .ok (.invokestatic 117, 3) := by decide +kernel
theorem d_Model_entry_22 : decode M_Model_entry.2.1 22 = .ok (.ifCond .ne 9, 3) := by decide +kernel
theorem d_Model_entry_25 : decode M_Model_entry.2.1 25 = .ok (.aload_n 0, 1) := by decide +kernel
theorem d_Model_entry_26 : decode M_Model_entry.2.1 26 = .ok (.iconst 1, 1) := by decide +kernel
theorem d_Model_entry_27 : decode M_Model_entry.2.1 27 = .ok (.invokevirtual 273, 3) := by decide +kernel
theorem d_Model_entry_30 : decode M_Model_entry.2.1 30 = .ok (.ireturn, 1) := by decide +kernel
theorem d_Model_entry_31 : decode M_Model_entry.2.1 31 = .ok (.iload_n 2, 1) := by decide +kernel
theorem d_Model_entry_32 : decode M_Model_entry.2.1 32 = .ok (.bipush 8, 2) := by decide +kernel
theorem d_Model_entry_34 : decode M_Model_entry.2.1 34 = .ok (.if_icmp .ge 12, 3) := by decide +kernel
theorem d_Model_entry_37 : decode M_Model_entry.2.1 37 = .ok (.aload_n 0, 1) := by decide +kernel
theorem d_Model_entry_38 : decode M_Model_entry.2.1 38 = .ok (.iload_n 1, 1) := by decide +kernel
theorem d_Model_entry_39 : decode M_Model_entry.2.1 39 = .ok (.iload_n 2, 1) := by decide +kernel
theorem d_Model_entry_40 : decode M_Model_entry.2.1 40 = .ok (.invokevirtual 305, 3) := by decide +kernel
theorem d_Model_entry_43 : decode M_Model_entry.2.1 43 = .ok (.goto 30, 3) := by decide +kernel
theorem d_Model_entry_46 : decode M_Model_entry.2.1 46 = .ok (.iload_n 2, 1) := by decide +kernel
theorem d_Model_entry_47 : decode M_Model_entry.2.1 47 = .ok (.bipush 9, 2) := by decide +kernel
theorem d_Model_entry_49 : decode M_Model_entry.2.1 49 = .ok (.if_icmp .ne 11, 3) := by decide +kernel
theorem d_Model_entry_52 : decode M_Model_entry.2.1 52 = .ok (.aload_n 0, 1) := by decide +kernel
theorem d_Model_entry_53 : decode M_Model_entry.2.1 53 = .ok (.iload_n 1, 1) := by decide +kernel
theorem d_Model_entry_54 : decode M_Model_entry.2.1 54 = .ok (.invokevirtual 318, 3) := by decide +kernel
theorem d_Model_entry_57 : decode M_Model_entry.2.1 57 = .ok (.goto 16, 3) := by decide +kernel
theorem d_Model_entry_60 : decode M_Model_entry.2.1 60 = .ok (.aload_n 0, 1) := by decide +kernel
theorem d_Model_entry_61 : decode M_Model_entry.2.1 61 = .ok (.iload_n 1, 1) := by decide +kernel
theorem d_Model_entry_62 : decode M_Model_entry.2.1 62 = .ok (.invokevirtual 315, 3) := by decide +kernel
theorem d_Model_entry_65 : decode M_Model_entry.2.1 65 = .ok (.ifCond .eq 7, 3) := by decide +kernel
theorem d_Model_entry_68 : decode M_Model_entry.2.1 68 = .ok (.iconst 1, 1) := by decide +kernel
theorem d_Model_entry_69 : decode M_Model_entry.2.1 69 = .ok (.goto 4, 3) := by decide +kernel
theorem d_Model_entry_72 : decode M_Model_entry.2.1 72 = .ok (.iconst 0, 1) := by decide +kernel
theorem d_Model_entry_73 : decode M_Model_entry.2.1 73 = .ok (.ireturn, 1) := by decide +kernel
theorem d_Model_holders_0 : decode M_Model_holders.2.1 0 = .ok (.aload_n 0, 1) := by decide +kernel
theorem d_Model_holders_1 : decode M_Model_holders.2.1 1 = .ok (.iconst 0, 1) := by decide +kernel
theorem d_Model_holders_2 : decode M_Model_holders.2.1 2 = .ok (.putfield 114, 3) := by decide +kernel
theorem d_Model_holders_5 : decode M_Model_holders.2.1 5 = .ok (.aload_n 0, 1) := by decide +kernel
theorem d_Model_holders_6 : decode M_Model_holders.2.1 6 = .ok (.iload_n 1, 1) := by decide +kernel
theorem d_Model_holders_7 : decode M_Model_holders.2.1 7 = .ok (.invokevirtual 341, 3) := by decide +kernel
theorem d_Model_holders_10 : decode M_Model_holders.2.1 10 = .ok (.ifCond .eq 17, 3) := by decide +kernel
theorem d_Model_holders_13 : decode M_Model_holders.2.1 13 = .ok (.aload_n 0, 1) := by decide +kernel
theorem d_Model_holders_14 : decode M_Model_holders.2.1 14 = .ok (.aload_n 0, 1) := by decide +kernel
theorem d_Model_holders_15 : decode M_Model_holders.2.1 15 = .ok (.iload_n 1, 1) := by decide +kernel
theorem d_Model_holders_16 : decode M_Model_holders.2.1 16 = .ok (.bipush 7, 2) := by decide +kernel
theorem d_Model_holders_18 : decode M_Model_holders.2.1 18 = .ok (.invokevirtual 305, 3) := by decide +kernel
theorem d_Model_holders_21 : decode M_Model_holders.2.1 21 = .ok (.invokevirtual 346, 3) := by decide +kernel
theorem d_Model_holders_24 : decode M_Model_holders.2.1 24 = .ok (.goto 8, 3) := by decide +kernel
theorem d_Model_holders_27 : decode M_Model_holders.2.1 27 = .ok (.aload_n 0, 1) := by decide +kernel
theorem d_Model_holders_28 : decode M_Model_holders.2.1 28 = .ok (.iconst 1, 1) := by decide +kernel
theorem d_Model_holders_29 : decode M_Model_holders.2.1 29 = .ok (.invokevirtual 273, 3) := by decide +kernel
theorem d_Model_holders_32 : decode M_Model_holders.2.1 32 = .ok (.ireturn, 1) := by decide +kernel
theorem d_Model_reckon_0 : decode M_Model_reckon.2.1 0 = .ok (.iload_n 0, 1) := by decide +kernel
theorem d_Model_reckon_1 : decode M_Model_reckon.2.1 1 = .ok (.tableswitch 103 (-26) (-20) #[89, 78, 67, 55, 51, 47, 43], 43) := by decide +kernel
theorem d_Model_reckon_44 : decode M_Model_reckon.2.1 44 = .ok (.iload_n 1, 1) := by decide +kernel
theorem d_Model_reckon_45 : decode M_Model_reckon.2.1 45 = .ok (.iload_n 2, 1) := by decide +kernel
theorem d_Model_reckon_46 : decode M_Model_reckon.2.1 46 = .ok (.iadd, 1) := by decide +kernel
theorem d_Model_reckon_47 : decode M_Model_reckon.2.1 47 = .ok (.ireturn, 1) := by decide +kernel
theorem d_Model_reckon_48 : decode M_Model_reckon.2.1 48 = .ok (.iload_n 1, 1) := by decide +kernel
theorem d_Model_reckon_49 : decode M_Model_reckon.2.1 49 = .ok (.iload_n 2, 1) := by decide +kernel
theorem d_Model_reckon_50 : decode M_Model_reckon.2.1 50 = .ok (.isub, 1) := by decide +kernel
theorem d_Model_reckon_51 : decode M_Model_reckon.2.1 51 = .ok (.ireturn, 1) := by decide +kernel
theorem d_Model_reckon_52 : decode M_Model_reckon.2.1 52 = .ok (.iload_n 1, 1) := by decide +kernel
theorem d_Model_reckon_53 : decode M_Model_reckon.2.1 53 = .ok (.iload_n 2, 1) := by decide +kernel
theorem d_Model_reckon_54 : decode M_Model_reckon.2.1 54 = .ok (.imul, 1) := by decide +kernel
theorem d_Model_reckon_55 : decode M_Model_reckon.2.1 55 = .ok (.ireturn, 1) := by decide +kernel
theorem d_Model_reckon_56 : decode M_Model_reckon.2.1 56 = .ok (.iload_n 2, 1) := by decide +kernel
theorem d_Model_reckon_57 : decode M_Model_reckon.2.1 57 = .ok (.ifCond .ne 7, 3) := by decide +kernel
theorem d_Model_reckon_60 : decode M_Model_reckon.2.1 60 = .ok (.iconst 0, 1) := by decide +kernel
theorem d_Model_reckon_61 : decode M_Model_reckon.2.1 61 = .ok (.goto 6, 3) := by decide +kernel
theorem d_Model_reckon_64 : decode M_Model_reckon.2.1 64 = .ok (.iload_n 1, 1) := by decide +kernel
theorem d_Model_reckon_65 : decode M_Model_reckon.2.1 65 = .ok (.iload_n 2, 1) := by decide +kernel
theorem d_Model_reckon_66 : decode M_Model_reckon.2.1 66 = .ok (.idiv, 1) := by decide +kernel
theorem d_Model_reckon_67 : decode M_Model_reckon.2.1 67 = .ok (.ireturn, 1) := by decide +kernel
theorem d_Model_reckon_68 : decode M_Model_reckon.2.1 68 = .ok (.iload_n 1, 1) := by decide +kernel
theorem d_Model_reckon_69 : decode M_Model_reckon.2.1 69 = .ok (.iload_n 2, 1) := by decide +kernel
theorem d_Model_reckon_70 : decode M_Model_reckon.2.1 70 = .ok (.if_icmp .ge 7, 3) := by decide +kernel
theorem d_Model_reckon_73 : decode M_Model_reckon.2.1 73 = .ok (.iconst 1, 1) := by decide +kernel
theorem d_Model_reckon_74 : decode M_Model_reckon.2.1 74 = .ok (.goto 4, 3) := by decide +kernel
theorem d_Model_reckon_77 : decode M_Model_reckon.2.1 77 = .ok (.iconst 0, 1) := by decide +kernel
theorem d_Model_reckon_78 : decode M_Model_reckon.2.1 78 = .ok (.ireturn, 1) := by decide +kernel
theorem d_Model_reckon_79 : decode M_Model_reckon.2.1 79 = .ok (.iload_n 1, 1) := by decide +kernel
theorem d_Model_reckon_80 : decode M_Model_reckon.2.1 80 = .ok (.iload_n 2, 1) := by decide +kernel
theorem d_Model_reckon_81 : decode M_Model_reckon.2.1 81 = .ok (.if_icmp .ne 7, 3) := by decide +kernel
theorem d_Model_reckon_84 : decode M_Model_reckon.2.1 84 = .ok (.iconst 1, 1) := by decide +kernel
theorem d_Model_reckon_85 : decode M_Model_reckon.2.1 85 = .ok (.goto 4, 3) := by decide +kernel
theorem d_Model_reckon_88 : decode M_Model_reckon.2.1 88 = .ok (.iconst 0, 1) := by decide +kernel
theorem d_Model_reckon_89 : decode M_Model_reckon.2.1 89 = .ok (.ireturn, 1) := by decide +kernel
theorem d_Model_reckon_90 : decode M_Model_reckon.2.1 90 = .ok (.iload_n 1, 1) := by decide +kernel
theorem d_Model_reckon_91 : decode M_Model_reckon.2.1 91 = .ok (.ifCond .eq 11, 3) := by decide +kernel
theorem d_Model_reckon_94 : decode M_Model_reckon.2.1 94 = .ok (.iload_n 2, 1) := by decide +kernel
theorem d_Model_reckon_95 : decode M_Model_reckon.2.1 95 = .ok (.ifCond .eq 7, 3) := by decide +kernel
theorem d_Model_reckon_98 : decode M_Model_reckon.2.1 98 = .ok (.iconst 1, 1) := by decide +kernel
theorem d_Model_reckon_99 : decode M_Model_reckon.2.1 99 = .ok (.goto 4, 3) := by decide +kernel
theorem d_Model_reckon_102 : decode M_Model_reckon.2.1 102 = .ok (.iconst 0, 1) := by decide +kernel
theorem d_Model_reckon_103 : decode M_Model_reckon.2.1 103 = .ok (.ireturn, 1) := by decide +kernel
theorem d_Model_reckon_104 : decode M_Model_reckon.2.1 104 = .ok (.iload_n 1, 1) := by decide +kernel
theorem d_Model_reckon_105 : decode M_Model_reckon.2.1 105 = .ok (.ifCond .ne 7, 3) := by decide +kernel
theorem d_Model_reckon_108 : decode M_Model_reckon.2.1 108 = .ok (.iload_n 2, 1) := by decide +kernel
theorem d_Model_reckon_109 : decode M_Model_reckon.2.1 109 = .ok (.ifCond .eq 7, 3) := by decide +kernel
theorem d_Model_reckon_112 : decode M_Model_reckon.2.1 112 = .ok (.iconst 1, 1) := by decide +kernel
theorem d_Model_reckon_113 : decode M_Model_reckon.2.1 113 = .ok (.goto 4, 3) := by decide +kernel
theorem d_Model_reckon_116 : decode M_Model_reckon.2.1 116 = .ok (.iconst 0, 1) := by decide +kernel
theorem d_Model_reckon_117 : decode M_Model_reckon.2.1 117 = .ok (.ireturn, 1) := by decide +kernel
theorem d_Model_valueNow_0 : decode M_Model_valueNow.2.1 0 = .ok (.iconst 0, 1) := by decide +kernel
theorem d_Model_valueNow_1 : decode M_Model_valueNow.2.1 1 = .ok (.istore_n 1, 1) := by decide +kernel
theorem d_Model_valueNow_2 : decode M_Model_valueNow.2.1 2 = .ok (.iconst 0, 1) := by decide +kernel
theorem d_Model_valueNow_3 : decode M_Model_valueNow.2.1 3 = .ok (.istore_n 2, 1) := by decide +kernel
theorem d_Model_valueNow_4 : decode M_Model_valueNow.2.1 4 = .ok (.iload_n 2, 1) := by decide +kernel
theorem d_Model_valueNow_5 : decode M_Model_valueNow.2.1 5 = .ok (.aload_n 0, 1) := by decide +kernel
theorem d_Model_valueNow_6 : decode M_Model_valueNow.2.1 6 = .ok (.getfield 51, 3) := by decide +kernel
theorem d_Model_valueNow_9 : decode M_Model_valueNow.2.1 9 = .ok (.iconst 5, 1) := by decide +kernel
theorem d_Model_valueNow_10 : decode M_Model_valueNow.2.1 10 = .ok (.iaload, 1) := by decide +kernel
theorem d_Model_valueNow_11 : decode M_Model_valueNow.2.1 11 = .ok (.if_icmp .ge 112, 3) := by decide +kernel
theorem d_Model_valueNow_14 : decode M_Model_valueNow.2.1 14 = .ok (.aload_n 0, 1) := by decide +kernel
theorem d_Model_valueNow_15 : decode M_Model_valueNow.2.1 15 = .ok (.getfield 65, 3) := by decide +kernel
theorem d_Model_valueNow_18 : decode M_Model_valueNow.2.1 18 = .ok (.iload_n 2, 1) := by decide +kernel
theorem d_Model_valueNow_19 : decode M_Model_valueNow.2.1 19 = .ok (.iaload, 1) := by decide +kernel
theorem d_Model_valueNow_20 : decode M_Model_valueNow.2.1 20 = .ok (.istore_n 3, 1) := by decide +kernel
theorem d_Model_valueNow_21 : decode M_Model_valueNow.2.1 21 = .ok (.iload_n 3, 1) := by decide +kernel
theorem d_Model_valueNow_22 : decode M_Model_valueNow.2.1 22 = .ok (.bipush (-20), 2) := by decide +kernel
theorem d_Model_valueNow_24 : decode M_Model_valueNow.2.1 24 = .ok (.if_icmp .le 31, 3) := by decide +kernel
theorem d_Model_valueNow_27 : decode M_Model_valueNow.2.1 27 = .ok (.aload_n 0, 1) := by decide +kernel
theorem d_Model_valueNow_28 : decode M_Model_valueNow.2.1 28 = .ok (.getfield 87, 3) := by decide +kernel
theorem d_Model_valueNow_31 : decode M_Model_valueNow.2.1 31 = .ok (.iload_n 1, 1) := by decide +kernel
theorem d_Model_valueNow_32 : decode M_Model_valueNow.2.1 32 = .ok (.iload_n 3, 1) := by decide +kernel
theorem d_Model_valueNow_33 : decode M_Model_valueNow.2.1 33 = .ok (.ifCond .lt 7, 3) := by decide +kernel
theorem d_Model_valueNow_36 : decode M_Model_valueNow.2.1 36 = .ok (.iload_n 3, 1) := by decide +kernel
theorem d_Model_valueNow_37 : decode M_Model_valueNow.2.1 37 = .ok (.goto 11, 3) := by decide +kernel
theorem d_Model_valueNow_40 : decode M_Model_valueNow.2.1 40 = .ok (.aload_n 0, 1) := by decide +kernel
theorem d_Model_valueNow_41 : decode M_Model_valueNow.2.1 41 = .ok (.getfield 84, 3) := by decide +kernel
theorem d_Model_valueNow_44 : decode M_Model_valueNow.2.1 44 = .ok (.iconst (-1), 1) := by decide +kernel
theorem d_Model_valueNow_45 : decode M_Model_valueNow.2.1 45 = .ok (.iload_n 3, 1) := by decide +kernel
theorem d_Model_valueNow_46 : decode M_Model_valueNow.2.1 46 = .ok (.isub, 1) := by decide +kernel
theorem d_Model_valueNow_47 : decode M_Model_valueNow.2.1 47 = .ok (.iaload, 1) := by decide +kernel
theorem d_Model_valueNow_48 : decode M_Model_valueNow.2.1 48 = .ok (.iastore, 1) := by decide +kernel
theorem d_Model_valueNow_49 : decode M_Model_valueNow.2.1 49 = .ok (.iinc 1 1, 3) := by decide +kernel
theorem d_Model_valueNow_52 : decode M_Model_valueNow.2.1 52 = .ok (.goto 65, 3) := by decide +kernel
theorem d_Model_valueNow_55 : decode M_Model_valueNow.2.1 55 = .ok (.iload_n 3, 1) := by decide +kernel
theorem d_Model_valueNow_56 : decode M_Model_valueNow.2.1 56 = .ok (.bipush (-28), 2) := by decide +kernel
theorem d_Model_valueNow_58 : decode M_Model_valueNow.2.1 58 = .ok (.if_icmp .ne 30, 3) := by decide +kernel
theorem d_Model_valueNow_61 : decode M_Model_valueNow.2.1 61 = .ok (.aload_n 0, 1) := by decide +kernel
theorem d_Model_valueNow_62 : decode M_Model_valueNow.2.1 62 = .ok (.getfield 87, 3) := by decide +kernel
theorem d_Model_valueNow_65 : decode M_Model_valueNow.2.1 65 = .ok (.iload_n 1, 1) := by decide +kernel
theorem d_Model_valueNow_66 : decode M_Model_valueNow.2.1 66 = .ok (.iconst 1, 1) := by decide +kernel
theorem d_Model_valueNow_67 : decode M_Model_valueNow.2.1 67 = .ok (.isub, 1) := by decide +kernel
theorem d_Model_valueNow_68 : decode M_Model_valueNow.2.1 68 = .ok (.aload_n 0, 1) := by decide +kernel
theorem d_Model_valueNow_69 : decode M_Model_valueNow.2.1 69 = .ok (.getfield 87, 3) := by decide +kernel
theorem d_Model_valueNow_72 : decode M_Model_valueNow.2.1 72 = .ok (.iload_n 1, 1) := by decide +kernel
theorem d_Model_valueNow_73 : decode M_Model_valueNow.2.1 73 = .ok (.iconst 1, 1) := by decide +kernel
theorem d_Model_valueNow_74 : decode M_Model_valueNow.2.1 74 = .ok (.isub, 1) := by decide +kernel
theorem d_Model_valueNow_75 : decode M_Model_valueNow.2.1 75 = .ok (.iaload, 1) := by decide +kernel
theorem d_Model_valueNow_76 : decode M_Model_valueNow.2.1 76 = .ok (.ifCond .eq 7, 3) := by decide +kernel
theorem d_Model_valueNow_79 : decode M_Model_valueNow.2.1 79 = .ok (.iconst 0, 1) := by decide +kernel
theorem d_Model_valueNow_80 : decode M_Model_valueNow.2.1 80 = .ok (.goto 4, 3) := by decide +kernel
theorem d_Model_valueNow_83 : decode M_Model_valueNow.2.1 83 = .ok (.iconst 1, 1) := by decide +kernel
theorem d_Model_valueNow_84 : decode M_Model_valueNow.2.1 84 = .ok (.iastore, 1) := by decide +kernel
theorem d_Model_valueNow_85 : decode M_Model_valueNow.2.1 85 = .ok (.goto 32, 3) := by decide +kernel
theorem d_Model_valueNow_88 : decode M_Model_valueNow.2.1 88 = .ok (.iinc 1 (-1), 3) := by decide +kernel
theorem d_Model_valueNow_91 : decode M_Model_valueNow.2.1 91 = .ok (.aload_n 0, 1) := by decide +kernel
theorem d_Model_valueNow_92 : decode M_Model_valueNow.2.1 92 = .ok (.getfield 87, 3) := by decide +kernel
theorem d_Model_valueNow_95 : decode M_Model_valueNow.2.1 95 = .ok (.iload_n 1, 1) := by decide +kernel
theorem d_Model_valueNow_96 : decode M_Model_valueNow.2.1 96 = .ok (.iconst 1, 1) := by decide +kernel
theorem d_Model_valueNow_97 : decode M_Model_valueNow.2.1 97 = .ok (.isub, 1) := by decide +kernel
theorem d_Model_valueNow_98 : decode M_Model_valueNow.2.1 98 = .ok (.iload_n 3, 1) := by decide +kernel
theorem d_Model_valueNow_99 : decode M_Model_valueNow.2.1 99 = .ok (.aload_n 0, 1) := by decide +kernel
theorem d_Model_valueNow_100 : decode M_Model_valueNow.2.1 100 = .ok (.getfield 87, 3) := by decide +kernel
theorem d_Model_valueNow_103 : decode M_Model_valueNow.2.1 103 = .ok (.iload_n 1, 1) := by decide +kernel
theorem d_Model_valueNow_104 : decode M_Model_valueNow.2.1 104 = .ok (.iconst 1, 1) := by decide +kernel
theorem d_Model_valueNow_105 : decode M_Model_valueNow.2.1 105 = .ok (.isub, 1) := by decide +kernel
theorem d_Model_valueNow_106 : decode M_Model_valueNow.2.1 106 = .ok (.iaload, 1) := by decide +kernel
theorem d_Model_valueNow_107 : decode M_Model_valueNow.2.1 107 = .ok (.aload_n 0, 1) := by decide +kernel
theorem d_Model_valueNow_108 : decode M_Model_valueNow.2.1 108 = .ok (.getfield 87, 3) := by decide +kernel
theorem d_Model_valueNow_111 : decode M_Model_valueNow.2.1 111 = .ok (.iload_n 1, 1) := by decide +kernel
theorem d_Model_valueNow_112 : decode M_Model_valueNow.2.1 112 = .ok (.iaload, 1) := by decide +kernel
theorem d_Model_valueNow_113 : decode M_Model_valueNow.2.1 113 = .ok (.invokestatic 349, 3) := by decide +kernel
theorem d_Model_valueNow_116 : decode M_Model_valueNow.2.1 116 = .ok (.iastore, 1) := by decide +kernel
theorem d_Model_valueNow_117 : decode M_Model_valueNow.2.1 117 = .ok (.iinc 2 1, 3) := by decide +kernel
theorem d_Model_valueNow_120 : decode M_Model_valueNow.2.1 120 = .ok (.goto (-116), 3) := by decide +kernel
theorem d_Model_valueNow_123 : decode M_Model_valueNow.2.1 123 = .ok (.aload_n 0, 1) := by decide +kernel
theorem d_Model_valueNow_124 : decode M_Model_valueNow.2.1 124 = .ok (.getfield 87, 3) := by decide +kernel
theorem d_Model_valueNow_127 : decode M_Model_valueNow.2.1 127 = .ok (.iconst 0, 1) := by decide +kernel
theorem d_Model_valueNow_128 : decode M_Model_valueNow.2.1 128 = .ok (.iaload, 1) := by decide +kernel
theorem d_Model_valueNow_129 : decode M_Model_valueNow.2.1 129 = .ok (.ireturn, 1) := by decide +kernel
theorem d_Model_may_0 : decode M_Model_may.2.1 0 = .ok (.aload_n 0, 1) := by decide +kernel
theorem d_Model_may_1 : decode M_Model_may.2.1 1 = .ok (.iconst 0, 1) := by decide +kernel
theorem d_Model_may_2 : decode M_Model_may.2.1 2 = .ok (.putfield 114, 3) := by decide +kernel
theorem d_Model_may_5 : decode M_Model_may.2.1 5 = .ok (.aload_n 0, 1) := by decide +kernel
theorem d_Model_may_6 : decode M_Model_may.2.1 6 = .ok (.iload_n 1, 1) := by decide +kernel
theorem d_Model_may_7 : decode M_Model_may.2.1 7 = .ok (.invokevirtual 335, 3) := by decide +kernel
theorem d_Model_may_10 : decode M_Model_may.2.1 10 = .ok (.ifCond .eq 11, 3) := by decide +kernel
theorem d_Model_may_13 : decode M_Model_may.2.1 13 = .ok (.aload_n 0, 1) := by decide +kernel
theorem d_Model_may_14 : decode M_Model_may.2.1 14 = .ok (.iload_n 2, 1) := by decide +kernel
theorem d_Model_may_15 : decode M_Model_may.2.1 15 = .ok (.invokevirtual 341, 3) := by decide +kernel
theorem d_Model_may_18 : decode M_Model_may.2.1 18 = .ok (.ifCond .ne 9, 3) := by decide +kernel
theorem d_Model_may_21 : decode M_Model_may.2.1 21 = .ok (.aload_n 0, 1) := by decide +kernel
theorem d_Model_may_22 : decode M_Model_may.2.1 22 = .ok (.iconst 1, 1) := by decide +kernel
theorem d_Model_may_23 : decode M_Model_may.2.1 23 = .ok (.invokevirtual 353, 3) := by decide +kernel
theorem d_Model_may_26 : decode M_Model_may.2.1 26 = .ok (.ireturn, 1) := by decide +kernel
theorem d_Model_may_27 : decode M_Model_may.2.1 27 = .ok (.aload_n 0, 1) := by decide +kernel
theorem d_Model_may_28 : decode M_Model_may.2.1 28 = .ok (.iload_n 2, 1) := by decide +kernel
theorem d_Model_may_29 : decode M_Model_may.2.1 29 = .ok (.iconst 1, 1) := by decide +kernel
theorem d_Model_may_30 : decode M_Model_may.2.1 30 = .ok (.invokevirtual 305, 3) := by decide +kernel
theorem d_Model_may_33 : decode M_Model_may.2.1 33 = .ok (.istore_n 3, 1) := by decide +kernel
theorem d_Model_may_34 : decode M_Model_may.2.1 34 = .ok (.aload_n 0, 1) := by decide +kernel
theorem d_Model_may_35 : decode M_Model_may.2.1 35 = .ok (.iload_n 2, 1) := by decide +kernel
theorem d_Model_may_36 : decode M_Model_may.2.1 36 = .ok (.invokevirtual 315, 3) := by decide +kernel
theorem d_Model_may_39 : decode M_Model_may.2.1 39 = .ok (.ifCond .eq 13, 3) := by decide +kernel
theorem d_Model_may_42 : decode M_Model_may.2.1 42 = .ok (.aload_n 0, 1) := by decide +kernel
theorem d_Model_may_43 : decode M_Model_may.2.1 43 = .ok (.getfield 55, 3) := by decide +kernel
theorem d_Model_may_46 : decode M_Model_may.2.1 46 = .ok (.iload_n 3, 1) := by decide +kernel
theorem d_Model_may_47 : decode M_Model_may.2.1 47 = .ok (.iaload, 1) := by decide +kernel
theorem d_Model_may_48 : decode M_Model_may.2.1 48 = .ok (.iconst 3, 1) := by decide +kernel
theorem d_Model_may_49 : decode M_Model_may.2.1 49 = .ok (.if_icmp .ne 22, 3) := by decide +kernel
theorem d_Model_may_52 : decode M_Model_may.2.1 52 = .ok (.aload_n 0, 1) := by decide +kernel
theorem d_Model_may_53 : decode M_Model_may.2.1 53 = .ok (.iload_n 2, 1) := by decide +kernel
theorem d_Model_may_54 : decode M_Model_may.2.1 54 = .ok (.invokevirtual 315, 3) := by decide +kernel
theorem d_Model_may_57 : decode M_Model_may.2.1 57 = .ok (.ifCond .eq 12, 3) := by decide +kernel
theorem d_Model_may_60 : decode M_Model_may.2.1 60 = .ok (.iload_n 3, 1) := by decide +kernel
theorem d_Model_may_61 : decode M_Model_may.2.1 61 = .ok (.iload_n 1, 1) := by decide +kernel
theorem d_Model_may_62 : decode M_Model_may.2.1 62 = .ok (.if_icmp .ne 7, 3) := by decide +kernel
theorem d_Model_may_65 : decode M_Model_may.2.1 65 = .ok (.iconst 1, 1) := by decide +kernel
theorem d_Model_may_66 : decode M_Model_may.2.1 66 = .ok (.goto 4, 3) := by decide +kernel
theorem d_Model_may_69 : decode M_Model_may.2.1 69 = .ok (.iconst 0, 1) := by decide +kernel
theorem d_Model_may_70 : decode M_Model_may.2.1 70 = .ok (.ireturn, 1) := by decide +kernel
theorem d_Model_may_71 : decode M_Model_may.2.1 71 = .ok (.aload_n 0, 1) := by decide +kernel
theorem d_Model_may_72 : decode M_Model_may.2.1 72 = .ok (.getfield 51, 3) := by decide +kernel
theorem d_Model_may_75 : decode M_Model_may.2.1 75 = .ok (.iconst 5, 1) := by decide +kernel
theorem d_Model_may_76 : decode M_Model_may.2.1 76 = .ok (.iaload, 1) := by decide +kernel
theorem d_Model_may_77 : decode M_Model_may.2.1 77 = .ok (.ifCond .ne 22, 3) := by decide +kernel
theorem d_Model_may_80 : decode M_Model_may.2.1 80 = .ok (.iload_n 3, 1) := by decide +kernel
theorem d_Model_may_81 : decode M_Model_may.2.1 81 = .ok (.iload_n 1, 1) := by decide +kernel
theorem d_Model_may_82 : decode M_Model_may.2.1 82 = .ok (.if_icmp .eq 11, 3) := by decide +kernel
theorem d_Model_may_85 : decode M_Model_may.2.1 85 = .ok (.aload_n 0, 1) := by decide +kernel
theorem d_Model_may_86 : decode M_Model_may.2.1 86 = .ok (.iload_n 3, 1) := by decide +kernel
theorem d_Model_may_87 : decode M_Model_may.2.1 87 = .ok (.invokevirtual 338, 3) := by decide +kernel
theorem d_Model_may_90 : decode M_Model_may.2.1 90 = .ok (.ifCond .ne 7, 3) := by decide +kernel
theorem d_Model_may_93 : decode M_Model_may.2.1 93 = .ok (.iconst 1, 1) := by decide +kernel
theorem d_Model_may_94 : decode M_Model_may.2.1 94 = .ok (.goto 4, 3) := by decide +kernel
theorem d_Model_may_97 : decode M_Model_may.2.1 97 = .ok (.iconst 0, 1) := by decide +kernel
theorem d_Model_may_98 : decode M_Model_may.2.1 98 = .ok (.ireturn, 1) := by decide +kernel
theorem d_Model_may_99 : decode M_Model_may.2.1 99 = .ok (.aload_n 0, 1) := by decide +kernel
theorem d_Model_may_100 : decode M_Model_may.2.1 100 = .ok (.getfield 84, 3) := by decide +kernel
theorem d_Model_may_103 : decode M_Model_may.2.1 103 = .ok (.iconst 0, 1) := by decide +kernel
theorem d_Model_may_104 : decode M_Model_may.2.1 104 = .ok (.aload_n 0, 1) := by decide +kernel
theorem d_Model_may_105 : decode M_Model_may.2.1 105 = .ok (.iload_n 2, 1) := by decide +kernel
theorem d_Model_may_106 : decode M_Model_may.2.1 106 = .ok (.iconst 0, 1) := by decide +kernel
theorem d_Model_may_107 : decode M_Model_may.2.1 107 = .ok (.invokevirtual 305, 3) := by decide +kernel
theorem d_Model_may_110 : decode M_Model_may.2.1 110 = .ok (.iastore, 1) := by decide +kernel
theorem d_Model_may_111 : decode M_Model_may.2.1 111 = .ok (.aload_n 0, 1) := by decide +kernel
theorem d_Model_may_112 : decode M_Model_may.2.1 112 = .ok (.getfield 84, 3) := by decide +kernel
theorem d_Model_may_115 : decode M_Model_may.2.1 115 = .ok (.iconst 1, 1) := by decide +kernel
theorem d_Model_may_116 : decode M_Model_may.2.1 116 = .ok (.aload_n 0, 1) := by decide +kernel
theorem d_Model_may_117 : decode M_Model_may.2.1 117 = .ok (.iload_n 2, 1) := by decide +kernel
theorem d_Model_may_118 : decode M_Model_may.2.1 118 = .ok (.iconst 5, 1) := by decide +kernel
theorem d_Model_may_119 : decode M_Model_may.2.1 119 = .ok (.invokevirtual 305, 3) := by decide +kernel
theorem d_Model_may_122 : decode M_Model_may.2.1 122 = .ok (.iastore, 1) := by decide +kernel
theorem d_Model_may_123 : decode M_Model_may.2.1 123 = .ok (.aload_n 0, 1) := by decide +kernel
theorem d_Model_may_124 : decode M_Model_may.2.1 124 = .ok (.getfield 84, 3) := by decide +kernel
theorem d_Model_may_127 : decode M_Model_may.2.1 127 = .ok (.iconst 2, 1) := by decide +kernel
theorem d_Model_may_128 : decode M_Model_may.2.1 128 = .ok (.aload_n 0, 1) := by decide +kernel
theorem d_Model_may_129 : decode M_Model_may.2.1 129 = .ok (.iload_n 2, 1) := by decide +kernel
theorem d_Model_may_130 : decode M_Model_may.2.1 130 = .ok (.iconst 3, 1) := by decide +kernel
theorem d_Model_may_131 : decode M_Model_may.2.1 131 = .ok (.invokevirtual 305, 3) := by decide +kernel
theorem d_Model_may_134 : decode M_Model_may.2.1 134 = .ok (.iastore, 1) := by decide +kernel
theorem d_Model_may_135 : decode M_Model_may.2.1 135 = .ok (.aload_n 0, 1) := by decide +kernel
theorem d_Model_may_136 : decode M_Model_may.2.1 136 = .ok (.getfield 84, 3) := by decide +kernel
theorem d_Model_may_139 : decode M_Model_may.2.1 139 = .ok (.iconst 3, 1) := by decide +kernel
theorem d_Model_may_140 : decode M_Model_may.2.1 140 = .ok (.aload_n 0, 1) := by decide +kernel
theorem d_Model_may_141 : decode M_Model_may.2.1 141 = .ok (.iload_n 2, 1) := by decide +kernel
theorem d_Model_may_142 : decode M_Model_may.2.1 142 = .ok (.invokevirtual 318, 3) := by decide +kernel
theorem d_Model_may_145 : decode M_Model_may.2.1 145 = .ok (.iastore, 1) := by decide +kernel
theorem d_Model_may_146 : decode M_Model_may.2.1 146 = .ok (.aload_n 0, 1) := by decide +kernel
theorem d_Model_may_147 : decode M_Model_may.2.1 147 = .ok (.getfield 84, 3) := by decide +kernel
theorem d_Model_may_150 : decode M_Model_may.2.1 150 = .ok (.iconst 4, 1) := by decide +kernel
theorem d_Model_may_151 : decode M_Model_may.2.1 151 = .ok (.aload_n 0, 1) := by decide +kernel
theorem d_Model_may_152 : decode M_Model_may.2.1 152 = .ok (.iload_n 3, 1) := by decide +kernel
theorem d_Model_may_153 : decode M_Model_may.2.1 153 = .ok (.invokevirtual 338, 3) := by decide +kernel
theorem d_Model_may_156 : decode M_Model_may.2.1 156 = .ok (.ifCond .eq 7, 3) := by decide +kernel
theorem d_Model_may_159 : decode M_Model_may.2.1 159 = .ok (.iconst 1, 1) := by decide +kernel
theorem d_Model_may_160 : decode M_Model_may.2.1 160 = .ok (.goto 4, 3) := by decide +kernel
theorem d_Model_may_163 : decode M_Model_may.2.1 163 = .ok (.iconst 0, 1) := by decide +kernel
theorem d_Model_may_164 : decode M_Model_may.2.1 164 = .ok (.iastore, 1) := by decide +kernel
theorem d_Model_may_165 : decode M_Model_may.2.1 165 = .ok (.aload_n 0, 1) := by decide +kernel
theorem d_Model_may_166 : decode M_Model_may.2.1 166 = .ok (.getfield 84, 3) := by decide +kernel
theorem d_Model_may_169 : decode M_Model_may.2.1 169 = .ok (.iconst 5, 1) := by decide +kernel
theorem d_Model_may_170 : decode M_Model_may.2.1 170 = .ok (.iload_n 3, 1) := by decide +kernel
theorem d_Model_may_171 : decode M_Model_may.2.1 171 = .ok (.iload_n 1, 1) := by decide +kernel
theorem d_Model_may_172 : decode M_Model_may.2.1 172 = .ok (.if_icmp .ne 7, 3) := by decide +kernel
theorem d_Model_may_175 : decode M_Model_may.2.1 175 = .ok (.iconst 1, 1) := by decide +kernel
theorem d_Model_may_176 : decode M_Model_may.2.1 176 = .ok (.goto 4, 3) := by decide +kernel
theorem d_Model_may_179 : decode M_Model_may.2.1 179 = .ok (.iconst 0, 1) := by decide +kernel
theorem d_Model_may_180 : decode M_Model_may.2.1 180 = .ok (.iastore, 1) := by decide +kernel
theorem d_Model_may_181 : decode M_Model_may.2.1 181 = .ok (.aload_n 0, 1) := by decide +kernel
theorem d_Model_may_182 : decode M_Model_may.2.1 182 = .ok (.getfield 84, 3) := by decide +kernel
theorem d_Model_may_185 : decode M_Model_may.2.1 185 = .ok (.bipush 6, 2) := by decide +kernel
theorem d_Model_may_187 : decode M_Model_may.2.1 187 = .ok (.aload_n 0, 1) := by decide +kernel
theorem d_Model_may_188 : decode M_Model_may.2.1 188 = .ok (.iload_n 1, 1) := by decide +kernel
theorem d_Model_may_189 : decode M_Model_may.2.1 189 = .ok (.invokevirtual 323, 3) := by decide +kernel
theorem d_Model_may_192 : decode M_Model_may.2.1 192 = .ok (.iastore, 1) := by decide +kernel
theorem d_Model_may_193 : decode M_Model_may.2.1 193 = .ok (.aload_n 0, 1) := by decide +kernel
theorem d_Model_may_194 : decode M_Model_may.2.1 194 = .ok (.invokevirtual 356, 3) := by decide +kernel
theorem d_Model_may_197 : decode M_Model_may.2.1 197 = .ok (.ifCond .eq 7, 3) := by decide +kernel
theorem d_Model_may_200 : decode M_Model_may.2.1 200 = .ok (.iconst 1, 1) := by decide +kernel
theorem d_Model_may_201 : decode M_Model_may.2.1 201 = .ok (.goto 4, 3) := by decide +kernel
theorem d_Model_may_204 : decode M_Model_may.2.1 204 = .ok (.iconst 0, 1) := by decide +kernel
theorem d_Model_may_205 : decode M_Model_may.2.1 205 = .ok (.ireturn, 1) := by decide +kernel
theorem d_Model_refuse_0 : decode M_Model_refuse.2.1 0 = .ok (.aload_n 0, 1) := by decide +kernel
theorem d_Model_refuse_1 : decode M_Model_refuse.2.1 1 = .ok (.getfield 68, 3) := by decide +kernel
theorem d_Model_refuse_4 : decode M_Model_refuse.2.1 4 = .ok (.iload_n 1, 1) := by decide +kernel
theorem d_Model_refuse_5 : decode M_Model_refuse.2.1 5 = .ok (.dup2, 1) := by decide +kernel
theorem d_Model_refuse_6 : decode M_Model_refuse.2.1 6 = .ok (.iaload, 1) := by decide +kernel
theorem d_Model_refuse_7 : decode M_Model_refuse.2.1 7 = .ok (.iconst 1, 1) := by decide +kernel
theorem d_Model_refuse_8 : decode M_Model_refuse.2.1 8 = .ok (.iadd, 1) := by decide +kernel
theorem d_Model_refuse_9 : decode M_Model_refuse.2.1 9 = .ok (.iastore, 1) := by decide +kernel
theorem d_Model_refuse_10 : decode M_Model_refuse.2.1 10 = .ok (.iconst (-1), 1) := by decide +kernel
theorem d_Model_refuse_11 : decode M_Model_refuse.2.1 11 = .ok (.ireturn, 1) := by decide +kernel
theorem d_Model_keep_0 : decode M_Model_keep.2.1 0 = .ok (.aload_n 0, 1) := by decide +kernel
theorem d_Model_keep_1 : decode M_Model_keep.2.1 1 = .ok (.getfield 295, 3) := by decide +kernel
theorem d_Model_keep_4 : decode M_Model_keep.2.1 4 = .ok (.bipush 40, 2) := by decide +kernel
theorem d_Model_keep_6 : decode M_Model_keep.2.1 6 = .ok (.if_icmp .ne 48, 3) := by decide +kernel
theorem d_Model_keep_9 : decode M_Model_keep.2.1 9 = .ok (.sipush 231, 3) := by decide +kernel
theorem d_Model_keep_12 : decode M_Model_keep.2.1 12 = .ok (.istore_n 1, 1) := by decide +kernel
theorem d_Model_keep_13 : decode M_Model_keep.2.1 13 = .ok (.iload_n 1, 1) := by decide +kernel
theorem d_Model_keep_14 : decode M_Model_keep.2.1 14 = .ok (.aload_n 0, 1) := by decide +kernel
theorem d_Model_keep_15 : decode M_Model_keep.2.1 15 = .ok (.getfield 81, 3) := by decide +kernel
theorem d_Model_keep_18 : decode M_Model_keep.2.1 18 = .ok (.arraylength, 1) := by decide +kernel
theorem d_Model_keep_19 : decode M_Model_keep.2.1 19 = .ok (.if_icmp .ge 25, 3) := by decide +kernel
theorem d_Model_keep_22 : decode M_Model_keep.2.1 22 = .ok (.aload_n 0, 1) := by decide +kernel
theorem d_Model_keep_23 : decode M_Model_keep.2.1 23 = .ok (.getfield 81, 3) := by decide +kernel
theorem d_Model_keep_26 : decode M_Model_keep.2.1 26 = .ok (.iload_n 1, 1) := by decide +kernel
theorem d_Model_keep_27 : decode M_Model_keep.2.1 27 = .ok (.sipush 231, 3) := by decide +kernel
theorem d_Model_keep_30 : decode M_Model_keep.2.1 30 = .ok (.isub, 1) := by decide +kernel
theorem d_Model_keep_31 : decode M_Model_keep.2.1 31 = .ok (.aload_n 0, 1) := by decide +kernel
theorem d_Model_keep_32 : decode M_Model_keep.2.1 32 = .ok (.getfield 81, 3) := by decide +kernel
theorem d_Model_keep_35 : decode M_Model_keep.2.1 35 = .ok (.iload_n 1, 1) := by decide +kernel
theorem d_Model_keep_36 : decode M_Model_keep.2.1 36 = .ok (.iaload, 1) := by decide +kernel
theorem d_Model_keep_37 : decode M_Model_keep.2.1 37 = .ok (.iastore, 1) := by decide +kernel
theorem d_Model_keep_38 : decode M_Model_keep.2.1 38 = .ok (.iinc 1 1, 3) := by decide +kernel
theorem d_Model_keep_41 : decode M_Model_keep.2.1 41 = .ok (.goto (-28), 3) := by decide +kernel
theorem d_Model_keep_44 : decode M_Model_keep.2.1 44 = .ok (.aload_n 0, 1) := by decide +kernel
theorem d_Model_keep_45 : decode M_Model_keep.2.1 45 = .ok (.dup, 1) := by decide +kernel
theorem d_Model_keep_46 : decode M_Model_keep.2.1 46 = .ok (.getfield 295, 3) := by decide +kernel
theorem d_Model_keep_49 : decode M_Model_keep.2.1 49 = .ok (.iconst 1, 1) := by decide +kernel
theorem d_Model_keep_50 : decode M_Model_keep.2.1 50 = .ok (.isub, 1) := by decide +kernel
theorem d_Model_keep_51 : decode M_Model_keep.2.1 51 = .ok (.putfield 295, 3) := by decide +kernel
theorem d_Model_keep_54 : decode M_Model_keep.2.1 54 = .ok (.aload_n 0, 1) := by decide +kernel
theorem d_Model_keep_55 : decode M_Model_keep.2.1 55 = .ok (.aload_n 0, 1) := by decide +kernel
theorem d_Model_keep_56 : decode M_Model_keep.2.1 56 = .ok (.getfield 81, 3) := by decide +kernel
theorem d_Model_keep_59 : decode M_Model_keep.2.1 59 = .ok (.sipush 231, 3) := by decide +kernel
theorem d_Model_keep_62 : decode M_Model_keep.2.1 62 = .ok (.aload_n 0, 1) := by decide +kernel
theorem d_Model_keep_63 : decode M_Model_keep.2.1 63 = .ok (.getfield 295, 3) := by decide +kernel
theorem d_Model_keep_66 : decode M_Model_keep.2.1 66 = .ok (.imul, 1) := by decide +kernel
theorem d_Model_keep_67 : decode M_Model_keep.2.1 67 = .ok (.invokevirtual 359, 3) := by decide +kernel
theorem d_Model_keep_70 : decode M_Model_keep.2.1 70 = .ok (.aload_n 0, 1) := by decide +kernel
theorem d_Model_keep_71 : decode M_Model_keep.2.1 71 = .ok (.dup, 1) := by decide +kernel
theorem d_Model_keep_72 : decode M_Model_keep.2.1 72 = .ok (.getfield 295, 3) := by decide +kernel
theorem d_Model_keep_75 : decode M_Model_keep.2.1 75 = .ok (.iconst 1, 1) := by decide +kernel
theorem d_Model_keep_76 : decode M_Model_keep.2.1 76 = .ok (.iadd, 1) := by decide +kernel
theorem d_Model_keep_77 : decode M_Model_keep.2.1 77 = .ok (.putfield 295, 3) := by decide +kernel
theorem d_Model_keep_80 : decode M_Model_keep.2.1 80 = .ok (.return_, 1) := by decide +kernel
theorem d_Model_years_0 : decode M_Model_years.2.1 0 = .ok (.aload_n 0, 1) := by decide +kernel
theorem d_Model_years_1 : decode M_Model_years.2.1 1 = .ok (.iconst 0, 1) := by decide +kernel
theorem d_Model_years_2 : decode M_Model_years.2.1 2 = .ok (.putfield 114, 3) := by decide +kernel
theorem d_Model_years_5 : decode M_Model_years.2.1 5 = .ok (.iload_n 1, 1) := by decide +kernel
theorem d_Model_years_6 : decode M_Model_years.2.1 6 = .ok (.i2l, 1) := by decide +kernel
theorem d_Model_years_7 : decode M_Model_years.2.1 7 = .ok (.lconst 1, 1) := by decide +kernel
theorem d_Model_years_8 : decode M_Model_years.2.1 8 = .ok (.ldc2_w 363, 3) := by decide +kernel
theorem d_Model_years_11 : decode M_Model_years.2.1 11 = .ok (.invokestatic 117, 3) := by decide +kernel
theorem d_Model_years_14 : decode M_Model_years.2.1 14 = .ok (.ifCond .eq 15, 3) := by decide +kernel
theorem d_Model_years_17 : decode M_Model_years.2.1 17 = .ok (.aload_n 0, 1) := by decide +kernel
theorem d_Model_years_18 : decode M_Model_years.2.1 18 = .ok (.getfield 286, 3) := by decide +kernel
theorem d_Model_years_21 : decode M_Model_years.2.1 21 = .ok (.iload_n 1, 1) := by decide +kernel
theorem d_Model_years_22 : decode M_Model_years.2.1 22 = .ok (.iadd, 1) := by decide +kernel
theorem d_Model_years_23 : decode M_Model_years.2.1 23 = .ok (.sipush 999, 3) := by decide +kernel
theorem d_Model_years_26 : decode M_Model_years.2.1 26 = .ok (.if_icmp .le 9, 3) := by decide +kernel
theorem d_Model_years_29 : decode M_Model_years.2.1 29 = .ok (.aload_n 0, 1) := by decide +kernel
theorem d_Model_years_30 : decode M_Model_years.2.1 30 = .ok (.iconst 1, 1) := by decide +kernel
theorem d_Model_years_31 : decode M_Model_years.2.1 31 = .ok (.invokevirtual 365, 3) := by decide +kernel
theorem d_Model_years_34 : decode M_Model_years.2.1 34 = .ok (.ireturn, 1) := by decide +kernel
theorem d_Model_years_35 : decode M_Model_years.2.1 35 = .ok (.aload_n 0, 1) := by decide +kernel
theorem d_Model_years_36 : decode M_Model_years.2.1 36 = .ok (.invokevirtual 368, 3) := by decide +kernel
theorem d_Model_years_39 : decode M_Model_years.2.1 39 = .ok (.iconst 0, 1) := by decide +kernel
theorem d_Model_years_40 : decode M_Model_years.2.1 40 = .ok (.istore_n 2, 1) := by decide +kernel
theorem d_Model_years_41 : decode M_Model_years.2.1 41 = .ok (.iload_n 2, 1) := by decide +kernel
theorem d_Model_years_42 : decode M_Model_years.2.1 42 = .ok (.iload_n 1, 1) := by decide +kernel
theorem d_Model_years_43 : decode M_Model_years.2.1 43 = .ok (.if_icmp .ge 13, 3) := by decide +kernel
theorem d_Model_years_46 : decode M_Model_years.2.1 46 = .ok (.aload_n 0, 1) := by decide +kernel
theorem d_Model_years_47 : decode M_Model_years.2.1 47 = .ok (.invokevirtual 371, 3) := by decide +kernel
theorem d_Model_years_50 : decode M_Model_years.2.1 50 = .ok (.iinc 2 1, 3) := by decide +kernel
theorem d_Model_years_53 : decode M_Model_years.2.1 53 = .ok (.goto (-12), 3) := by decide +kernel
theorem d_Model_years_56 : decode M_Model_years.2.1 56 = .ok (.aload_n 0, 1) := by decide +kernel
theorem d_Model_years_57 : decode M_Model_years.2.1 57 = .ok (.getfield 286, 3) := by decide +kernel
theorem d_Model_years_60 : decode M_Model_years.2.1 60 = .ok (.ireturn, 1) := by decide +kernel
theorem d_Model_putEntry_0 : decode M_Model_putEntry.2.1 0 = .ok (.bipush 9, 2) := by decide +kernel
theorem d_Model_putEntry_2 : decode M_Model_putEntry.2.1 2 = .ok (.aload_n 0, 1) := by decide +kernel
theorem d_Model_putEntry_3 : decode M_Model_putEntry.2.1 3 = .ok (.getfield 121, 3) := by decide +kernel
theorem d_Model_putEntry_6 : decode M_Model_putEntry.2.1 6 = .ok (.imul, 1) := by decide +kernel
theorem d_Model_putEntry_7 : decode M_Model_putEntry.2.1 7 = .ok (.istore 7, 2) := by decide +kernel
theorem d_Model_putEntry_9 : decode M_Model_putEntry.2.1 9 = .ok (.aload_n 0, 1) := by decide +kernel
theorem d_Model_putEntry_10 : decode M_Model_putEntry.2.1 10 = .ok (.getfield 62, 3) := by decide +kernel
theorem d_Model_putEntry_13 : decode M_Model_putEntry.2.1 13 = .ok (.iload 7, 2) := by decide +kernel
theorem d_Model_putEntry_15 : decode M_Model_putEntry.2.1 15 = .ok (.iconst 0, 1) := by decide +kernel
theorem d_Model_putEntry_16 : decode M_Model_putEntry.2.1 16 = .ok (.iadd, 1) := by decide +kernel
theorem d_Model_putEntry_17 : decode M_Model_putEntry.2.1 17 = .ok (.iload_n 1, 1) := by decide +kernel
theorem d_Model_putEntry_18 : decode M_Model_putEntry.2.1 18 = .ok (.iastore, 1) := by decide +kernel
theorem d_Model_putEntry_19 : decode M_Model_putEntry.2.1 19 = .ok (.aload_n 0, 1) := by decide +kernel
theorem d_Model_putEntry_20 : decode M_Model_putEntry.2.1 20 = .ok (.getfield 62, 3) := by decide +kernel
theorem d_Model_putEntry_23 : decode M_Model_putEntry.2.1 23 = .ok (.iload 7, 2) := by decide +kernel
theorem d_Model_putEntry_25 : decode M_Model_putEntry.2.1 25 = .ok (.iconst 1, 1) := by decide +kernel
theorem d_Model_putEntry_26 : decode M_Model_putEntry.2.1 26 = .ok (.iadd, 1) := by decide +kernel
theorem d_Model_putEntry_27 : decode M_Model_putEntry.2.1 27 = .ok (.iload_n 2, 1) := by decide +kernel
theorem d_Model_putEntry_28 : decode M_Model_putEntry.2.1 28 = .ok (.iastore, 1) := by decide +kernel
theorem d_Model_putEntry_29 : decode M_Model_putEntry.2.1 29 = .ok (.aload_n 0, 1) := by decide +kernel
theorem d_Model_putEntry_30 : decode M_Model_putEntry.2.1 30 = .ok (.getfield 62, 3) := by decide +kernel
theorem d_Model_putEntry_33 : decode M_Model_putEntry.2.1 33 = .ok (.iload 7, 2) := by decide +kernel
theorem d_Model_putEntry_35 : decode M_Model_putEntry.2.1 35 = .ok (.iconst 2, 1) := by decide +kernel
theorem d_Model_putEntry_36 : decode M_Model_putEntry.2.1 36 = .ok (.iadd, 1) := by decide +kernel
theorem d_Model_putEntry_37 : decode M_Model_putEntry.2.1 37 = .ok (.aload_n 0, 1) := by decide +kernel
theorem d_Model_putEntry_38 : decode M_Model_putEntry.2.1 38 = .ok (.getfield 286, 3) := by decide +kernel
theorem d_Model_putEntry_41 : decode M_Model_putEntry.2.1 41 = .ok (.iastore, 1) := by decide +kernel
theorem d_Model_putEntry_42 : decode M_Model_putEntry.2.1 42 = .ok (.aload_n 0, 1) := by decide +kernel
theorem d_Model_putEntry_43 : decode M_Model_putEntry.2.1 43 = .ok (.getfield 62, 3) := by decide +kernel
theorem d_Model_putEntry_46 : decode M_Model_putEntry.2.1 46 = .ok (.iload 7, 2) := by decide +kernel
theorem d_Model_putEntry_48 : decode M_Model_putEntry.2.1 48 = .ok (.iconst 3, 1) := by decide +kernel
theorem d_Model_putEntry_49 : decode M_Model_putEntry.2.1 49 = .ok (.iadd, 1) := by decide +kernel
theorem d_Model_putEntry_50 : decode M_Model_putEntry.2.1 50 = .ok (.iload_n 3, 1) := by decide +kernel
theorem d_Model_putEntry_51 : decode M_Model_putEntry.2.1 51 = .ok (.iastore, 1) := by decide +kernel
theorem d_Model_putEntry_52 : decode M_Model_putEntry.2.1 52 = .ok (.aload_n 0, 1) := by decide +kernel
theorem d_Model_putEntry_53 : decode M_Model_putEntry.2.1 53 = .ok (.getfield 62, 3) := by decide +kernel
theorem d_Model_putEntry_56 : decode M_Model_putEntry.2.1 56 = .ok (.iload 7, 2) := by decide +kernel
theorem d_Model_putEntry_58 : decode M_Model_putEntry.2.1 58 = .ok (.iconst 4, 1) := by decide +kernel
theorem d_Model_putEntry_59 : decode M_Model_putEntry.2.1 59 = .ok (.iadd, 1) := by decide +kernel
theorem d_Model_putEntry_60 : decode M_Model_putEntry.2.1 60 = .ok (.iload 4, 2) := by decide +kernel
theorem d_Model_putEntry_62 : decode M_Model_putEntry.2.1 62 = .ok (.iastore, 1) := by decide +kernel
theorem d_Model_putEntry_63 : decode M_Model_putEntry.2.1 63 = .ok (.aload_n 0, 1) := by decide +kernel
theorem d_Model_putEntry_64 : decode M_Model_putEntry.2.1 64 = .ok (.getfield 62, 3) := by decide +kernel
theorem d_Model_putEntry_67 : decode M_Model_putEntry.2.1 67 = .ok (.iload 7, 2) := by decide +kernel
theorem d_Model_putEntry_69 : decode M_Model_putEntry.2.1 69 = .ok (.iconst 5, 1) := by decide +kernel
theorem d_Model_putEntry_70 : decode M_Model_putEntry.2.1 70 = .ok (.iadd, 1) := by decide +kernel
theorem d_Model_putEntry_71 : decode M_Model_putEntry.2.1 71 = .ok (.iload 5, 2) := by decide +kernel
theorem d_Model_putEntry_73 : decode M_Model_putEntry.2.1 73 = .ok (.iastore, 1) := by decide +kernel
theorem d_Model_putEntry_74 : decode M_Model_putEntry.2.1 74 = .ok (.aload_n 0, 1) := by decide +kernel
theorem d_Model_putEntry_75 : decode M_Model_putEntry.2.1 75 = .ok (.getfield 62, 3) := by decide +kernel
theorem d_Model_putEntry_78 : decode M_Model_putEntry.2.1 78 = .ok (.iload 7, 2) := by decide +kernel
theorem d_Model_putEntry_80 : decode M_Model_putEntry.2.1 80 = .ok (.bipush 6, 2) := by decide +kernel
theorem d_Model_putEntry_82 : decode M_Model_putEntry.2.1 82 = .ok (.iadd, 1) := by decide +kernel
theorem d_Model_putEntry_83 : decode M_Model_putEntry.2.1 83 = .ok (.iconst 0, 1) := by decide +kernel
theorem d_Model_putEntry_84 : decode M_Model_putEntry.2.1 84 = .ok (.iastore, 1) := by decide +kernel
theorem d_Model_putEntry_85 : decode M_Model_putEntry.2.1 85 = .ok (.aload_n 0, 1) := by decide +kernel
theorem d_Model_putEntry_86 : decode M_Model_putEntry.2.1 86 = .ok (.getfield 62, 3) := by decide +kernel
theorem d_Model_putEntry_89 : decode M_Model_putEntry.2.1 89 = .ok (.iload 7, 2) := by decide +kernel
theorem d_Model_putEntry_91 : decode M_Model_putEntry.2.1 91 = .ok (.bipush 7, 2) := by decide +kernel
theorem d_Model_putEntry_93 : decode M_Model_putEntry.2.1 93 = .ok (.iadd, 1) := by decide +kernel
theorem d_Model_putEntry_94 : decode M_Model_putEntry.2.1 94 = .ok (.iload 6, 2) := by decide +kernel
theorem d_Model_putEntry_96 : decode M_Model_putEntry.2.1 96 = .ok (.iastore, 1) := by decide +kernel
theorem d_Model_putEntry_97 : decode M_Model_putEntry.2.1 97 = .ok (.aload_n 0, 1) := by decide +kernel
theorem d_Model_putEntry_98 : decode M_Model_putEntry.2.1 98 = .ok (.getfield 62, 3) := by decide +kernel
theorem d_Model_putEntry_101 : decode M_Model_putEntry.2.1 101 = .ok (.iload 7, 2) := by decide +kernel
theorem d_Model_putEntry_103 : decode M_Model_putEntry.2.1 103 = .ok (.bipush 8, 2) := by decide +kernel
theorem d_Model_putEntry_105 : decode M_Model_putEntry.2.1 105 = .ok (.iadd, 1) := by decide +kernel
theorem d_Model_putEntry_106 : decode M_Model_putEntry.2.1 106 = .ok (.iconst 0, 1) := by decide +kernel
theorem d_Model_putEntry_107 : decode M_Model_putEntry.2.1 107 = .ok (.iastore, 1) := by decide +kernel
theorem d_Model_putEntry_108 : decode M_Model_putEntry.2.1 108 = .ok (.aload_n 0, 1) := by decide +kernel
theorem d_Model_putEntry_109 : decode M_Model_putEntry.2.1 109 = .ok (.dup, 1) := by decide +kernel
theorem d_Model_putEntry_110 : decode M_Model_putEntry.2.1 110 = .ok (.getfield 121, 3) := by decide +kernel
theorem d_Model_putEntry_113 : decode M_Model_putEntry.2.1 113 = .ok (.iconst 1, 1) := by decide +kernel
theorem d_Model_putEntry_114 : decode M_Model_putEntry.2.1 114 = .ok (.iadd, 1) := by decide +kernel
theorem d_Model_putEntry_115 : decode M_Model_putEntry.2.1 115 = .ok (.putfield 121, 3) := by decide +kernel
theorem d_Model_putEntry_118 : decode M_Model_putEntry.2.1 118 = .ok (.aload_n 0, 1) := by decide +kernel
theorem d_Model_putEntry_119 : decode M_Model_putEntry.2.1 119 = .ok (.getfield 121, 3) := by decide +kernel
theorem d_Model_putEntry_122 : decode M_Model_putEntry.2.1 122 = .ok (.iconst 1, 1) := by decide +kernel
theorem d_Model_putEntry_123 : decode M_Model_putEntry.2.1 123 = .ok (.isub, 1) := by decide +kernel
theorem d_Model_putEntry_124 : decode M_Model_putEntry.2.1 124 = .ok (.ireturn, 1) := by decide +kernel
theorem d_Model_braid_0 : decode M_Model_braid.2.1 0 = .ok (.aload_n 0, 1) := by decide +kernel
theorem d_Model_braid_1 : decode M_Model_braid.2.1 1 = .ok (.iconst 0, 1) := by decide +kernel
theorem d_Model_braid_2 : decode M_Model_braid.2.1 2 = .ok (.putfield 114, 3) := by decide +kernel
theorem d_Model_braid_5 : decode M_Model_braid.2.1 5 = .ok (.aload_n 0, 1) := by decide +kernel
theorem d_Model_braid_6 : decode M_Model_braid.2.1 6 = .ok (.iload_n 1, 1) := by decide +kernel
theorem d_Model_braid_7 : decode M_Model_braid.2.1 7 = .ok (.invokevirtual 335, 3) := by decide +kernel
theorem d_Model_braid_10 : decode M_Model_braid.2.1 10 = .ok (.ifCond .ne 9, 3) := by decide +kernel
theorem d_Model_braid_13 : decode M_Model_braid.2.1 13 = .ok (.aload_n 0, 1) := by decide +kernel
theorem d_Model_braid_14 : decode M_Model_braid.2.1 14 = .ok (.iconst 1, 1) := by decide +kernel
theorem d_Model_braid_15 : decode M_Model_braid.2.1 15 = .ok (.invokevirtual 273, 3) := by decide +kernel
theorem d_Model_braid_18 : decode M_Model_braid.2.1 18 = .ok (.ireturn, 1) := by decide +kernel
theorem d_Model_braid_19 : decode M_Model_braid.2.1 19 = .ok (.aload_n 0, 1) := by decide +kernel
theorem d_Model_braid_20 : decode M_Model_braid.2.1 20 = .ok (.getfield 121, 3) := by decide +kernel
theorem d_Model_braid_23 : decode M_Model_braid.2.1 23 = .ok (.bipush 24, 2) := by decide +kernel
theorem d_Model_braid_25 : decode M_Model_braid.2.1 25 = .ok (.if_icmp .eq 46, 3) := by decide +kernel
theorem d_Model_braid_28 : decode M_Model_braid.2.1 28 = .ok (.aload_n 0, 1) := by decide +kernel
theorem d_Model_braid_29 : decode M_Model_braid.2.1 29 = .ok (.getfield 289, 3) := by decide +kernel
theorem d_Model_braid_32 : decode M_Model_braid.2.1 32 = .ok (.iload_n 1, 1) := by decide +kernel
theorem d_Model_braid_33 : decode M_Model_braid.2.1 33 = .ok (.invokestatic 308, 3) := by decide +kernel
theorem d_Model_braid_36 : decode M_Model_braid.2.1 36 = .ok (.ifCond .ne 35, 3) := by decide +kernel
theorem d_Model_braid_39 : decode M_Model_braid.2.1 39 = .ok (.iload_n 2, 1) := by decide +kernel
theorem d_Model_braid_40 : decode M_Model_braid.2.1 40 = .ok (.i2l, 1) := by decide +kernel
theorem d_Model_braid_41 : decode M_Model_braid.2.1 41 = .ok (.lconst 0, 1) := by decide +kernel
theorem d_Model_braid_42 : decode M_Model_braid.2.1 42 = .ok (.ldc2_w 374, 3) := by decide +kernel
theorem d_Model_braid_45 : decode M_Model_braid.2.1 45 = .ok (.invokestatic 117, 3) := by decide +kernel
theorem d_Model_braid_48 : decode M_Model_braid.2.1 48 = .ok (.ifCond .eq 23, 3) := by decide +kernel
theorem d_Model_braid_51 : decode M_Model_braid.2.1 51 = .ok (.iload_n 3, 1) := by decide +kernel
theorem d_Model_braid_52 : decode M_Model_braid.2.1 52 = .ok (.invokestatic 376, 3) := by decide +kernel
theorem d_Model_braid_55 : decode M_Model_braid.2.1 55 = .ok (.ifCond .eq 16, 3) := by decide +kernel
theorem d_Model_braid_58 : decode M_Model_braid.2.1 58 = .ok (.iload 4, 2) := by decide +kernel
theorem d_Model_braid_60 : decode M_Model_braid.2.1 60 = .ok (.i2l, 1) := by decide +kernel
theorem d_Model_braid_61 : decode M_Model_braid.2.1 61 = .ok (.lconst 0, 1) := by decide +kernel
theorem d_Model_braid_62 : decode M_Model_braid.2.1 62 = .ok (.ldc2_w 379, 3) := by decide +kernel
theorem d_Model_braid_65 : decode M_Model_braid.2.1 65 = .ok (.invokestatic 117, 3) := by decide +kernel
theorem d_Model_braid_68 : decode M_Model_braid.2.1 68 = .ok (.ifCond .ne 9, 3) := by decide +kernel
theorem d_Model_braid_71 : decode M_Model_braid.2.1 71 = .ok (.aload_n 0, 1) := by decide +kernel
theorem d_Model_braid_72 : decode M_Model_braid.2.1 72 = .ok (.iconst 1, 1) := by decide +kernel
theorem d_Model_braid_73 : decode M_Model_braid.2.1 73 = .ok (.invokevirtual 365, 3) := by decide +kernel
theorem d_Model_braid_76 : decode M_Model_braid.2.1 76 = .ok (.ireturn, 1) := by decide +kernel
theorem d_Model_braid_77 : decode M_Model_braid.2.1 77 = .ok (.aload_n 0, 1) := by decide +kernel
theorem d_Model_braid_78 : decode M_Model_braid.2.1 78 = .ok (.invokevirtual 368, 3) := by decide +kernel
theorem d_Model_braid_81 : decode M_Model_braid.2.1 81 = .ok (.aload_n 0, 1) := by decide +kernel
theorem d_Model_braid_82 : decode M_Model_braid.2.1 82 = .ok (.iload_n 2, 1) := by decide +kernel
theorem d_Model_braid_83 : decode M_Model_braid.2.1 83 = .ok (.iload_n 1, 1) := by decide +kernel
theorem d_Model_braid_84 : decode M_Model_braid.2.1 84 = .ok (.iload_n 3, 1) := by decide +kernel
theorem d_Model_braid_85 : decode M_Model_braid.2.1 85 = .ok (.iload 4, 2) := by decide +kernel
theorem d_Model_braid_87 : decode M_Model_braid.2.1 87 = .ok (.iconst 0, 1) := by decide +kernel
theorem d_Model_braid_88 : decode M_Model_braid.2.1 88 = .ok (.aload_n 0, 1) := by decide +kernel
theorem d_Model_braid_89 : decode M_Model_braid.2.1 89 = .ok (.getfield 121, 3) := by decide +kernel
theorem d_Model_braid_92 : decode M_Model_braid.2.1 92 = .ok (.invokevirtual 381, 3) := by decide +kernel
theorem d_Model_braid_95 : decode M_Model_braid.2.1 95 = .ok (.ireturn, 1) := by decide +kernel
theorem d_Model_copy_0 : decode M_Model_copy.2.1 0 = .ok (.aload_n 0, 1) := by decide +kernel
theorem d_Model_copy_1 : decode M_Model_copy.2.1 1 = .ok (.iconst 0, 1) := by decide +kernel
theorem d_Model_copy_2 : decode M_Model_copy.2.1 2 = .ok (.putfield 114, 3) := by decide +kernel
theorem d_Model_copy_5 : decode M_Model_copy.2.1 5 = .ok (.aload_n 0, 1) := by decide +kernel
theorem d_Model_copy_6 : decode M_Model_copy.2.1 6 = .ok (.iload_n 1, 1) := by decide +kernel
theorem d_Model_copy_7 : decode M_Model_copy.2.1 7 = .ok (.invokevirtual 341, 3) := by decide +kernel
theorem d_Model_copy_10 : decode M_Model_copy.2.1 10 = .ok (.ifCond .eq 11, 3) := by decide +kernel
theorem d_Model_copy_13 : decode M_Model_copy.2.1 13 = .ok (.aload_n 0, 1) := by decide +kernel
theorem d_Model_copy_14 : decode M_Model_copy.2.1 14 = .ok (.iload_n 2, 1) := by decide +kernel
theorem d_Model_copy_15 : decode M_Model_copy.2.1 15 = .ok (.invokevirtual 335, 3) := by decide +kernel
theorem d_Model_copy_18 : decode M_Model_copy.2.1 18 = .ok (.ifCond .ne 9, 3) := by decide +kernel
theorem d_Model_copy_21 : decode M_Model_copy.2.1 21 = .ok (.aload_n 0, 1) := by decide +kernel
theorem d_Model_copy_22 : decode M_Model_copy.2.1 22 = .ok (.iconst 1, 1) := by decide +kernel
theorem d_Model_copy_23 : decode M_Model_copy.2.1 23 = .ok (.invokevirtual 273, 3) := by decide +kernel
theorem d_Model_copy_26 : decode M_Model_copy.2.1 26 = .ok (.ireturn, 1) := by decide +kernel
theorem d_Model_copy_27 : decode M_Model_copy.2.1 27 = .ok (.aload_n 0, 1) := by decide +kernel
theorem d_Model_copy_28 : decode M_Model_copy.2.1 28 = .ok (.getfield 121, 3) := by decide +kernel
theorem d_Model_copy_31 : decode M_Model_copy.2.1 31 = .ok (.bipush 24, 2) := by decide +kernel
theorem d_Model_copy_33 : decode M_Model_copy.2.1 33 = .ok (.if_icmp .eq 40, 3) := by decide +kernel
theorem d_Model_copy_36 : decode M_Model_copy.2.1 36 = .ok (.aload_n 0, 1) := by decide +kernel
theorem d_Model_copy_37 : decode M_Model_copy.2.1 37 = .ok (.iload_n 1, 1) := by decide +kernel
theorem d_Model_copy_38 : decode M_Model_copy.2.1 38 = .ok (.invokevirtual 315, 3) := by decide +kernel
theorem d_Model_copy_41 : decode M_Model_copy.2.1 41 = .ok (.ifCond .eq 32, 3) := by decide +kernel
theorem d_Model_copy_44 : decode M_Model_copy.2.1 44 = .ok (.aload_n 0, 1) := by decide +kernel
theorem d_Model_copy_45 : decode M_Model_copy.2.1 45 = .ok (.getfield 289, 3) := by decide +kernel
theorem d_Model_copy_48 : decode M_Model_copy.2.1 48 = .ok (.iload_n 2, 1) := by decide +kernel
theorem d_Model_copy_49 : decode M_Model_copy.2.1 49 = .ok (.invokestatic 308, 3) := by decide +kernel
theorem d_Model_copy_52 : decode M_Model_copy.2.1 52 = .ok (.ifCond .ne 21, 3) := by decide +kernel
theorem d_Model_copy_55 : decode M_Model_copy.2.1 55 = .ok (.aload_n 0, 1) := by decide +kernel
theorem d_Model_copy_56 : decode M_Model_copy.2.1 56 = .ok (.aload_n 0, 1) := by decide +kernel
theorem d_Model_copy_57 : decode M_Model_copy.2.1 57 = .ok (.iload_n 1, 1) := by decide +kernel
theorem d_Model_copy_58 : decode M_Model_copy.2.1 58 = .ok (.bipush 7, 2) := by decide +kernel
theorem d_Model_copy_60 : decode M_Model_copy.2.1 60 = .ok (.invokevirtual 305, 3) := by decide +kernel
theorem d_Model_copy_63 : decode M_Model_copy.2.1 63 = .ok (.invokevirtual 346, 3) := by decide +kernel
theorem d_Model_copy_66 : decode M_Model_copy.2.1 66 = .ok (.iload_n 2, 1) := by decide +kernel
theorem d_Model_copy_67 : decode M_Model_copy.2.1 67 = .ok (.invokestatic 308, 3) := by decide +kernel
theorem d_Model_copy_70 : decode M_Model_copy.2.1 70 = .ok (.ifCond .eq 9, 3) := by decide +kernel
theorem d_Model_copy_73 : decode M_Model_copy.2.1 73 = .ok (.aload_n 0, 1) := by decide +kernel
theorem d_Model_copy_74 : decode M_Model_copy.2.1 74 = .ok (.iconst 1, 1) := by decide +kernel
theorem d_Model_copy_75 : decode M_Model_copy.2.1 75 = .ok (.invokevirtual 365, 3) := by decide +kernel
theorem d_Model_copy_78 : decode M_Model_copy.2.1 78 = .ok (.ireturn, 1) := by decide +kernel
theorem d_Model_copy_79 : decode M_Model_copy.2.1 79 = .ok (.aload_n 0, 1) := by decide +kernel
theorem d_Model_copy_80 : decode M_Model_copy.2.1 80 = .ok (.invokevirtual 368, 3) := by decide +kernel
theorem d_Model_copy_83 : decode M_Model_copy.2.1 83 = .ok (.aload_n 0, 1) := by decide +kernel
theorem d_Model_copy_84 : decode M_Model_copy.2.1 84 = .ok (.aload_n 0, 1) := by decide +kernel
theorem d_Model_copy_85 : decode M_Model_copy.2.1 85 = .ok (.iload_n 1, 1) := by decide +kernel
theorem d_Model_copy_86 : decode M_Model_copy.2.1 86 = .ok (.iconst 0, 1) := by decide +kernel
theorem d_Model_copy_87 : decode M_Model_copy.2.1 87 = .ok (.invokevirtual 305, 3) := by decide +kernel
theorem d_Model_copy_90 : decode M_Model_copy.2.1 90 = .ok (.iload_n 2, 1) := by decide +kernel
theorem d_Model_copy_91 : decode M_Model_copy.2.1 91 = .ok (.aload_n 0, 1) := by decide +kernel
theorem d_Model_copy_92 : decode M_Model_copy.2.1 92 = .ok (.iload_n 1, 1) := by decide +kernel
theorem d_Model_copy_93 : decode M_Model_copy.2.1 93 = .ok (.iconst 3, 1) := by decide +kernel
theorem d_Model_copy_94 : decode M_Model_copy.2.1 94 = .ok (.invokevirtual 305, 3) := by decide +kernel
theorem d_Model_copy_97 : decode M_Model_copy.2.1 97 = .ok (.aload_n 0, 1) := by decide +kernel
theorem d_Model_copy_98 : decode M_Model_copy.2.1 98 = .ok (.iload_n 1, 1) := by decide +kernel
theorem d_Model_copy_99 : decode M_Model_copy.2.1 99 = .ok (.iconst 4, 1) := by decide +kernel
theorem d_Model_copy_100 : decode M_Model_copy.2.1 100 = .ok (.invokevirtual 305, 3) := by decide +kernel
theorem d_Model_copy_103 : decode M_Model_copy.2.1 103 = .ok (.aload_n 0, 1) := by decide +kernel
theorem d_Model_copy_104 : decode M_Model_copy.2.1 104 = .ok (.iload_n 1, 1) := by decide +kernel
theorem d_Model_copy_105 : decode M_Model_copy.2.1 105 = .ok (.iconst 5, 1) := by decide +kernel
theorem d_Model_copy_106 : decode M_Model_copy.2.1 106 = .ok (.invokevirtual 305, 3) := by decide +kernel
theorem d_Model_copy_109 : decode M_Model_copy.2.1 109 = .ok (.aload_n 0, 1) := by decide +kernel
theorem d_Model_copy_110 : decode M_Model_copy.2.1 110 = .ok (.iload_n 1, 1) := by decide +kernel
theorem d_Model_copy_111 : decode M_Model_copy.2.1 111 = .ok (.bipush 7, 2) := by decide +kernel
theorem d_Model_copy_113 : decode M_Model_copy.2.1 113 = .ok (.invokevirtual 305, 3) := by decide +kernel
theorem d_Model_copy_116 : decode M_Model_copy.2.1 116 = .ok (.invokevirtual 381, 3) := by decide +kernel
theorem d_Model_copy_119 : decode M_Model_copy.2.1 119 = .ok (.ireturn, 1) := by decide +kernel
theorem d_Model_isLoose_0 : decode M_Model_isLoose.2.1 0 = .ok (.aload_n 0, 1) := by decide +kernel
theorem d_Model_isLoose_1 : decode M_Model_isLoose.2.1 1 = .ok (.iload_n 1, 1) := by decide +kernel
theorem d_Model_isLoose_2 : decode M_Model_isLoose.2.1 2 = .ok (.invokevirtual 341, 3) := by decide +kernel
theorem d_Model_isLoose_5 : decode M_Model_isLoose.2.1 5 = .ok (.ifCond .ne 9, 3) := by decide +kernel
theorem d_Model_isLoose_8 : decode M_Model_isLoose.2.1 8 = .ok (.aload_n 0, 1) := by decide +kernel
theorem d_Model_isLoose_9 : decode M_Model_isLoose.2.1 9 = .ok (.iconst 1, 1) := by decide +kernel
theorem d_Model_isLoose_10 : decode M_Model_isLoose.2.1 10 = .ok (.invokevirtual 353, 3) := by decide +kernel
theorem d_Model_isLoose_13 : decode M_Model_isLoose.2.1 13 = .ok (.ireturn, 1) := by decide +kernel
theorem d_Model_isLoose_14 : decode M_Model_isLoose.2.1 14 = .ok (.aload_n 0, 1) := by decide +kernel
theorem d_Model_isLoose_15 : decode M_Model_isLoose.2.1 15 = .ok (.iload_n 1, 1) := by decide +kernel
theorem d_Model_isLoose_16 : decode M_Model_isLoose.2.1 16 = .ok (.invokevirtual 315, 3) := by decide +kernel
theorem d_Model_isLoose_19 : decode M_Model_isLoose.2.1 19 = .ok (.ifCond .eq 31, 3) := by decide +kernel
theorem d_Model_isLoose_22 : decode M_Model_isLoose.2.1 22 = .ok (.aload_n 0, 1) := by decide +kernel
theorem d_Model_isLoose_23 : decode M_Model_isLoose.2.1 23 = .ok (.iload_n 1, 1) := by decide +kernel
theorem d_Model_isLoose_24 : decode M_Model_isLoose.2.1 24 = .ok (.bipush 6, 2) := by decide +kernel
theorem d_Model_isLoose_26 : decode M_Model_isLoose.2.1 26 = .ok (.invokevirtual 305, 3) := by decide +kernel
theorem d_Model_isLoose_29 : decode M_Model_isLoose.2.1 29 = .ok (.ifCond .ne 21, 3) := by decide +kernel
theorem d_Model_isLoose_32 : decode M_Model_isLoose.2.1 32 = .ok (.aload_n 0, 1) := by decide +kernel
theorem d_Model_isLoose_33 : decode M_Model_isLoose.2.1 33 = .ok (.getfield 289, 3) := by decide +kernel
theorem d_Model_isLoose_36 : decode M_Model_isLoose.2.1 36 = .ok (.aload_n 0, 1) := by decide +kernel
theorem d_Model_isLoose_37 : decode M_Model_isLoose.2.1 37 = .ok (.iload_n 1, 1) := by decide +kernel
theorem d_Model_isLoose_38 : decode M_Model_isLoose.2.1 38 = .ok (.iconst 1, 1) := by decide +kernel
theorem d_Model_isLoose_39 : decode M_Model_isLoose.2.1 39 = .ok (.invokevirtual 305, 3) := by decide +kernel
theorem d_Model_isLoose_42 : decode M_Model_isLoose.2.1 42 = .ok (.invokestatic 308, 3) := by decide +kernel
theorem d_Model_isLoose_45 : decode M_Model_isLoose.2.1 45 = .ok (.ifCond .ne 5, 3) := by decide +kernel
theorem d_Model_isLoose_48 : decode M_Model_isLoose.2.1 48 = .ok (.iconst 1, 1) := by decide +kernel
theorem d_Model_isLoose_49 : decode M_Model_isLoose.2.1 49 = .ok (.ireturn, 1) := by decide +kernel
theorem d_Model_isLoose_50 : decode M_Model_isLoose.2.1 50 = .ok (.aload_n 0, 1) := by decide +kernel
theorem d_Model_isLoose_51 : decode M_Model_isLoose.2.1 51 = .ok (.getfield 68, 3) := by decide +kernel
theorem d_Model_isLoose_54 : decode M_Model_isLoose.2.1 54 = .ok (.iconst 1, 1) := by decide +kernel
theorem d_Model_isLoose_55 : decode M_Model_isLoose.2.1 55 = .ok (.dup2, 1) := by decide +kernel
theorem d_Model_isLoose_56 : decode M_Model_isLoose.2.1 56 = .ok (.iaload, 1) := by decide +kernel
theorem d_Model_isLoose_57 : decode M_Model_isLoose.2.1 57 = .ok (.iconst 1, 1) := by decide +kernel
theorem d_Model_isLoose_58 : decode M_Model_isLoose.2.1 58 = .ok (.iadd, 1) := by decide +kernel
theorem d_Model_isLoose_59 : decode M_Model_isLoose.2.1 59 = .ok (.iastore, 1) := by decide +kernel
theorem d_Model_isLoose_60 : decode M_Model_isLoose.2.1 60 = .ok (.iconst 0, 1) := by decide +kernel
theorem d_Model_isLoose_61 : decode M_Model_isLoose.2.1 61 = .ok (.ireturn, 1) := by decide +kernel
theorem d_Model_knot_0 : decode M_Model_knot.2.1 0 = .ok (.aload_n 0, 1) := by decide +kernel
theorem d_Model_knot_1 : decode M_Model_knot.2.1 1 = .ok (.iconst 0, 1) := by decide +kernel
theorem d_Model_knot_2 : decode M_Model_knot.2.1 2 = .ok (.putfield 114, 3) := by decide +kernel
theorem d_Model_knot_5 : decode M_Model_knot.2.1 5 = .ok (.aload_n 0, 1) := by decide +kernel
theorem d_Model_knot_6 : decode M_Model_knot.2.1 6 = .ok (.iload_n 1, 1) := by decide +kernel
theorem d_Model_knot_7 : decode M_Model_knot.2.1 7 = .ok (.invokevirtual 385, 3) := by decide +kernel
theorem d_Model_knot_10 : decode M_Model_knot.2.1 10 = .ok (.ifCond .ne 5, 3) := by decide +kernel
theorem d_Model_knot_13 : decode M_Model_knot.2.1 13 = .ok (.iconst 0, 1) := by decide +kernel
theorem d_Model_knot_14 : decode M_Model_knot.2.1 14 = .ok (.ireturn, 1) := by decide +kernel
theorem d_Model_knot_15 : decode M_Model_knot.2.1 15 = .ok (.aload_n 0, 1) := by decide +kernel
theorem d_Model_knot_16 : decode M_Model_knot.2.1 16 = .ok (.invokevirtual 368, 3) := by decide +kernel
theorem d_Model_knot_19 : decode M_Model_knot.2.1 19 = .ok (.aload_n 0, 1) := by decide +kernel
theorem d_Model_knot_20 : decode M_Model_knot.2.1 20 = .ok (.getfield 62, 3) := by decide +kernel
theorem d_Model_knot_23 : decode M_Model_knot.2.1 23 = .ok (.bipush 9, 2) := by decide +kernel
theorem d_Model_knot_25 : decode M_Model_knot.2.1 25 = .ok (.iload_n 1, 1) := by decide +kernel
theorem d_Model_knot_26 : decode M_Model_knot.2.1 26 = .ok (.imul, 1) := by decide +kernel
theorem d_Model_knot_27 : decode M_Model_knot.2.1 27 = .ok (.bipush 6, 2) := by decide +kernel
theorem d_Model_knot_29 : decode M_Model_knot.2.1 29 = .ok (.iadd, 1) := by decide +kernel
theorem d_Model_knot_30 : decode M_Model_knot.2.1 30 = .ok (.iconst 1, 1) := by decide +kernel
theorem d_Model_knot_31 : decode M_Model_knot.2.1 31 = .ok (.iastore, 1) := by decide +kernel
theorem d_Model_knot_32 : decode M_Model_knot.2.1 32 = .ok (.iconst 1, 1) := by decide +kernel
theorem d_Model_knot_33 : decode M_Model_knot.2.1 33 = .ok (.ireturn, 1) := by decide +kernel
theorem d_Model_comb_0 : decode M_Model_comb.2.1 0 = .ok (.aload_n 0, 1) := by decide +kernel
theorem d_Model_comb_1 : decode M_Model_comb.2.1 1 = .ok (.iconst 0, 1) := by decide +kernel
theorem d_Model_comb_2 : decode M_Model_comb.2.1 2 = .ok (.putfield 114, 3) := by decide +kernel
theorem d_Model_comb_5 : decode M_Model_comb.2.1 5 = .ok (.aload_n 0, 1) := by decide +kernel
theorem d_Model_comb_6 : decode M_Model_comb.2.1 6 = .ok (.iload_n 1, 1) := by decide +kernel
theorem d_Model_comb_7 : decode M_Model_comb.2.1 7 = .ok (.invokevirtual 385, 3) := by decide +kernel
theorem d_Model_comb_10 : decode M_Model_comb.2.1 10 = .ok (.ifCond .ne 5, 3) := by decide +kernel
theorem d_Model_comb_13 : decode M_Model_comb.2.1 13 = .ok (.iconst 0, 1) := by decide +kernel
theorem d_Model_comb_14 : decode M_Model_comb.2.1 14 = .ok (.ireturn, 1) := by decide +kernel
theorem d_Model_comb_15 : decode M_Model_comb.2.1 15 = .ok (.aload_n 0, 1) := by decide +kernel
theorem d_Model_comb_16 : decode M_Model_comb.2.1 16 = .ok (.invokevirtual 368, 3) := by decide +kernel
theorem d_Model_comb_19 : decode M_Model_comb.2.1 19 = .ok (.aload_n 0, 1) := by decide +kernel
theorem d_Model_comb_20 : decode M_Model_comb.2.1 20 = .ok (.iload_n 1, 1) := by decide +kernel
theorem d_Model_comb_21 : decode M_Model_comb.2.1 21 = .ok (.invokevirtual 320, 3) := by decide +kernel
theorem d_Model_comb_24 : decode M_Model_comb.2.1 24 = .ok (.iconst 1, 1) := by decide +kernel
theorem d_Model_comb_25 : decode M_Model_comb.2.1 25 = .ok (.ireturn, 1) := by decide +kernel
theorem d_Model_shave_0 : decode M_Model_shave.2.1 0 = .ok (.aload_n 0, 1) := by decide +kernel
theorem d_Model_shave_1 : decode M_Model_shave.2.1 1 = .ok (.iconst 0, 1) := by decide +kernel
theorem d_Model_shave_2 : decode M_Model_shave.2.1 2 = .ok (.putfield 114, 3) := by decide +kernel
theorem d_Model_shave_5 : decode M_Model_shave.2.1 5 = .ok (.aload_n 0, 1) := by decide +kernel
theorem d_Model_shave_6 : decode M_Model_shave.2.1 6 = .ok (.iload_n 1, 1) := by decide +kernel
theorem d_Model_shave_7 : decode M_Model_shave.2.1 7 = .ok (.invokevirtual 335, 3) := by decide +kernel
theorem d_Model_shave_10 : decode M_Model_shave.2.1 10 = .ok (.ifCond .ne 9, 3) := by decide +kernel
theorem d_Model_shave_13 : decode M_Model_shave.2.1 13 = .ok (.aload_n 0, 1) := by decide +kernel
theorem d_Model_shave_14 : decode M_Model_shave.2.1 14 = .ok (.iconst 1, 1) := by decide +kernel
theorem d_Model_shave_15 : decode M_Model_shave.2.1 15 = .ok (.invokevirtual 273, 3) := by decide +kernel
theorem d_Model_shave_18 : decode M_Model_shave.2.1 18 = .ok (.ireturn, 1) := by decide +kernel
theorem d_Model_shave_19 : decode M_Model_shave.2.1 19 = .ok (.iload_n 2, 1) := by decide +kernel
theorem d_Model_shave_20 : decode M_Model_shave.2.1 20 = .ok (.ifCond .lt 13, 3) := by decide +kernel
theorem d_Model_shave_23 : decode M_Model_shave.2.1 23 = .ok (.iload_n 2, 1) := by decide +kernel
theorem d_Model_shave_24 : decode M_Model_shave.2.1 24 = .ok (.aload_n 0, 1) := by decide +kernel
theorem d_Model_shave_25 : decode M_Model_shave.2.1 25 = .ok (.getfield 59, 3) := by decide +kernel
theorem d_Model_shave_28 : decode M_Model_shave.2.1 28 = .ok (.iload_n 1, 1) := by decide +kernel
theorem d_Model_shave_29 : decode M_Model_shave.2.1 29 = .ok (.iaload, 1) := by decide +kernel
theorem d_Model_shave_30 : decode M_Model_shave.2.1 30 = .ok (.if_icmp .lt 9, 3) := by decide +kernel
theorem d_Model_shave_33 : decode M_Model_shave.2.1 33 = .ok (.aload_n 0, 1) := by decide +kernel
theorem d_Model_shave_34 : decode M_Model_shave.2.1 34 = .ok (.iconst 1, 1) := by decide +kernel
theorem d_Model_shave_35 : decode M_Model_shave.2.1 35 = .ok (.invokevirtual 365, 3) := by decide +kernel
theorem d_Model_shave_38 : decode M_Model_shave.2.1 38 = .ok (.ireturn, 1) := by decide +kernel
theorem d_Model_shave_39 : decode M_Model_shave.2.1 39 = .ok (.aload_n 0, 1) := by decide +kernel
theorem d_Model_shave_40 : decode M_Model_shave.2.1 40 = .ok (.invokevirtual 368, 3) := by decide +kernel
theorem d_Model_shave_43 : decode M_Model_shave.2.1 43 = .ok (.aload_n 0, 1) := by decide +kernel
theorem d_Model_shave_44 : decode M_Model_shave.2.1 44 = .ok (.getfield 59, 3) := by decide +kernel
theorem d_Model_shave_47 : decode M_Model_shave.2.1 47 = .ok (.iload_n 1, 1) := by decide +kernel
theorem d_Model_shave_48 : decode M_Model_shave.2.1 48 = .ok (.iload_n 2, 1) := by decide +kernel
theorem d_Model_shave_49 : decode M_Model_shave.2.1 49 = .ok (.iastore, 1) := by decide +kernel
theorem d_Model_shave_50 : decode M_Model_shave.2.1 50 = .ok (.aload_n 0, 1) := by decide +kernel
theorem d_Model_shave_51 : decode M_Model_shave.2.1 51 = .ok (.invokevirtual 292, 3) := by decide +kernel
theorem d_Model_shave_54 : decode M_Model_shave.2.1 54 = .ok (.ireturn, 1) := by decide +kernel
theorem d_Model_moths_0 : decode M_Model_moths.2.1 0 = .ok (.aload_n 0, 1) := by decide +kernel
theorem d_Model_moths_1 : decode M_Model_moths.2.1 1 = .ok (.iconst 0, 1) := by decide +kernel
theorem d_Model_moths_2 : decode M_Model_moths.2.1 2 = .ok (.putfield 114, 3) := by decide +kernel
theorem d_Model_moths_5 : decode M_Model_moths.2.1 5 = .ok (.aload_n 0, 1) := by decide +kernel
theorem d_Model_moths_6 : decode M_Model_moths.2.1 6 = .ok (.iload_n 1, 1) := by decide +kernel
theorem d_Model_moths_7 : decode M_Model_moths.2.1 7 = .ok (.invokevirtual 335, 3) := by decide +kernel
theorem d_Model_moths_10 : decode M_Model_moths.2.1 10 = .ok (.ifCond .ne 9, 3) := by decide +kernel
theorem d_Model_moths_13 : decode M_Model_moths.2.1 13 = .ok (.aload_n 0, 1) := by decide +kernel
theorem d_Model_moths_14 : decode M_Model_moths.2.1 14 = .ok (.iconst 1, 1) := by decide +kernel
theorem d_Model_moths_15 : decode M_Model_moths.2.1 15 = .ok (.invokevirtual 273, 3) := by decide +kernel
theorem d_Model_moths_18 : decode M_Model_moths.2.1 18 = .ok (.ireturn, 1) := by decide +kernel
theorem d_Model_moths_19 : decode M_Model_moths.2.1 19 = .ok (.iload_n 2, 1) := by decide +kernel
theorem d_Model_moths_20 : decode M_Model_moths.2.1 20 = .ok (.i2l, 1) := by decide +kernel
theorem d_Model_moths_21 : decode M_Model_moths.2.1 21 = .ok (.lconst 0, 1) := by decide +kernel
theorem d_Model_moths_22 : decode M_Model_moths.2.1 22 = .ok (.ldc2_w 388, 3) := by decide +kernel
theorem d_Model_moths_25 : decode M_Model_moths.2.1 25 = .ok (.invokestatic 117, 3) := by decide +kernel
theorem d_Model_moths_28 : decode M_Model_moths.2.1 28 = .ok (.ifCond .eq 16, 3) := by decide +kernel
theorem d_Model_moths_31 : decode M_Model_moths.2.1 31 = .ok (.iload_n 3, 1) := by decide +kernel
theorem d_Model_moths_32 : decode M_Model_moths.2.1 32 = .ok (.i2l, 1) := by decide +kernel
theorem d_Model_moths_33 : decode M_Model_moths.2.1 33 = .ok (.iload_n 2, 1) := by decide +kernel
theorem d_Model_moths_34 : decode M_Model_moths.2.1 34 = .ok (.i2l, 1) := by decide +kernel
theorem d_Model_moths_35 : decode M_Model_moths.2.1 35 = .ok (.ldc2_w 388, 3) := by decide +kernel
theorem d_Model_moths_38 : decode M_Model_moths.2.1 38 = .ok (.invokestatic 117, 3) := by decide +kernel
theorem d_Model_moths_41 : decode M_Model_moths.2.1 41 = .ok (.ifCond .ne 9, 3) := by decide +kernel
theorem d_Model_moths_44 : decode M_Model_moths.2.1 44 = .ok (.aload_n 0, 1) := by decide +kernel
theorem d_Model_moths_45 : decode M_Model_moths.2.1 45 = .ok (.iconst 1, 1) := by decide +kernel
theorem d_Model_moths_46 : decode M_Model_moths.2.1 46 = .ok (.invokevirtual 365, 3) := by decide +kernel
theorem d_Model_moths_49 : decode M_Model_moths.2.1 49 = .ok (.ireturn, 1) := by decide +kernel
theorem d_Model_moths_50 : decode M_Model_moths.2.1 50 = .ok (.aload_n 0, 1) := by decide +kernel
theorem d_Model_moths_51 : decode M_Model_moths.2.1 51 = .ok (.invokevirtual 368, 3) := by decide +kernel
theorem d_Model_moths_54 : decode M_Model_moths.2.1 54 = .ok (.aload_n 0, 1) := by decide +kernel
theorem d_Model_moths_55 : decode M_Model_moths.2.1 55 = .ok (.iload_n 1, 1) := by decide +kernel
theorem d_Model_moths_56 : decode M_Model_moths.2.1 56 = .ok (.iload_n 2, 1) := by decide +kernel
theorem d_Model_moths_57 : decode M_Model_moths.2.1 57 = .ok (.iload_n 3, 1) := by decide +kernel
theorem d_Model_moths_58 : decode M_Model_moths.2.1 58 = .ok (.invokevirtual 390, 3) := by decide +kernel
theorem d_Model_moths_61 : decode M_Model_moths.2.1 61 = .ok (.ireturn, 1) := by decide +kernel
theorem d_Model_die_0 : decode M_Model_die.2.1 0 = .ok (.aload_n 0, 1) := by decide +kernel
theorem d_Model_die_1 : decode M_Model_die.2.1 1 = .ok (.iconst 0, 1) := by decide +kernel
theorem d_Model_die_2 : decode M_Model_die.2.1 2 = .ok (.putfield 114, 3) := by decide +kernel
theorem d_Model_die_5 : decode M_Model_die.2.1 5 = .ok (.aload_n 0, 1) := by decide +kernel
theorem d_Model_die_6 : decode M_Model_die.2.1 6 = .ok (.iload_n 1, 1) := by decide +kernel
theorem d_Model_die_7 : decode M_Model_die.2.1 7 = .ok (.invokevirtual 335, 3) := by decide +kernel
theorem d_Model_die_10 : decode M_Model_die.2.1 10 = .ok (.ifCond .ne 9, 3) := by decide +kernel
theorem d_Model_die_13 : decode M_Model_die.2.1 13 = .ok (.aload_n 0, 1) := by decide +kernel
theorem d_Model_die_14 : decode M_Model_die.2.1 14 = .ok (.iconst 1, 1) := by decide +kernel
theorem d_Model_die_15 : decode M_Model_die.2.1 15 = .ok (.invokevirtual 353, 3) := by decide +kernel
theorem d_Model_die_18 : decode M_Model_die.2.1 18 = .ok (.ireturn, 1) := by decide +kernel
theorem d_Model_die_19 : decode M_Model_die.2.1 19 = .ok (.aload_n 0, 1) := by decide +kernel
theorem d_Model_die_20 : decode M_Model_die.2.1 20 = .ok (.getfield 289, 3) := by decide +kernel
theorem d_Model_die_23 : decode M_Model_die.2.1 23 = .ok (.iload_n 1, 1) := by decide +kernel
theorem d_Model_die_24 : decode M_Model_die.2.1 24 = .ok (.invokestatic 308, 3) := by decide +kernel
theorem d_Model_die_27 : decode M_Model_die.2.1 27 = .ok (.ifCond .eq 15, 3) := by decide +kernel
theorem d_Model_die_30 : decode M_Model_die.2.1 30 = .ok (.aload_n 0, 1) := by decide +kernel
theorem d_Model_die_31 : decode M_Model_die.2.1 31 = .ok (.getfield 68, 3) := by decide +kernel
theorem d_Model_die_34 : decode M_Model_die.2.1 34 = .ok (.iconst 1, 1) := by decide +kernel
theorem d_Model_die_35 : decode M_Model_die.2.1 35 = .ok (.dup2, 1) := by decide +kernel
theorem d_Model_die_36 : decode M_Model_die.2.1 36 = .ok (.iaload, 1) := by decide +kernel
theorem d_Model_die_37 : decode M_Model_die.2.1 37 = .ok (.iconst 1, 1) := by decide +kernel
theorem d_Model_die_38 : decode M_Model_die.2.1 38 = .ok (.iadd, 1) := by decide +kernel
theorem d_Model_die_39 : decode M_Model_die.2.1 39 = .ok (.iastore, 1) := by decide +kernel
theorem d_Model_die_40 : decode M_Model_die.2.1 40 = .ok (.iconst 0, 1) := by decide +kernel
theorem d_Model_die_41 : decode M_Model_die.2.1 41 = .ok (.ireturn, 1) := by decide +kernel
theorem d_Model_die_42 : decode M_Model_die.2.1 42 = .ok (.aload_n 0, 1) := by decide +kernel
theorem d_Model_die_43 : decode M_Model_die.2.1 43 = .ok (.invokevirtual 368, 3) := by decide +kernel
theorem d_Model_die_46 : decode M_Model_die.2.1 46 = .ok (.aload_n 0, 1) := by decide +kernel
theorem d_Model_die_47 : decode M_Model_die.2.1 47 = .ok (.dup, 1) := by decide +kernel
theorem d_Model_die_48 : decode M_Model_die.2.1 48 = .ok (.getfield 289, 3) := by decide +kernel
theorem d_Model_die_51 : decode M_Model_die.2.1 51 = .ok (.iconst 1, 1) := by decide +kernel
theorem d_Model_die_52 : decode M_Model_die.2.1 52 = .ok (.iload_n 1, 1) := by decide +kernel
theorem d_Model_die_53 : decode M_Model_die.2.1 53 = .ok (.ishl, 1) := by decide +kernel
theorem d_Model_die_54 : decode M_Model_die.2.1 54 = .ok (.ior, 1) := by decide +kernel
theorem d_Model_die_55 : decode M_Model_die.2.1 55 = .ok (.putfield 289, 3) := by decide +kernel
theorem d_Model_die_58 : decode M_Model_die.2.1 58 = .ok (.aload_n 0, 1) := by decide +kernel
theorem d_Model_die_59 : decode M_Model_die.2.1 59 = .ok (.getfield 78, 3) := by decide +kernel
theorem d_Model_die_62 : decode M_Model_die.2.1 62 = .ok (.iload_n 1, 1) := by decide +kernel
theorem d_Model_die_63 : decode M_Model_die.2.1 63 = .ok (.aload_n 0, 1) := by decide +kernel
theorem d_Model_die_64 : decode M_Model_die.2.1 64 = .ok (.getfield 286, 3) := by decide +kernel
theorem d_Model_die_67 : decode M_Model_die.2.1 67 = .ok (.iastore, 1) := by decide +kernel
theorem d_Model_die_68 : decode M_Model_die.2.1 68 = .ok (.iconst 1, 1) := by decide +kernel
theorem d_Model_die_69 : decode M_Model_die.2.1 69 = .ok (.ireturn, 1) := by decide +kernel
theorem d_Model_undo_0 : decode M_Model_undo.2.1 0 = .ok (.aload_n 0, 1) := by decide +kernel
theorem d_Model_undo_1 : decode M_Model_undo.2.1 1 = .ok (.iconst 0, 1) := by decide +kernel
theorem d_Model_undo_2 : decode M_Model_undo.2.1 2 = .ok (.putfield 114, 3) := by decide +kernel
theorem d_Model_undo_5 : decode M_Model_undo.2.1 5 = .ok (.aload_n 0, 1) := by decide +kernel
theorem d_Model_undo_6 : decode M_Model_undo.2.1 6 = .ok (.getfield 295, 3) := by decide +kernel
theorem d_Model_undo_9 : decode M_Model_undo.2.1 9 = .ok (.ifCond .ne 5, 3) := by decide +kernel
theorem d_Model_undo_12 : decode M_Model_undo.2.1 12 = .ok (.iconst (-1), 1) := by decide +kernel
theorem d_Model_undo_13 : decode M_Model_undo.2.1 13 = .ok (.ireturn, 1) := by decide +kernel
theorem d_Model_undo_14 : decode M_Model_undo.2.1 14 = .ok (.aload_n 0, 1) := by decide +kernel
theorem d_Model_undo_15 : decode M_Model_undo.2.1 15 = .ok (.dup, 1) := by decide +kernel
theorem d_Model_undo_16 : decode M_Model_undo.2.1 16 = .ok (.getfield 295, 3) := by decide +kernel
theorem d_Model_undo_19 : decode M_Model_undo.2.1 19 = .ok (.iconst 1, 1) := by decide +kernel
theorem d_Model_undo_20 : decode M_Model_undo.2.1 20 = .ok (.isub, 1) := by decide +kernel
theorem d_Model_undo_21 : decode M_Model_undo.2.1 21 = .ok (.putfield 295, 3) := by decide +kernel
theorem d_Model_undo_24 : decode M_Model_undo.2.1 24 = .ok (.aload_n 0, 1) := by decide +kernel
theorem d_Model_undo_25 : decode M_Model_undo.2.1 25 = .ok (.aload_n 0, 1) := by decide +kernel
theorem d_Model_undo_26 : decode M_Model_undo.2.1 26 = .ok (.getfield 81, 3) := by decide +kernel
theorem d_Model_undo_29 : decode M_Model_undo.2.1 29 = .ok (.sipush 231, 3) := by decide +kernel
theorem d_Model_undo_32 : decode M_Model_undo.2.1 32 = .ok (.aload_n 0, 1) := by decide +kernel
theorem d_Model_undo_33 : decode M_Model_undo.2.1 33 = .ok (.getfield 295, 3) := by decide +kernel
theorem d_Model_undo_36 : decode M_Model_undo.2.1 36 = .ok (.imul, 1) := by decide +kernel
theorem d_Model_undo_37 : decode M_Model_undo.2.1 37 = .ok (.invokevirtual 393, 3) := by decide +kernel
theorem d_Model_undo_40 : decode M_Model_undo.2.1 40 = .ok (.aload_n 0, 1) := by decide +kernel
theorem d_Model_undo_41 : decode M_Model_undo.2.1 41 = .ok (.getfield 295, 3) := by decide +kernel
theorem d_Model_undo_44 : decode M_Model_undo.2.1 44 = .ok (.ireturn, 1) := by decide +kernel
theorem d_Model_isOfKind_0 : decode M_Model_isOfKind.2.1 0 = .ok (.aload_n 0, 1) := by decide +kernel
theorem d_Model_isOfKind_1 : decode M_Model_isOfKind.2.1 1 = .ok (.iload_n 1, 1) := by decide +kernel
theorem d_Model_isOfKind_2 : decode M_Model_isOfKind.2.1 2 = .ok (.invokevirtual 315, 3) := by decide +kernel
theorem d_Model_isOfKind_5 : decode M_Model_isOfKind.2.1 5 = .ok (.ifCond .eq 27, 3) := by decide +kernel
theorem d_Model_isOfKind_8 : decode M_Model_isOfKind.2.1 8 = .ok (.aload_n 0, 1) := by decide +kernel
theorem d_Model_isOfKind_9 : decode M_Model_isOfKind.2.1 9 = .ok (.iload_n 1, 1) := by decide +kernel
theorem d_Model_isOfKind_10 : decode M_Model_isOfKind.2.1 10 = .ok (.iconst 0, 1) := by decide +kernel
theorem d_Model_isOfKind_11 : decode M_Model_isOfKind.2.1 11 = .ok (.invokevirtual 305, 3) := by decide +kernel
theorem d_Model_isOfKind_14 : decode M_Model_isOfKind.2.1 14 = .ok (.iload_n 2, 1) := by decide +kernel
theorem d_Model_isOfKind_15 : decode M_Model_isOfKind.2.1 15 = .ok (.if_icmp .ne 17, 3) := by decide +kernel
theorem d_Model_isOfKind_18 : decode M_Model_isOfKind.2.1 18 = .ok (.aload_n 0, 1) := by decide +kernel
theorem d_Model_isOfKind_19 : decode M_Model_isOfKind.2.1 19 = .ok (.iload_n 1, 1) := by decide +kernel
theorem d_Model_isOfKind_20 : decode M_Model_isOfKind.2.1 20 = .ok (.iconst 3, 1) := by decide +kernel
theorem d_Model_isOfKind_21 : decode M_Model_isOfKind.2.1 21 = .ok (.invokevirtual 305, 3) := by decide +kernel
theorem d_Model_isOfKind_24 : decode M_Model_isOfKind.2.1 24 = .ok (.iload_n 3, 1) := by decide +kernel
theorem d_Model_isOfKind_25 : decode M_Model_isOfKind.2.1 25 = .ok (.if_icmp .ne 7, 3) := by decide +kernel
theorem d_Model_isOfKind_28 : decode M_Model_isOfKind.2.1 28 = .ok (.iconst 1, 1) := by decide +kernel
theorem d_Model_isOfKind_29 : decode M_Model_isOfKind.2.1 29 = .ok (.goto 4, 3) := by decide +kernel
theorem d_Model_isOfKind_32 : decode M_Model_isOfKind.2.1 32 = .ok (.iconst 0, 1) := by decide +kernel
theorem d_Model_isOfKind_33 : decode M_Model_isOfKind.2.1 33 = .ok (.ireturn, 1) := by decide +kernel
theorem d_Model_law_0 : decode M_Model_law.2.1 0 = .ok (.aload_n 0, 1) := by decide +kernel
theorem d_Model_law_1 : decode M_Model_law.2.1 1 = .ok (.iconst 0, 1) := by decide +kernel
theorem d_Model_law_2 : decode M_Model_law.2.1 2 = .ok (.putfield 114, 3) := by decide +kernel
theorem d_Model_law_5 : decode M_Model_law.2.1 5 = .ok (.iload_n 1, 1) := by decide +kernel
theorem d_Model_law_6 : decode M_Model_law.2.1 6 = .ok (.invokestatic 376, 3) := by decide +kernel
theorem d_Model_law_9 : decode M_Model_law.2.1 9 = .ok (.ifCond .ne 9, 3) := by decide +kernel
theorem d_Model_law_12 : decode M_Model_law.2.1 12 = .ok (.aload_n 0, 1) := by decide +kernel
theorem d_Model_law_13 : decode M_Model_law.2.1 13 = .ok (.iconst 1, 1) := by decide +kernel
theorem d_Model_law_14 : decode M_Model_law.2.1 14 = .ok (.invokevirtual 273, 3) := by decide +kernel
theorem d_Model_law_17 : decode M_Model_law.2.1 17 = .ok (.ireturn, 1) := by decide +kernel
theorem d_Model_law_18 : decode M_Model_law.2.1 18 = .ok (.iconst (-1), 1) := by decide +kernel
theorem d_Model_law_19 : decode M_Model_law.2.1 19 = .ok (.istore_n 2, 1) := by decide +kernel
theorem d_Model_law_20 : decode M_Model_law.2.1 20 = .ok (.iconst 0, 1) := by decide +kernel
theorem d_Model_law_21 : decode M_Model_law.2.1 21 = .ok (.istore_n 3, 1) := by decide +kernel
theorem d_Model_law_22 : decode M_Model_law.2.1 22 = .ok (.iconst 0, 1) := by decide +kernel
theorem d_Model_law_23 : decode M_Model_law.2.1 23 = .ok (.istore 4, 2) := by decide +kernel
theorem d_Model_law_25 : decode M_Model_law.2.1 25 = .ok (.iload 4, 2) := by decide +kernel
theorem d_Model_law_27 : decode M_Model_law.2.1 27 = .ok (.aload_n 0, 1) := by decide +kernel
theorem d_Model_law_28 : decode M_Model_law.2.1 28 = .ok (.getfield 121, 3) := by decide +kernel
theorem d_Model_law_31 : decode M_Model_law.2.1 31 = .ok (.if_icmp .ge 106, 3) := by decide +kernel
theorem d_Model_law_34 : decode M_Model_law.2.1 34 = .ok (.aload_n 0, 1) := by decide +kernel
theorem d_Model_law_35 : decode M_Model_law.2.1 35 = .ok (.iload 4, 2) := by decide +kernel
theorem d_Model_law_37 : decode M_Model_law.2.1 37 = .ok (.iconst 0, 1) := by decide +kernel
theorem d_Model_law_38 : decode M_Model_law.2.1 38 = .ok (.iload_n 1, 1) := by decide +kernel
theorem d_Model_law_39 : decode M_Model_law.2.1 39 = .ok (.invokevirtual 396, 3) := by decide +kernel
theorem d_Model_law_42 : decode M_Model_law.2.1 42 = .ok (.ifCond .eq 89, 3) := by decide +kernel
theorem d_Model_law_45 : decode M_Model_law.2.1 45 = .ok (.iload_n 2, 1) := by decide +kernel
theorem d_Model_law_46 : decode M_Model_law.2.1 46 = .ok (.iconst (-1), 1) := by decide +kernel
theorem d_Model_law_47 : decode M_Model_law.2.1 47 = .ok (.if_icmp .eq 22, 3) := by decide +kernel
theorem d_Model_law_50 : decode M_Model_law.2.1 50 = .ok (.aload_n 0, 1) := by decide +kernel
theorem d_Model_law_51 : decode M_Model_law.2.1 51 = .ok (.iload 4, 2) := by decide +kernel
theorem d_Model_law_53 : decode M_Model_law.2.1 53 = .ok (.iconst 2, 1) := by decide +kernel
theorem d_Model_law_54 : decode M_Model_law.2.1 54 = .ok (.invokevirtual 305, 3) := by decide +kernel
theorem d_Model_law_57 : decode M_Model_law.2.1 57 = .ok (.aload_n 0, 1) := by decide +kernel
theorem d_Model_law_58 : decode M_Model_law.2.1 58 = .ok (.iload_n 2, 1) := by decide +kernel
theorem d_Model_law_59 : decode M_Model_law.2.1 59 = .ok (.iconst 2, 1) := by decide +kernel
theorem d_Model_law_60 : decode M_Model_law.2.1 60 = .ok (.invokevirtual 305, 3) := by decide +kernel
theorem d_Model_law_63 : decode M_Model_law.2.1 63 = .ok (.if_icmp .ge 6, 3) := by decide +kernel
theorem d_Model_law_66 : decode M_Model_law.2.1 66 = .ok (.goto 65, 3) := by decide +kernel
theorem d_Model_law_69 : decode M_Model_law.2.1 69 = .ok (.iload_n 2, 1) := by decide +kernel
theorem d_Model_law_70 : decode M_Model_law.2.1 70 = .ok (.iconst (-1), 1) := by decide +kernel
theorem d_Model_law_71 : decode M_Model_law.2.1 71 = .ok (.if_icmp .eq 23, 3) := by decide +kernel
theorem d_Model_law_74 : decode M_Model_law.2.1 74 = .ok (.aload_n 0, 1) := by decide +kernel
theorem d_Model_law_75 : decode M_Model_law.2.1 75 = .ok (.iload 4, 2) := by decide +kernel
theorem d_Model_law_77 : decode M_Model_law.2.1 77 = .ok (.iconst 2, 1) := by decide +kernel
theorem d_Model_law_78 : decode M_Model_law.2.1 78 = .ok (.invokevirtual 305, 3) := by decide +kernel
theorem d_Model_law_81 : decode M_Model_law.2.1 81 = .ok (.aload_n 0, 1) := by decide +kernel
theorem d_Model_law_82 : decode M_Model_law.2.1 82 = .ok (.iload_n 2, 1) := by decide +kernel
theorem d_Model_law_83 : decode M_Model_law.2.1 83 = .ok (.iconst 2, 1) := by decide +kernel
theorem d_Model_law_84 : decode M_Model_law.2.1 84 = .ok (.invokevirtual 305, 3) := by decide +kernel
theorem d_Model_law_87 : decode M_Model_law.2.1 87 = .ok (.if_icmp .ne 7, 3) := by decide +kernel
theorem d_Model_law_90 : decode M_Model_law.2.1 90 = .ok (.iconst 1, 1) := by decide +kernel
theorem d_Model_law_91 : decode M_Model_law.2.1 91 = .ok (.goto 4, 3) := by decide +kernel
theorem d_Model_law_94 : decode M_Model_law.2.1 94 = .ok (.iconst 0, 1) := by decide +kernel
theorem d_Model_law_95 : decode M_Model_law.2.1 95 = .ok (.istore 5, 2) := by decide +kernel
theorem d_Model_law_97 : decode M_Model_law.2.1 97 = .ok (.iload 5, 2) := by decide +kernel
theorem d_Model_law_99 : decode M_Model_law.2.1 99 = .ok (.ifCond .eq 27, 3) := by decide +kernel
theorem d_Model_law_102 : decode M_Model_law.2.1 102 = .ok (.iload_n 3, 1) := by decide +kernel
theorem d_Model_law_103 : decode M_Model_law.2.1 103 = .ok (.ifCond .ne 19, 3) := by decide +kernel
theorem d_Model_law_106 : decode M_Model_law.2.1 106 = .ok (.aload_n 0, 1) := by decide +kernel
theorem d_Model_law_107 : decode M_Model_law.2.1 107 = .ok (.iload 4, 2) := by decide +kernel
theorem d_Model_law_109 : decode M_Model_law.2.1 109 = .ok (.iconst 4, 1) := by decide +kernel
theorem d_Model_law_110 : decode M_Model_law.2.1 110 = .ok (.invokevirtual 305, 3) := by decide +kernel
theorem d_Model_law_113 : decode M_Model_law.2.1 113 = .ok (.aload_n 0, 1) := by decide +kernel
theorem d_Model_law_114 : decode M_Model_law.2.1 114 = .ok (.iload_n 2, 1) := by decide +kernel
theorem d_Model_law_115 : decode M_Model_law.2.1 115 = .ok (.iconst 4, 1) := by decide +kernel
theorem d_Model_law_116 : decode M_Model_law.2.1 116 = .ok (.invokevirtual 305, 3) := by decide +kernel
theorem d_Model_law_119 : decode M_Model_law.2.1 119 = .ok (.if_icmp .eq 7, 3) := by decide +kernel
theorem d_Model_law_122 : decode M_Model_law.2.1 122 = .ok (.iconst 1, 1) := by decide +kernel
theorem d_Model_law_123 : decode M_Model_law.2.1 123 = .ok (.goto 4, 3) := by decide +kernel
theorem d_Model_law_126 : decode M_Model_law.2.1 126 = .ok (.iconst 0, 1) := by decide +kernel
theorem d_Model_law_127 : decode M_Model_law.2.1 127 = .ok (.istore_n 3, 1) := by decide +kernel
theorem d_Model_law_128 : decode M_Model_law.2.1 128 = .ok (.iload 4, 2) := by decide +kernel
theorem d_Model_law_130 : decode M_Model_law.2.1 130 = .ok (.istore_n 2, 1) := by decide +kernel
theorem d_Model_law_131 : decode M_Model_law.2.1 131 = .ok (.iinc 4 1, 3) := by decide +kernel
theorem d_Model_law_134 : decode M_Model_law.2.1 134 = .ok (.goto (-109), 3) := by decide +kernel
theorem d_Model_law_137 : decode M_Model_law.2.1 137 = .ok (.iload_n 2, 1) := by decide +kernel
theorem d_Model_law_138 : decode M_Model_law.2.1 138 = .ok (.iconst (-1), 1) := by decide +kernel
theorem d_Model_law_139 : decode M_Model_law.2.1 139 = .ok (.if_icmp .ne 7, 3) := by decide +kernel
theorem d_Model_law_142 : decode M_Model_law.2.1 142 = .ok (.iconst (-1), 1) := by decide +kernel
theorem d_Model_law_143 : decode M_Model_law.2.1 143 = .ok (.goto 18, 3) := by decide +kernel
theorem d_Model_law_146 : decode M_Model_law.2.1 146 = .ok (.iload_n 3, 1) := by decide +kernel
theorem d_Model_law_147 : decode M_Model_law.2.1 147 = .ok (.ifCond .eq 8, 3) := by decide +kernel
theorem d_Model_law_150 : decode M_Model_law.2.1 150 = .ok (.bipush (-2), 2) := by decide +kernel
theorem d_Model_law_152 : decode M_Model_law.2.1 152 = .ok (.goto 9, 3) := by decide +kernel
theorem d_Model_law_155 : decode M_Model_law.2.1 155 = .ok (.aload_n 0, 1) := by decide +kernel
theorem d_Model_law_156 : decode M_Model_law.2.1 156 = .ok (.iload_n 2, 1) := by decide +kernel
theorem d_Model_law_157 : decode M_Model_law.2.1 157 = .ok (.iconst 4, 1) := by decide +kernel
theorem d_Model_law_158 : decode M_Model_law.2.1 158 = .ok (.invokevirtual 305, 3) := by decide +kernel
theorem d_Model_law_161 : decode M_Model_law.2.1 161 = .ok (.ireturn, 1) := by decide +kernel
theorem d_Model_areRivals_0 : decode M_Model_areRivals.2.1 0 = .ok (.iconst 0, 1) := by decide +kernel
theorem d_Model_areRivals_1 : decode M_Model_areRivals.2.1 1 = .ok (.istore_n 3, 1) := by decide +kernel
theorem d_Model_areRivals_2 : decode M_Model_areRivals.2.1 2 = .ok (.iload_n 3, 1) := by decide +kernel
theorem d_Model_areRivals_3 : decode M_Model_areRivals.2.1 3 = .ok (.aload_n 0, 1) := by decide +kernel
theorem d_Model_areRivals_4 : decode M_Model_areRivals.2.1 4 = .ok (.getfield 121, 3) := by decide +kernel
theorem d_Model_areRivals_7 : decode M_Model_areRivals.2.1 7 = .ok (.if_icmp .ge 116, 3) := by decide +kernel
theorem d_Model_areRivals_10 : decode M_Model_areRivals.2.1 10 = .ok (.aload_n 0, 1) := by decide +kernel
theorem d_Model_areRivals_11 : decode M_Model_areRivals.2.1 11 = .ok (.iload_n 3, 1) := by decide +kernel
theorem d_Model_areRivals_12 : decode M_Model_areRivals.2.1 12 = .ok (.iconst 0, 1) := by decide +kernel
theorem d_Model_areRivals_13 : decode M_Model_areRivals.2.1 13 = .ok (.aload_n 0, 1) := by decide +kernel
theorem d_Model_areRivals_14 : decode M_Model_areRivals.2.1 14 = .ok (.iload_n 3, 1) := by decide +kernel
theorem d_Model_areRivals_15 : decode M_Model_areRivals.2.1 15 = .ok (.iconst 3, 1) := by decide +kernel
theorem d_Model_areRivals_16 : decode M_Model_areRivals.2.1 16 = .ok (.invokevirtual 305, 3) := by decide +kernel
theorem d_Model_areRivals_19 : decode M_Model_areRivals.2.1 19 = .ok (.invokevirtual 396, 3) := by decide +kernel
theorem d_Model_areRivals_22 : decode M_Model_areRivals.2.1 22 = .ok (.ifCond .eq 95, 3) := by decide +kernel
theorem d_Model_areRivals_25 : decode M_Model_areRivals.2.1 25 = .ok (.aload_n 0, 1) := by decide +kernel
theorem d_Model_areRivals_26 : decode M_Model_areRivals.2.1 26 = .ok (.iload_n 3, 1) := by decide +kernel
theorem d_Model_areRivals_27 : decode M_Model_areRivals.2.1 27 = .ok (.iconst 1, 1) := by decide +kernel
theorem d_Model_areRivals_28 : decode M_Model_areRivals.2.1 28 = .ok (.invokevirtual 305, 3) := by decide +kernel
theorem d_Model_areRivals_31 : decode M_Model_areRivals.2.1 31 = .ok (.iload_n 1, 1) := by decide +kernel
theorem d_Model_areRivals_32 : decode M_Model_areRivals.2.1 32 = .ok (.if_icmp .eq 6, 3) := by decide +kernel
theorem d_Model_areRivals_35 : decode M_Model_areRivals.2.1 35 = .ok (.goto 82, 3) := by decide +kernel
theorem d_Model_areRivals_38 : decode M_Model_areRivals.2.1 38 = .ok (.iconst 0, 1) := by decide +kernel
theorem d_Model_areRivals_39 : decode M_Model_areRivals.2.1 39 = .ok (.istore 4, 2) := by decide +kernel
theorem d_Model_areRivals_41 : decode M_Model_areRivals.2.1 41 = .ok (.iload 4, 2) := by decide +kernel
theorem d_Model_areRivals_43 : decode M_Model_areRivals.2.1 43 = .ok (.aload_n 0, 1) := by decide +kernel
theorem d_Model_areRivals_44 : decode M_Model_areRivals.2.1 44 = .ok (.getfield 121, 3) := by decide +kernel
theorem d_Model_areRivals_47 : decode M_Model_areRivals.2.1 47 = .ok (.if_icmp .ge 70, 3) := by decide +kernel
theorem d_Model_areRivals_50 : decode M_Model_areRivals.2.1 50 = .ok (.aload_n 0, 1) := by decide +kernel
theorem d_Model_areRivals_51 : decode M_Model_areRivals.2.1 51 = .ok (.iload 4, 2) := by decide +kernel
theorem d_Model_areRivals_53 : decode M_Model_areRivals.2.1 53 = .ok (.iconst 0, 1) := by decide +kernel
theorem d_Model_areRivals_54 : decode M_Model_areRivals.2.1 54 = .ok (.aload_n 0, 1) := by decide +kernel
theorem d_Model_areRivals_55 : decode M_Model_areRivals.2.1 55 = .ok (.iload_n 3, 1) := by decide +kernel
theorem d_Model_areRivals_56 : decode M_Model_areRivals.2.1 56 = .ok (.iconst 3, 1) := by decide +kernel
theorem d_Model_areRivals_57 : decode M_Model_areRivals.2.1 57 = .ok (.invokevirtual 305, 3) := by decide +kernel
theorem d_Model_areRivals_60 : decode M_Model_areRivals.2.1 60 = .ok (.invokevirtual 396, 3) := by decide +kernel
theorem d_Model_areRivals_63 : decode M_Model_areRivals.2.1 63 = .ok (.ifCond .eq 48, 3) := by decide +kernel
theorem d_Model_areRivals_66 : decode M_Model_areRivals.2.1 66 = .ok (.aload_n 0, 1) := by decide +kernel
theorem d_Model_areRivals_67 : decode M_Model_areRivals.2.1 67 = .ok (.iload 4, 2) := by decide +kernel
theorem d_Model_areRivals_69 : decode M_Model_areRivals.2.1 69 = .ok (.iconst 1, 1) := by decide +kernel
theorem d_Model_areRivals_70 : decode M_Model_areRivals.2.1 70 = .ok (.invokevirtual 305, 3) := by decide +kernel
theorem d_Model_areRivals_73 : decode M_Model_areRivals.2.1 73 = .ok (.iload_n 2, 1) := by decide +kernel
theorem d_Model_areRivals_74 : decode M_Model_areRivals.2.1 74 = .ok (.if_icmp .ne 37, 3) := by decide +kernel
theorem d_Model_areRivals_77 : decode M_Model_areRivals.2.1 77 = .ok (.aload_n 0, 1) := by decide +kernel
theorem d_Model_areRivals_78 : decode M_Model_areRivals.2.1 78 = .ok (.iload 4, 2) := by decide +kernel
theorem d_Model_areRivals_80 : decode M_Model_areRivals.2.1 80 = .ok (.iconst 2, 1) := by decide +kernel
theorem d_Model_areRivals_81 : decode M_Model_areRivals.2.1 81 = .ok (.invokevirtual 305, 3) := by decide +kernel
theorem d_Model_areRivals_84 : decode M_Model_areRivals.2.1 84 = .ok (.aload_n 0, 1) := by decide +kernel
theorem d_Model_areRivals_85 : decode M_Model_areRivals.2.1 85 = .ok (.iload_n 3, 1) := by decide +kernel
theorem d_Model_areRivals_86 : decode M_Model_areRivals.2.1 86 = .ok (.iconst 2, 1) := by decide +kernel
theorem d_Model_areRivals_87 : decode M_Model_areRivals.2.1 87 = .ok (.invokevirtual 305, 3) := by decide +kernel
theorem d_Model_areRivals_90 : decode M_Model_areRivals.2.1 90 = .ok (.if_icmp .ne 21, 3) := by decide +kernel
theorem d_Model_areRivals_93 : decode M_Model_areRivals.2.1 93 = .ok (.aload_n 0, 1) := by decide +kernel
theorem d_Model_areRivals_94 : decode M_Model_areRivals.2.1 94 = .ok (.iload 4, 2) := by decide +kernel
theorem d_Model_areRivals_96 : decode M_Model_areRivals.2.1 96 = .ok (.iconst 4, 1) := by decide +kernel
theorem d_Model_areRivals_97 : decode M_Model_areRivals.2.1 97 = .ok (.invokevirtual 305, 3) := by decide +kernel
theorem d_Model_areRivals_100 : decode M_Model_areRivals.2.1 100 = .ok (.aload_n 0, 1) := by decide +kernel
theorem d_Model_areRivals_101 : decode M_Model_areRivals.2.1 101 = .ok (.iload_n 3, 1) := by decide +kernel
theorem d_Model_areRivals_102 : decode M_Model_areRivals.2.1 102 = .ok (.iconst 4, 1) := by decide +kernel
theorem d_Model_areRivals_103 : decode M_Model_areRivals.2.1 103 = .ok (.invokevirtual 305, 3) := by decide +kernel
theorem d_Model_areRivals_106 : decode M_Model_areRivals.2.1 106 = .ok (.if_icmp .eq 5, 3) := by decide +kernel
theorem d_Model_areRivals_109 : decode M_Model_areRivals.2.1 109 = .ok (.iconst 1, 1) := by decide +kernel
theorem d_Model_areRivals_110 : decode M_Model_areRivals.2.1 110 = .ok (.ireturn, 1) := by decide +kernel
theorem d_Model_areRivals_111 : decode M_Model_areRivals.2.1 111 = .ok (.iinc 4 1, 3) := by decide +kernel
theorem d_Model_areRivals_114 : decode M_Model_areRivals.2.1 114 = .ok (.goto (-73), 3) := by decide +kernel
theorem d_Model_areRivals_117 : decode M_Model_areRivals.2.1 117 = .ok (.iinc 3 1, 3) := by decide +kernel
theorem d_Model_areRivals_120 : decode M_Model_areRivals.2.1 120 = .ok (.goto (-118), 3) := by decide +kernel
theorem d_Model_areRivals_123 : decode M_Model_areRivals.2.1 123 = .ok (.iconst 0, 1) := by decide +kernel
theorem d_Model_areRivals_124 : decode M_Model_areRivals.2.1 124 = .ok (.ireturn, 1) := by decide +kernel
theorem d_Model_rivals_0 : decode M_Model_rivals.2.1 0 = .ok (.aload_n 0, 1) := by decide +kernel
theorem d_Model_rivals_1 : decode M_Model_rivals.2.1 1 = .ok (.iconst 0, 1) := by decide +kernel
theorem d_Model_rivals_2 : decode M_Model_rivals.2.1 2 = .ok (.putfield 114, 3) := by decide +kernel
theorem d_Model_rivals_5 : decode M_Model_rivals.2.1 5 = .ok (.iconst 0, 1) := by decide +kernel
theorem d_Model_rivals_6 : decode M_Model_rivals.2.1 6 = .ok (.istore_n 1, 1) := by decide +kernel
theorem d_Model_rivals_7 : decode M_Model_rivals.2.1 7 = .ok (.iconst 0, 1) := by decide +kernel
theorem d_Model_rivals_8 : decode M_Model_rivals.2.1 8 = .ok (.istore_n 2, 1) := by decide +kernel
theorem d_Model_rivals_9 : decode M_Model_rivals.2.1 9 = .ok (.iload_n 2, 1) := by decide +kernel
theorem d_Model_rivals_10 : decode M_Model_rivals.2.1 10 = .ok (.aload_n 0, 1) := by decide +kernel
theorem d_Model_rivals_11 : decode M_Model_rivals.2.1 11 = .ok (.getfield 51, 3) := by decide +kernel
theorem d_Model_rivals_14 : decode M_Model_rivals.2.1 14 = .ok (.iconst 0, 1) := by decide +kernel
theorem d_Model_rivals_15 : decode M_Model_rivals.2.1 15 = .ok (.iaload, 1) := by decide +kernel
theorem d_Model_rivals_16 : decode M_Model_rivals.2.1 16 = .ok (.if_icmp .ge 46, 3) := by decide +kernel
theorem d_Model_rivals_19 : decode M_Model_rivals.2.1 19 = .ok (.iload_n 2, 1) := by decide +kernel
theorem d_Model_rivals_20 : decode M_Model_rivals.2.1 20 = .ok (.iconst 1, 1) := by decide +kernel
theorem d_Model_rivals_21 : decode M_Model_rivals.2.1 21 = .ok (.iadd, 1) := by decide +kernel
theorem d_Model_rivals_22 : decode M_Model_rivals.2.1 22 = .ok (.istore_n 3, 1) := by decide +kernel
theorem d_Model_rivals_23 : decode M_Model_rivals.2.1 23 = .ok (.iload_n 3, 1) := by decide +kernel
theorem d_Model_rivals_24 : decode M_Model_rivals.2.1 24 = .ok (.aload_n 0, 1) := by decide +kernel
theorem d_Model_rivals_25 : decode M_Model_rivals.2.1 25 = .ok (.getfield 51, 3) := by decide +kernel
theorem d_Model_rivals_28 : decode M_Model_rivals.2.1 28 = .ok (.iconst 0, 1) := by decide +kernel
theorem d_Model_rivals_29 : decode M_Model_rivals.2.1 29 = .ok (.iaload, 1) := by decide +kernel
theorem d_Model_rivals_30 : decode M_Model_rivals.2.1 30 = .ok (.if_icmp .ge 26, 3) := by decide +kernel
theorem d_Model_rivals_33 : decode M_Model_rivals.2.1 33 = .ok (.iload_n 1, 1) := by decide +kernel
theorem d_Model_rivals_34 : decode M_Model_rivals.2.1 34 = .ok (.aload_n 0, 1) := by decide +kernel
theorem d_Model_rivals_35 : decode M_Model_rivals.2.1 35 = .ok (.iload_n 2, 1) := by decide +kernel
theorem d_Model_rivals_36 : decode M_Model_rivals.2.1 36 = .ok (.iload_n 3, 1) := by decide +kernel
theorem d_Model_rivals_37 : decode M_Model_rivals.2.1 37 = .ok (.invokevirtual 400, 3) := by decide +kernel
theorem d_Model_rivals_40 : decode M_Model_rivals.2.1 40 = .ok (.ifCond .eq 7, 3) := by decide +kernel
theorem d_Model_rivals_43 : decode M_Model_rivals.2.1 43 = .ok (.iconst 1, 1) := by decide +kernel
theorem d_Model_rivals_44 : decode M_Model_rivals.2.1 44 = .ok (.goto 4, 3) := by decide +kernel
theorem d_Model_rivals_47 : decode M_Model_rivals.2.1 47 = .ok (.iconst 0, 1) := by decide +kernel
theorem d_Model_rivals_48 : decode M_Model_rivals.2.1 48 = .ok (.iadd, 1) := by decide +kernel
theorem d_Model_rivals_49 : decode M_Model_rivals.2.1 49 = .ok (.istore_n 1, 1) := by decide +kernel
theorem d_Model_rivals_50 : decode M_Model_rivals.2.1 50 = .ok (.iinc 3 1, 3) := by decide +kernel
theorem d_Model_rivals_53 : decode M_Model_rivals.2.1 53 = .ok (.goto (-30), 3) := by decide +kernel
theorem d_Model_rivals_56 : decode M_Model_rivals.2.1 56 = .ok (.iinc 2 1, 3) := by decide +kernel
theorem d_Model_rivals_59 : decode M_Model_rivals.2.1 59 = .ok (.goto (-50), 3) := by decide +kernel
theorem d_Model_rivals_62 : decode M_Model_rivals.2.1 62 = .ok (.iload_n 1, 1) := by decide +kernel
theorem d_Model_rivals_63 : decode M_Model_rivals.2.1 63 = .ok (.ireturn, 1) := by decide +kernel
theorem d_Model_owedNow_0 : decode M_Model_owedNow.2.1 0 = .ok (.iconst 0, 1) := by decide +kernel
theorem d_Model_owedNow_1 : decode M_Model_owedNow.2.1 1 = .ok (.istore_n 2, 1) := by decide +kernel
theorem d_Model_owedNow_2 : decode M_Model_owedNow.2.1 2 = .ok (.iconst 0, 1) := by decide +kernel
theorem d_Model_owedNow_3 : decode M_Model_owedNow.2.1 3 = .ok (.istore_n 3, 1) := by decide +kernel
theorem d_Model_owedNow_4 : decode M_Model_owedNow.2.1 4 = .ok (.iconst 0, 1) := by decide +kernel
theorem d_Model_owedNow_5 : decode M_Model_owedNow.2.1 5 = .ok (.istore 4, 2) := by decide +kernel
theorem d_Model_owedNow_7 : decode M_Model_owedNow.2.1 7 = .ok (.iload 4, 2) := by decide +kernel
theorem d_Model_owedNow_9 : decode M_Model_owedNow.2.1 9 = .ok (.aload_n 0, 1) := by decide +kernel
theorem d_Model_owedNow_10 : decode M_Model_owedNow.2.1 10 = .ok (.getfield 121, 3) := by decide +kernel
theorem d_Model_owedNow_13 : decode M_Model_owedNow.2.1 13 = .ok (.if_icmp .ge 112, 3) := by decide +kernel
theorem d_Model_owedNow_16 : decode M_Model_owedNow.2.1 16 = .ok (.aload_n 0, 1) := by decide +kernel
theorem d_Model_owedNow_17 : decode M_Model_owedNow.2.1 17 = .ok (.iload 4, 2) := by decide +kernel
theorem d_Model_owedNow_19 : decode M_Model_owedNow.2.1 19 = .ok (.invokevirtual 315, 3) := by decide +kernel
theorem d_Model_owedNow_22 : decode M_Model_owedNow.2.1 22 = .ok (.ifCond .eq 97, 3) := by decide +kernel
theorem d_Model_owedNow_25 : decode M_Model_owedNow.2.1 25 = .ok (.iload_n 2, 1) := by decide +kernel
theorem d_Model_owedNow_26 : decode M_Model_owedNow.2.1 26 = .ok (.aload_n 0, 1) := by decide +kernel
theorem d_Model_owedNow_27 : decode M_Model_owedNow.2.1 27 = .ok (.iload 4, 2) := by decide +kernel
theorem d_Model_owedNow_29 : decode M_Model_owedNow.2.1 29 = .ok (.bipush 7, 2) := by decide +kernel
theorem d_Model_owedNow_31 : decode M_Model_owedNow.2.1 31 = .ok (.invokevirtual 305, 3) := by decide +kernel
theorem d_Model_owedNow_34 : decode M_Model_owedNow.2.1 34 = .ok (.invokestatic 308, 3) := by decide +kernel
theorem d_Model_owedNow_37 : decode M_Model_owedNow.2.1 37 = .ok (.ifCond .ne 82, 3) := by decide +kernel
theorem d_Model_owedNow_40 : decode M_Model_owedNow.2.1 40 = .ok (.iload_n 1, 1) := by decide +kernel
theorem d_Model_owedNow_41 : decode M_Model_owedNow.2.1 41 = .ok (.iconst (-1), 1) := by decide +kernel
theorem d_Model_owedNow_42 : decode M_Model_owedNow.2.1 42 = .ok (.if_icmp .eq 17, 3) := by decide +kernel
theorem d_Model_owedNow_45 : decode M_Model_owedNow.2.1 45 = .ok (.aload_n 0, 1) := by decide +kernel
theorem d_Model_owedNow_46 : decode M_Model_owedNow.2.1 46 = .ok (.iload 4, 2) := by decide +kernel
theorem d_Model_owedNow_48 : decode M_Model_owedNow.2.1 48 = .ok (.iconst 3, 1) := by decide +kernel
theorem d_Model_owedNow_49 : decode M_Model_owedNow.2.1 49 = .ok (.invokevirtual 305, 3) := by decide +kernel
theorem d_Model_owedNow_52 : decode M_Model_owedNow.2.1 52 = .ok (.iload_n 1, 1) := by decide +kernel
theorem d_Model_owedNow_53 : decode M_Model_owedNow.2.1 53 = .ok (.if_icmp .eq 6, 3) := by decide +kernel
theorem d_Model_owedNow_56 : decode M_Model_owedNow.2.1 56 = .ok (.goto 63, 3) := by decide +kernel
theorem d_Model_owedNow_59 : decode M_Model_owedNow.2.1 59 = .ok (.iload_n 2, 1) := by decide +kernel
theorem d_Model_owedNow_60 : decode M_Model_owedNow.2.1 60 = .ok (.iconst 1, 1) := by decide +kernel
theorem d_Model_owedNow_61 : decode M_Model_owedNow.2.1 61 = .ok (.aload_n 0, 1) := by decide +kernel
theorem d_Model_owedNow_62 : decode M_Model_owedNow.2.1 62 = .ok (.iload 4, 2) := by decide +kernel
theorem d_Model_owedNow_64 : decode M_Model_owedNow.2.1 64 = .ok (.bipush 7, 2) := by decide +kernel
theorem d_Model_owedNow_66 : decode M_Model_owedNow.2.1 66 = .ok (.invokevirtual 305, 3) := by decide +kernel
theorem d_Model_owedNow_69 : decode M_Model_owedNow.2.1 69 = .ok (.ishl, 1) := by decide +kernel
theorem d_Model_owedNow_70 : decode M_Model_owedNow.2.1 70 = .ok (.ior, 1) := by decide +kernel
theorem d_Model_owedNow_71 : decode M_Model_owedNow.2.1 71 = .ok (.istore_n 2, 1) := by decide +kernel
theorem d_Model_owedNow_72 : decode M_Model_owedNow.2.1 72 = .ok (.iload_n 3, 1) := by decide +kernel
theorem d_Model_owedNow_73 : decode M_Model_owedNow.2.1 73 = .ok (.aload_n 0, 1) := by decide +kernel
theorem d_Model_owedNow_74 : decode M_Model_owedNow.2.1 74 = .ok (.iload 4, 2) := by decide +kernel
theorem d_Model_owedNow_76 : decode M_Model_owedNow.2.1 76 = .ok (.iconst 0, 1) := by decide +kernel
theorem d_Model_owedNow_77 : decode M_Model_owedNow.2.1 77 = .ok (.invokevirtual 305, 3) := by decide +kernel
theorem d_Model_owedNow_80 : decode M_Model_owedNow.2.1 80 = .ok (.iconst 1, 1) := by decide +kernel
theorem d_Model_owedNow_81 : decode M_Model_owedNow.2.1 81 = .ok (.if_icmp .ne 13, 3) := by decide +kernel
theorem d_Model_owedNow_84 : decode M_Model_owedNow.2.1 84 = .ok (.aload_n 0, 1) := by decide +kernel
theorem d_Model_owedNow_85 : decode M_Model_owedNow.2.1 85 = .ok (.iload 4, 2) := by decide +kernel
theorem d_Model_owedNow_87 : decode M_Model_owedNow.2.1 87 = .ok (.iconst 4, 1) := by decide +kernel
theorem d_Model_owedNow_88 : decode M_Model_owedNow.2.1 88 = .ok (.invokevirtual 305, 3) := by decide +kernel
theorem d_Model_owedNow_91 : decode M_Model_owedNow.2.1 91 = .ok (.goto 26, 3) := by decide +kernel
theorem d_Model_owedNow_94 : decode M_Model_owedNow.2.1 94 = .ok (.aload_n 0, 1) := by decide +kernel
theorem d_Model_owedNow_95 : decode M_Model_owedNow.2.1 95 = .ok (.iload 4, 2) := by decide +kernel
theorem d_Model_owedNow_97 : decode M_Model_owedNow.2.1 97 = .ok (.iconst 0, 1) := by decide +kernel
theorem d_Model_owedNow_98 : decode M_Model_owedNow.2.1 98 = .ok (.invokevirtual 305, 3) := by decide +kernel
theorem d_Model_owedNow_101 : decode M_Model_owedNow.2.1 101 = .ok (.iconst 2, 1) := by decide +kernel
theorem d_Model_owedNow_102 : decode M_Model_owedNow.2.1 102 = .ok (.if_icmp .ne 14, 3) := by decide +kernel
theorem d_Model_owedNow_105 : decode M_Model_owedNow.2.1 105 = .ok (.aload_n 0, 1) := by decide +kernel
theorem d_Model_owedNow_106 : decode M_Model_owedNow.2.1 106 = .ok (.iload 4, 2) := by decide +kernel
theorem d_Model_owedNow_108 : decode M_Model_owedNow.2.1 108 = .ok (.iconst 4, 1) := by decide +kernel
theorem d_Model_owedNow_109 : decode M_Model_owedNow.2.1 109 = .ok (.invokevirtual 305, 3) := by decide +kernel
theorem d_Model_owedNow_112 : decode M_Model_owedNow.2.1 112 = .ok (.ineg, 1) := by decide +kernel
theorem d_Model_owedNow_113 : decode M_Model_owedNow.2.1 113 = .ok (.goto 4, 3) := by decide +kernel
theorem d_Model_owedNow_116 : decode M_Model_owedNow.2.1 116 = .ok (.iconst 0, 1) := by decide +kernel
theorem d_Model_owedNow_117 : decode M_Model_owedNow.2.1 117 = .ok (.iadd, 1) := by decide +kernel
theorem d_Model_owedNow_118 : decode M_Model_owedNow.2.1 118 = .ok (.istore_n 3, 1) := by decide +kernel
theorem d_Model_owedNow_119 : decode M_Model_owedNow.2.1 119 = .ok (.iinc 4 1, 3) := by decide +kernel
theorem d_Model_owedNow_122 : decode M_Model_owedNow.2.1 122 = .ok (.goto (-115), 3) := by decide +kernel
theorem d_Model_owedNow_125 : decode M_Model_owedNow.2.1 125 = .ok (.iload_n 3, 1) := by decide +kernel
theorem d_Model_owedNow_126 : decode M_Model_owedNow.2.1 126 = .ok (.ireturn, 1) := by decide +kernel
theorem d_Model_owed_0 : decode M_Model_owed.2.1 0 = .ok (.aload_n 0, 1) := by decide +kernel
theorem d_Model_owed_1 : decode M_Model_owed.2.1 1 = .ok (.iconst 0, 1) := by decide +kernel
theorem d_Model_owed_2 : decode M_Model_owed.2.1 2 = .ok (.putfield 114, 3) := by decide +kernel
theorem d_Model_owed_5 : decode M_Model_owed.2.1 5 = .ok (.iload_n 1, 1) := by decide +kernel
theorem d_Model_owed_6 : decode M_Model_owed.2.1 6 = .ok (.invokestatic 376, 3) := by decide +kernel
theorem d_Model_owed_9 : decode M_Model_owed.2.1 9 = .ok (.ifCond .eq 11, 3) := by decide +kernel
theorem d_Model_owed_12 : decode M_Model_owed.2.1 12 = .ok (.aload_n 0, 1) := by decide +kernel
theorem d_Model_owed_13 : decode M_Model_owed.2.1 13 = .ok (.iload_n 1, 1) := by decide +kernel
theorem d_Model_owed_14 : decode M_Model_owed.2.1 14 = .ok (.invokevirtual 403, 3) := by decide +kernel
theorem d_Model_owed_17 : decode M_Model_owed.2.1 17 = .ok (.goto 8, 3) := by decide +kernel
theorem d_Model_owed_20 : decode M_Model_owed.2.1 20 = .ok (.aload_n 0, 1) := by decide +kernel
theorem d_Model_owed_21 : decode M_Model_owed.2.1 21 = .ok (.iconst 1, 1) := by decide +kernel
theorem d_Model_owed_22 : decode M_Model_owed.2.1 22 = .ok (.invokevirtual 273, 3) := by decide +kernel
theorem d_Model_owed_25 : decode M_Model_owed.2.1 25 = .ok (.ireturn, 1) := by decide +kernel
theorem d_Model_cover_0 : decode M_Model_cover.2.1 0 = .ok (.aload_n 0, 1) := by decide +kernel
theorem d_Model_cover_1 : decode M_Model_cover.2.1 1 = .ok (.iconst 0, 1) := by decide +kernel
theorem d_Model_cover_2 : decode M_Model_cover.2.1 2 = .ok (.putfield 114, 3) := by decide +kernel
theorem d_Model_cover_5 : decode M_Model_cover.2.1 5 = .ok (.iconst (-1), 1) := by decide +kernel
theorem d_Model_cover_6 : decode M_Model_cover.2.1 6 = .ok (.istore_n 1, 1) := by decide +kernel
theorem d_Model_cover_7 : decode M_Model_cover.2.1 7 = .ok (.aload_n 0, 1) := by decide +kernel
theorem d_Model_cover_8 : decode M_Model_cover.2.1 8 = .ok (.invokevirtual 329, 3) := by decide +kernel
theorem d_Model_cover_11 : decode M_Model_cover.2.1 11 = .ok (.istore_n 2, 1) := by decide +kernel
theorem d_Model_cover_12 : decode M_Model_cover.2.1 12 = .ok (.iconst 0, 1) := by decide +kernel
theorem d_Model_cover_13 : decode M_Model_cover.2.1 13 = .ok (.istore_n 3, 1) := by decide +kernel
theorem d_Model_cover_14 : decode M_Model_cover.2.1 14 = .ok (.iload_n 3, 1) := by decide +kernel
theorem d_Model_cover_15 : decode M_Model_cover.2.1 15 = .ok (.iconst 1, 1) := by decide +kernel
theorem d_Model_cover_16 : decode M_Model_cover.2.1 16 = .ok (.aload_n 0, 1) := by decide +kernel
theorem d_Model_cover_17 : decode M_Model_cover.2.1 17 = .ok (.getfield 51, 3) := by decide +kernel
theorem d_Model_cover_20 : decode M_Model_cover.2.1 20 = .ok (.iconst 0, 1) := by decide +kernel
theorem d_Model_cover_21 : decode M_Model_cover.2.1 21 = .ok (.iaload, 1) := by decide +kernel
theorem d_Model_cover_22 : decode M_Model_cover.2.1 22 = .ok (.ishl, 1) := by decide +kernel
theorem d_Model_cover_23 : decode M_Model_cover.2.1 23 = .ok (.if_icmp .ge 89, 3) := by decide +kernel
theorem d_Model_cover_26 : decode M_Model_cover.2.1 26 = .ok (.iload_n 1, 1) := by decide +kernel
theorem d_Model_cover_27 : decode M_Model_cover.2.1 27 = .ok (.iconst (-1), 1) := by decide +kernel
theorem d_Model_cover_28 : decode M_Model_cover.2.1 28 = .ok (.if_icmp .eq 14, 3) := by decide +kernel
theorem d_Model_cover_31 : decode M_Model_cover.2.1 31 = .ok (.iload_n 3, 1) := by decide +kernel
theorem d_Model_cover_32 : decode M_Model_cover.2.1 32 = .ok (.invokestatic 332, 3) := by decide +kernel
theorem d_Model_cover_35 : decode M_Model_cover.2.1 35 = .ok (.iload_n 1, 1) := by decide +kernel
theorem d_Model_cover_36 : decode M_Model_cover.2.1 36 = .ok (.invokestatic 332, 3) := by decide +kernel
theorem d_Model_cover_39 : decode M_Model_cover.2.1 39 = .ok (.if_icmp .ge 7, 3) := by decide +kernel
theorem d_Model_cover_42 : decode M_Model_cover.2.1 42 = .ok (.iconst 1, 1) := by decide +kernel
theorem d_Model_cover_43 : decode M_Model_cover.2.1 43 = .ok (.goto 4, 3) := by decide +kernel
theorem d_Model_cover_46 : decode M_Model_cover.2.1 46 = .ok (.iconst 0, 1) := by decide +kernel
theorem d_Model_cover_47 : decode M_Model_cover.2.1 47 = .ok (.istore 4, 2) := by decide +kernel
theorem d_Model_cover_49 : decode M_Model_cover.2.1 49 = .ok (.iconst 0, 1) := by decide +kernel
theorem d_Model_cover_50 : decode M_Model_cover.2.1 50 = .ok (.istore 5, 2) := by decide +kernel
theorem d_Model_cover_52 : decode M_Model_cover.2.1 52 = .ok (.iload 5, 2) := by decide +kernel
theorem d_Model_cover_54 : decode M_Model_cover.2.1 54 = .ok (.aload_n 0, 1) := by decide +kernel
theorem d_Model_cover_55 : decode M_Model_cover.2.1 55 = .ok (.getfield 121, 3) := by decide +kernel
theorem d_Model_cover_58 : decode M_Model_cover.2.1 58 = .ok (.if_icmp .ge 41, 3) := by decide +kernel
theorem d_Model_cover_61 : decode M_Model_cover.2.1 61 = .ok (.iload 4, 2) := by decide +kernel
theorem d_Model_cover_63 : decode M_Model_cover.2.1 63 = .ok (.ifCond .eq 36, 3) := by decide +kernel
theorem d_Model_cover_66 : decode M_Model_cover.2.1 66 = .ok (.iload_n 2, 1) := by decide +kernel
theorem d_Model_cover_67 : decode M_Model_cover.2.1 67 = .ok (.iload 5, 2) := by decide +kernel
theorem d_Model_cover_69 : decode M_Model_cover.2.1 69 = .ok (.invokestatic 308, 3) := by decide +kernel
theorem d_Model_cover_72 : decode M_Model_cover.2.1 72 = .ok (.ifCond .eq 14, 3) := by decide +kernel
theorem d_Model_cover_75 : decode M_Model_cover.2.1 75 = .ok (.aload_n 0, 1) := by decide +kernel
theorem d_Model_cover_76 : decode M_Model_cover.2.1 76 = .ok (.iload 5, 2) := by decide +kernel
theorem d_Model_cover_78 : decode M_Model_cover.2.1 78 = .ok (.invokevirtual 346, 3) := by decide +kernel
theorem d_Model_cover_81 : decode M_Model_cover.2.1 81 = .ok (.iload_n 3, 1) := by decide +kernel
theorem d_Model_cover_82 : decode M_Model_cover.2.1 82 = .ok (.iand, 1) := by decide +kernel
theorem d_Model_cover_83 : decode M_Model_cover.2.1 83 = .ok (.ifCond .eq 7, 3) := by decide +kernel
theorem d_Model_cover_86 : decode M_Model_cover.2.1 86 = .ok (.iconst 1, 1) := by decide +kernel
theorem d_Model_cover_87 : decode M_Model_cover.2.1 87 = .ok (.goto 4, 3) := by decide +kernel
theorem d_Model_cover_90 : decode M_Model_cover.2.1 90 = .ok (.iconst 0, 1) := by decide +kernel
theorem d_Model_cover_91 : decode M_Model_cover.2.1 91 = .ok (.istore 4, 2) := by decide +kernel
theorem d_Model_cover_93 : decode M_Model_cover.2.1 93 = .ok (.iinc 5 1, 3) := by decide +kernel
theorem d_Model_cover_96 : decode M_Model_cover.2.1 96 = .ok (.goto (-44), 3) := by decide +kernel
theorem d_Model_cover_99 : decode M_Model_cover.2.1 99 = .ok (.iload 4, 2) := by decide +kernel
theorem d_Model_cover_101 : decode M_Model_cover.2.1 101 = .ok (.ifCond .eq 5, 3) := by decide +kernel
theorem d_Model_cover_104 : decode M_Model_cover.2.1 104 = .ok (.iload_n 3, 1) := by decide +kernel
theorem d_Model_cover_105 : decode M_Model_cover.2.1 105 = .ok (.istore_n 1, 1) := by decide +kernel
theorem d_Model_cover_106 : decode M_Model_cover.2.1 106 = .ok (.iinc 3 1, 3) := by decide +kernel
theorem d_Model_cover_109 : decode M_Model_cover.2.1 109 = .ok (.goto (-95), 3) := by decide +kernel
theorem d_Model_cover_112 : decode M_Model_cover.2.1 112 = .ok (.iload_n 1, 1) := by decide +kernel
theorem d_Model_cover_113 : decode M_Model_cover.2.1 113 = .ok (.ireturn, 1) := by decide +kernel
theorem d_Model_alone_0 : decode M_Model_alone.2.1 0 = .ok (.aload_n 0, 1) := by decide +kernel
theorem d_Model_alone_1 : decode M_Model_alone.2.1 1 = .ok (.iconst 0, 1) := by decide +kernel
theorem d_Model_alone_2 : decode M_Model_alone.2.1 2 = .ok (.putfield 114, 3) := by decide +kernel
theorem d_Model_alone_5 : decode M_Model_alone.2.1 5 = .ok (.iconst 0, 1) := by decide +kernel
theorem d_Model_alone_6 : decode M_Model_alone.2.1 6 = .ok (.istore_n 1, 1) := by decide +kernel
theorem d_Model_alone_7 : decode M_Model_alone.2.1 7 = .ok (.iconst 0, 1) := by decide +kernel
theorem d_Model_alone_8 : decode M_Model_alone.2.1 8 = .ok (.istore_n 2, 1) := by decide +kernel
theorem d_Model_alone_9 : decode M_Model_alone.2.1 9 = .ok (.iload_n 2, 1) := by decide +kernel
theorem d_Model_alone_10 : decode M_Model_alone.2.1 10 = .ok (.aload_n 0, 1) := by decide +kernel
theorem d_Model_alone_11 : decode M_Model_alone.2.1 11 = .ok (.getfield 121, 3) := by decide +kernel
theorem d_Model_alone_14 : decode M_Model_alone.2.1 14 = .ok (.if_icmp .ge 29, 3) := by decide +kernel
theorem d_Model_alone_17 : decode M_Model_alone.2.1 17 = .ok (.iload_n 1, 1) := by decide +kernel
theorem d_Model_alone_18 : decode M_Model_alone.2.1 18 = .ok (.aload_n 0, 1) := by decide +kernel
theorem d_Model_alone_19 : decode M_Model_alone.2.1 19 = .ok (.iload_n 2, 1) := by decide +kernel
theorem d_Model_alone_20 : decode M_Model_alone.2.1 20 = .ok (.invokevirtual 346, 3) := by decide +kernel
theorem d_Model_alone_23 : decode M_Model_alone.2.1 23 = .ok (.invokestatic 332, 3) := by decide +kernel
theorem d_Model_alone_26 : decode M_Model_alone.2.1 26 = .ok (.iconst 1, 1) := by decide +kernel
theorem d_Model_alone_27 : decode M_Model_alone.2.1 27 = .ok (.if_icmp .ne 7, 3) := by decide +kernel
theorem d_Model_alone_30 : decode M_Model_alone.2.1 30 = .ok (.iconst 1, 1) := by decide +kernel
theorem d_Model_alone_31 : decode M_Model_alone.2.1 31 = .ok (.goto 4, 3) := by decide +kernel
theorem d_Model_alone_34 : decode M_Model_alone.2.1 34 = .ok (.iconst 0, 1) := by decide +kernel
theorem d_Model_alone_35 : decode M_Model_alone.2.1 35 = .ok (.iadd, 1) := by decide +kernel
theorem d_Model_alone_36 : decode M_Model_alone.2.1 36 = .ok (.istore_n 1, 1) := by decide +kernel
theorem d_Model_alone_37 : decode M_Model_alone.2.1 37 = .ok (.iinc 2 1, 3) := by decide +kernel
theorem d_Model_alone_40 : decode M_Model_alone.2.1 40 = .ok (.goto (-31), 3) := by decide +kernel
theorem d_Model_alone_43 : decode M_Model_alone.2.1 43 = .ok (.iload_n 1, 1) := by decide +kernel
theorem d_Model_alone_44 : decode M_Model_alone.2.1 44 = .ok (.ireturn, 1) := by decide +kernel
theorem d_Model_shaveNow_0 : decode M_Model_shaveNow.2.1 0 = .ok (.iload_n 2, 1) := by decide +kernel
theorem d_Model_shaveNow_1 : decode M_Model_shaveNow.2.1 1 = .ok (.aload_n 0, 1) := by decide +kernel
theorem d_Model_shaveNow_2 : decode M_Model_shaveNow.2.1 2 = .ok (.getfield 59, 3) := by decide +kernel
theorem d_Model_shaveNow_5 : decode M_Model_shaveNow.2.1 5 = .ok (.iload_n 1, 1) := by decide +kernel
theorem d_Model_shaveNow_6 : decode M_Model_shaveNow.2.1 6 = .ok (.iaload, 1) := by decide +kernel
theorem d_Model_shaveNow_7 : decode M_Model_shaveNow.2.1 7 = .ok (.if_icmp .lt 4, 3) := by decide +kernel
theorem d_Model_shaveNow_10 : decode M_Model_shaveNow.2.1 10 = .ok (.return_, 1) := by decide +kernel
theorem d_Model_shaveNow_11 : decode M_Model_shaveNow.2.1 11 = .ok (.aload_n 0, 1) := by decide +kernel
theorem d_Model_shaveNow_12 : decode M_Model_shaveNow.2.1 12 = .ok (.getfield 59, 3) := by decide +kernel
theorem d_Model_shaveNow_15 : decode M_Model_shaveNow.2.1 15 = .ok (.iload_n 1, 1) := by decide +kernel
theorem d_Model_shaveNow_16 : decode M_Model_shaveNow.2.1 16 = .ok (.iload_n 2, 1) := by decide +kernel
theorem d_Model_shaveNow_17 : decode M_Model_shaveNow.2.1 17 = .ok (.iastore, 1) := by decide +kernel
theorem d_Model_shaveNow_18 : decode M_Model_shaveNow.2.1 18 = .ok (.aload_n 0, 1) := by decide +kernel
theorem d_Model_shaveNow_19 : decode M_Model_shaveNow.2.1 19 = .ok (.invokevirtual 292, 3) := by decide +kernel
theorem d_Model_shaveNow_22 : decode M_Model_shaveNow.2.1 22 = .ok (.pop, 1) := by decide +kernel
theorem d_Model_shaveNow_23 : decode M_Model_shaveNow.2.1 23 = .ok (.return_, 1) := by decide +kernel
theorem d_Model_lostByRazors_0 : decode M_Model_lostByRazors.2.1 0 = .ok (.aload_n 0, 1) := by decide +kernel
theorem d_Model_lostByRazors_1 : decode M_Model_lostByRazors.2.1 1 = .ok (.invokevirtual 329, 3) := by decide +kernel
theorem d_Model_lostByRazors_4 : decode M_Model_lostByRazors.2.1 4 = .ok (.istore_n 2, 1) := by decide +kernel
theorem d_Model_lostByRazors_5 : decode M_Model_lostByRazors.2.1 5 = .ok (.aload_n 0, 1) := by decide +kernel
theorem d_Model_lostByRazors_6 : decode M_Model_lostByRazors.2.1 6 = .ok (.aload_n 0, 1) := by decide +kernel
theorem d_Model_lostByRazors_7 : decode M_Model_lostByRazors.2.1 7 = .ok (.getfield 90, 3) := by decide +kernel
theorem d_Model_lostByRazors_10 : decode M_Model_lostByRazors.2.1 10 = .ok (.iconst 0, 1) := by decide +kernel
theorem d_Model_lostByRazors_11 : decode M_Model_lostByRazors.2.1 11 = .ok (.invokevirtual 359, 3) := by decide +kernel
theorem d_Model_lostByRazors_14 : decode M_Model_lostByRazors.2.1 14 = .ok (.iconst 0, 1) := by decide +kernel
theorem d_Model_lostByRazors_15 : decode M_Model_lostByRazors.2.1 15 = .ok (.istore_n 3, 1) := by decide +kernel
theorem d_Model_lostByRazors_16 : decode M_Model_lostByRazors.2.1 16 = .ok (.iload_n 3, 1) := by decide +kernel
theorem d_Model_lostByRazors_17 : decode M_Model_lostByRazors.2.1 17 = .ok (.aload_n 0, 1) := by decide +kernel
theorem d_Model_lostByRazors_18 : decode M_Model_lostByRazors.2.1 18 = .ok (.getfield 51, 3) := by decide +kernel
theorem d_Model_lostByRazors_21 : decode M_Model_lostByRazors.2.1 21 = .ok (.iconst 0, 1) := by decide +kernel
theorem d_Model_lostByRazors_22 : decode M_Model_lostByRazors.2.1 22 = .ok (.iaload, 1) := by decide +kernel
theorem d_Model_lostByRazors_23 : decode M_Model_lostByRazors.2.1 23 = .ok (.if_icmp .ge 23, 3) := by decide +kernel
theorem d_Model_lostByRazors_26 : decode M_Model_lostByRazors.2.1 26 = .ok (.iload_n 1, 1) := by decide +kernel
theorem d_Model_lostByRazors_27 : decode M_Model_lostByRazors.2.1 27 = .ok (.iload_n 3, 1) := by decide +kernel
theorem d_Model_lostByRazors_28 : decode M_Model_lostByRazors.2.1 28 = .ok (.invokestatic 308, 3) := by decide +kernel
theorem d_Model_lostByRazors_31 : decode M_Model_lostByRazors.2.1 31 = .ok (.ifCond .eq 9, 3) := by decide +kernel
theorem d_Model_lostByRazors_34 : decode M_Model_lostByRazors.2.1 34 = .ok (.aload_n 0, 1) := by decide +kernel
theorem d_Model_lostByRazors_35 : decode M_Model_lostByRazors.2.1 35 = .ok (.iload_n 3, 1) := by decide +kernel
theorem d_Model_lostByRazors_36 : decode M_Model_lostByRazors.2.1 36 = .ok (.iconst 0, 1) := by decide +kernel
theorem d_Model_lostByRazors_37 : decode M_Model_lostByRazors.2.1 37 = .ok (.invokevirtual 406, 3) := by decide +kernel
theorem d_Model_lostByRazors_40 : decode M_Model_lostByRazors.2.1 40 = .ok (.iinc 3 1, 3) := by decide +kernel
theorem d_Model_lostByRazors_43 : decode M_Model_lostByRazors.2.1 43 = .ok (.goto (-27), 3) := by decide +kernel
theorem d_Model_lostByRazors_46 : decode M_Model_lostByRazors.2.1 46 = .ok (.aload_n 0, 1) := by decide +kernel
theorem d_Model_lostByRazors_47 : decode M_Model_lostByRazors.2.1 47 = .ok (.invokevirtual 329, 3) := by decide +kernel
theorem d_Model_lostByRazors_50 : decode M_Model_lostByRazors.2.1 50 = .ok (.istore_n 3, 1) := by decide +kernel
theorem d_Model_lostByRazors_51 : decode M_Model_lostByRazors.2.1 51 = .ok (.aload_n 0, 1) := by decide +kernel
theorem d_Model_lostByRazors_52 : decode M_Model_lostByRazors.2.1 52 = .ok (.aload_n 0, 1) := by decide +kernel
theorem d_Model_lostByRazors_53 : decode M_Model_lostByRazors.2.1 53 = .ok (.getfield 90, 3) := by decide +kernel
theorem d_Model_lostByRazors_56 : decode M_Model_lostByRazors.2.1 56 = .ok (.iconst 0, 1) := by decide +kernel
theorem d_Model_lostByRazors_57 : decode M_Model_lostByRazors.2.1 57 = .ok (.invokevirtual 393, 3) := by decide +kernel
theorem d_Model_lostByRazors_60 : decode M_Model_lostByRazors.2.1 60 = .ok (.iload_n 2, 1) := by decide +kernel
theorem d_Model_lostByRazors_61 : decode M_Model_lostByRazors.2.1 61 = .ok (.iload_n 3, 1) := by decide +kernel
theorem d_Model_lostByRazors_62 : decode M_Model_lostByRazors.2.1 62 = .ok (.iconst (-1), 1) := by decide +kernel
theorem d_Model_lostByRazors_63 : decode M_Model_lostByRazors.2.1 63 = .ok (.ixor, 1) := by decide +kernel
theorem d_Model_lostByRazors_64 : decode M_Model_lostByRazors.2.1 64 = .ok (.iand, 1) := by decide +kernel
theorem d_Model_lostByRazors_65 : decode M_Model_lostByRazors.2.1 65 = .ok (.ireturn, 1) := by decide +kernel
theorem d_Model_noPlaits_0 : decode M_Model_noPlaits.2.1 0 = .ok (.iconst 0, 1) := by decide +kernel
theorem d_Model_noPlaits_1 : decode M_Model_noPlaits.2.1 1 = .ok (.istore_n 1, 1) := by decide +kernel
theorem d_Model_noPlaits_2 : decode M_Model_noPlaits.2.1 2 = .ok (.iconst 0, 1) := by decide +kernel
theorem d_Model_noPlaits_3 : decode M_Model_noPlaits.2.1 3 = .ok (.istore_n 2, 1) := by decide +kernel
theorem d_Model_noPlaits_4 : decode M_Model_noPlaits.2.1 4 = .ok (.iload_n 2, 1) := by decide +kernel
theorem d_Model_noPlaits_5 : decode M_Model_noPlaits.2.1 5 = .ok (.aload_n 0, 1) := by decide +kernel
theorem d_Model_noPlaits_6 : decode M_Model_noPlaits.2.1 6 = .ok (.getfield 51, 3) := by decide +kernel
theorem d_Model_noPlaits_9 : decode M_Model_noPlaits.2.1 9 = .ok (.iconst 0, 1) := by decide +kernel
theorem d_Model_noPlaits_10 : decode M_Model_noPlaits.2.1 10 = .ok (.iaload, 1) := by decide +kernel
theorem d_Model_noPlaits_11 : decode M_Model_noPlaits.2.1 11 = .ok (.if_icmp .ge 29, 3) := by decide +kernel
theorem d_Model_noPlaits_14 : decode M_Model_noPlaits.2.1 14 = .ok (.iload_n 1, 1) := by decide +kernel
theorem d_Model_noPlaits_15 : decode M_Model_noPlaits.2.1 15 = .ok (.aload_n 0, 1) := by decide +kernel
theorem d_Model_noPlaits_16 : decode M_Model_noPlaits.2.1 16 = .ok (.getfield 55, 3) := by decide +kernel
theorem d_Model_noPlaits_19 : decode M_Model_noPlaits.2.1 19 = .ok (.iload_n 2, 1) := by decide +kernel
theorem d_Model_noPlaits_20 : decode M_Model_noPlaits.2.1 20 = .ok (.iaload, 1) := by decide +kernel
theorem d_Model_noPlaits_21 : decode M_Model_noPlaits.2.1 21 = .ok (.iconst 3, 1) := by decide +kernel
theorem d_Model_noPlaits_22 : decode M_Model_noPlaits.2.1 22 = .ok (.if_icmp .ne 7, 3) := by decide +kernel
theorem d_Model_noPlaits_25 : decode M_Model_noPlaits.2.1 25 = .ok (.iconst 0, 1) := by decide +kernel
theorem d_Model_noPlaits_26 : decode M_Model_noPlaits.2.1 26 = .ok (.goto 6, 3) := by decide +kernel
theorem d_Model_noPlaits_29 : decode M_Model_noPlaits.2.1 29 = .ok (.iconst 1, 1) := by decide +kernel
theorem d_Model_noPlaits_30 : decode M_Model_noPlaits.2.1 30 = .ok (.iload_n 2, 1) := by decide +kernel
theorem d_Model_noPlaits_31 : decode M_Model_noPlaits.2.1 31 = .ok (.ishl, 1) := by decide +kernel
theorem d_Model_noPlaits_32 : decode M_Model_noPlaits.2.1 32 = .ok (.ior, 1) := by decide +kernel
theorem d_Model_noPlaits_33 : decode M_Model_noPlaits.2.1 33 = .ok (.istore_n 1, 1) := by decide +kernel
theorem d_Model_noPlaits_34 : decode M_Model_noPlaits.2.1 34 = .ok (.iinc 2 1, 3) := by decide +kernel
theorem d_Model_noPlaits_37 : decode M_Model_noPlaits.2.1 37 = .ok (.goto (-33), 3) := by decide +kernel
theorem d_Model_noPlaits_40 : decode M_Model_noPlaits.2.1 40 = .ok (.iload_n 1, 1) := by decide +kernel
theorem d_Model_noPlaits_41 : decode M_Model_noPlaits.2.1 41 = .ok (.ireturn, 1) := by decide +kernel
theorem d_Model_barbers_0 : decode M_Model_barbers.2.1 0 = .ok (.aload_n 0, 1) := by decide +kernel
theorem d_Model_barbers_1 : decode M_Model_barbers.2.1 1 = .ok (.iconst 0, 1) := by decide +kernel
theorem d_Model_barbers_2 : decode M_Model_barbers.2.1 2 = .ok (.putfield 114, 3) := by decide +kernel
theorem d_Model_barbers_5 : decode M_Model_barbers.2.1 5 = .ok (.iload_n 1, 1) := by decide +kernel
theorem d_Model_barbers_6 : decode M_Model_barbers.2.1 6 = .ok (.i2l, 1) := by decide +kernel
theorem d_Model_barbers_7 : decode M_Model_barbers.2.1 7 = .ok (.lconst 0, 1) := by decide +kernel
theorem d_Model_barbers_8 : decode M_Model_barbers.2.1 8 = .ok (.ldc2_w 410, 3) := by decide +kernel
theorem d_Model_barbers_11 : decode M_Model_barbers.2.1 11 = .ok (.invokestatic 117, 3) := by decide +kernel
theorem d_Model_barbers_14 : decode M_Model_barbers.2.1 14 = .ok (.ifCond .ne 9, 3) := by decide +kernel
theorem d_Model_barbers_17 : decode M_Model_barbers.2.1 17 = .ok (.aload_n 0, 1) := by decide +kernel
theorem d_Model_barbers_18 : decode M_Model_barbers.2.1 18 = .ok (.iconst 1, 1) := by decide +kernel
theorem d_Model_barbers_19 : decode M_Model_barbers.2.1 19 = .ok (.invokevirtual 273, 3) := by decide +kernel
theorem d_Model_barbers_22 : decode M_Model_barbers.2.1 22 = .ok (.ireturn, 1) := by decide +kernel
theorem d_Model_barbers_23 : decode M_Model_barbers.2.1 23 = .ok (.aload_n 0, 1) := by decide +kernel
theorem d_Model_barbers_24 : decode M_Model_barbers.2.1 24 = .ok (.invokevirtual 412, 3) := by decide +kernel
theorem d_Model_barbers_27 : decode M_Model_barbers.2.1 27 = .ok (.istore_n 2, 1) := by decide +kernel
theorem d_Model_barbers_28 : decode M_Model_barbers.2.1 28 = .ok (.iload_n 1, 1) := by decide +kernel
theorem d_Model_barbers_29 : decode M_Model_barbers.2.1 29 = .ok (.iload_n 2, 1) := by decide +kernel
theorem d_Model_barbers_30 : decode M_Model_barbers.2.1 30 = .ok (.invokestatic 332, 3) := by decide +kernel
theorem d_Model_barbers_33 : decode M_Model_barbers.2.1 33 = .ok (.invokestatic 156, 3) := by decide +kernel
theorem d_Model_barbers_36 : decode M_Model_barbers.2.1 36 = .ok (.istore_n 3, 1) := by decide +kernel
theorem d_Model_barbers_37 : decode M_Model_barbers.2.1 37 = .ok (.iconst (-1), 1) := by decide +kernel
theorem d_Model_barbers_38 : decode M_Model_barbers.2.1 38 = .ok (.istore 4, 2) := by decide +kernel
theorem d_Model_barbers_40 : decode M_Model_barbers.2.1 40 = .ok (.iconst 0, 1) := by decide +kernel
theorem d_Model_barbers_41 : decode M_Model_barbers.2.1 41 = .ok (.istore 5, 2) := by decide +kernel
theorem d_Model_barbers_43 : decode M_Model_barbers.2.1 43 = .ok (.iload 5, 2) := by decide +kernel
theorem d_Model_barbers_45 : decode M_Model_barbers.2.1 45 = .ok (.iconst 1, 1) := by decide +kernel
theorem d_Model_barbers_46 : decode M_Model_barbers.2.1 46 = .ok (.aload_n 0, 1) := by decide +kernel
theorem d_Model_barbers_47 : decode M_Model_barbers.2.1 47 = .ok (.getfield 51, 3) := by decide +kernel
theorem d_Model_barbers_50 : decode M_Model_barbers.2.1 50 = .ok (.iconst 0, 1) := by decide +kernel
theorem d_Model_barbers_51 : decode M_Model_barbers.2.1 51 = .ok (.iaload, 1) := by decide +kernel
theorem d_Model_barbers_52 : decode M_Model_barbers.2.1 52 = .ok (.ishl, 1) := by decide +kernel
theorem d_Model_barbers_53 : decode M_Model_barbers.2.1 53 = .ok (.if_icmp .ge 61, 3) := by decide +kernel
theorem d_Model_barbers_56 : decode M_Model_barbers.2.1 56 = .ok (.iload 5, 2) := by decide +kernel
theorem d_Model_barbers_58 : decode M_Model_barbers.2.1 58 = .ok (.iload_n 2, 1) := by decide +kernel
theorem d_Model_barbers_59 : decode M_Model_barbers.2.1 59 = .ok (.iconst (-1), 1) := by decide +kernel
theorem d_Model_barbers_60 : decode M_Model_barbers.2.1 60 = .ok (.ixor, 1) := by decide +kernel
theorem d_Model_barbers_61 : decode M_Model_barbers.2.1 61 = .ok (.iand, 1) := by decide +kernel
theorem d_Model_barbers_62 : decode M_Model_barbers.2.1 62 = .ok (.ifCond .ne 46, 3) := by decide +kernel
theorem d_Model_barbers_65 : decode M_Model_barbers.2.1 65 = .ok (.iload 5, 2) := by decide +kernel
theorem d_Model_barbers_67 : decode M_Model_barbers.2.1 67 = .ok (.invokestatic 332, 3) := by decide +kernel
theorem d_Model_barbers_70 : decode M_Model_barbers.2.1 70 = .ok (.iload_n 3, 1) := by decide +kernel
theorem d_Model_barbers_71 : decode M_Model_barbers.2.1 71 = .ok (.if_icmp .eq 6, 3) := by decide +kernel
theorem d_Model_barbers_74 : decode M_Model_barbers.2.1 74 = .ok (.goto 34, 3) := by decide +kernel
theorem d_Model_barbers_77 : decode M_Model_barbers.2.1 77 = .ok (.iload 4, 2) := by decide +kernel
theorem d_Model_barbers_79 : decode M_Model_barbers.2.1 79 = .ok (.iconst (-1), 1) := by decide +kernel
theorem d_Model_barbers_80 : decode M_Model_barbers.2.1 80 = .ok (.if_icmp .eq 24, 3) := by decide +kernel
theorem d_Model_barbers_83 : decode M_Model_barbers.2.1 83 = .ok (.aload_n 0, 1) := by decide +kernel
theorem d_Model_barbers_84 : decode M_Model_barbers.2.1 84 = .ok (.iload 5, 2) := by decide +kernel
theorem d_Model_barbers_86 : decode M_Model_barbers.2.1 86 = .ok (.invokevirtual 415, 3) := by decide +kernel
theorem d_Model_barbers_89 : decode M_Model_barbers.2.1 89 = .ok (.invokestatic 332, 3) := by decide +kernel
theorem d_Model_barbers_92 : decode M_Model_barbers.2.1 92 = .ok (.aload_n 0, 1) := by decide +kernel
theorem d_Model_barbers_93 : decode M_Model_barbers.2.1 93 = .ok (.iload 4, 2) := by decide +kernel
theorem d_Model_barbers_95 : decode M_Model_barbers.2.1 95 = .ok (.invokevirtual 415, 3) := by decide +kernel
theorem d_Model_barbers_98 : decode M_Model_barbers.2.1 98 = .ok (.invokestatic 332, 3) := by decide +kernel
theorem d_Model_barbers_101 : decode M_Model_barbers.2.1 101 = .ok (.if_icmp .le 7, 3) := by decide +kernel
theorem d_Model_barbers_104 : decode M_Model_barbers.2.1 104 = .ok (.iload 5, 2) := by decide +kernel
theorem d_Model_barbers_106 : decode M_Model_barbers.2.1 106 = .ok (.istore 4, 2) := by decide +kernel
theorem d_Model_barbers_108 : decode M_Model_barbers.2.1 108 = .ok (.iinc 5 1, 3) := by decide +kernel
theorem d_Model_barbers_111 : decode M_Model_barbers.2.1 111 = .ok (.goto (-68), 3) := by decide +kernel
theorem d_Model_barbers_114 : decode M_Model_barbers.2.1 114 = .ok (.iload 4, 2) := by decide +kernel
theorem d_Model_barbers_116 : decode M_Model_barbers.2.1 116 = .ok (.ireturn, 1) := by decide +kernel
theorem d_Model_shortest_0 : decode M_Model_shortest.2.1 0 = .ok (.aload_n 0, 1) := by decide +kernel
theorem d_Model_shortest_1 : decode M_Model_shortest.2.1 1 = .ok (.iconst 0, 1) := by decide +kernel
theorem d_Model_shortest_2 : decode M_Model_shortest.2.1 2 = .ok (.putfield 114, 3) := by decide +kernel
theorem d_Model_shortest_5 : decode M_Model_shortest.2.1 5 = .ok (.aload_n 0, 1) := by decide +kernel
theorem d_Model_shortest_6 : decode M_Model_shortest.2.1 6 = .ok (.iload_n 1, 1) := by decide +kernel
theorem d_Model_shortest_7 : decode M_Model_shortest.2.1 7 = .ok (.invokevirtual 335, 3) := by decide +kernel
theorem d_Model_shortest_10 : decode M_Model_shortest.2.1 10 = .ok (.ifCond .ne 9, 3) := by decide +kernel
theorem d_Model_shortest_13 : decode M_Model_shortest.2.1 13 = .ok (.aload_n 0, 1) := by decide +kernel
theorem d_Model_shortest_14 : decode M_Model_shortest.2.1 14 = .ok (.iconst 1, 1) := by decide +kernel
theorem d_Model_shortest_15 : decode M_Model_shortest.2.1 15 = .ok (.invokevirtual 273, 3) := by decide +kernel
theorem d_Model_shortest_18 : decode M_Model_shortest.2.1 18 = .ok (.ireturn, 1) := by decide +kernel
theorem d_Model_shortest_19 : decode M_Model_shortest.2.1 19 = .ok (.aload_n 0, 1) := by decide +kernel
theorem d_Model_shortest_20 : decode M_Model_shortest.2.1 20 = .ok (.invokevirtual 329, 3) := by decide +kernel
theorem d_Model_shortest_23 : decode M_Model_shortest.2.1 23 = .ok (.istore_n 2, 1) := by decide +kernel
theorem d_Model_shortest_24 : decode M_Model_shortest.2.1 24 = .ok (.aload_n 0, 1) := by decide +kernel
theorem d_Model_shortest_25 : decode M_Model_shortest.2.1 25 = .ok (.aload_n 0, 1) := by decide +kernel
theorem d_Model_shortest_26 : decode M_Model_shortest.2.1 26 = .ok (.getfield 90, 3) := by decide +kernel
theorem d_Model_shortest_29 : decode M_Model_shortest.2.1 29 = .ok (.iconst 0, 1) := by decide +kernel
theorem d_Model_shortest_30 : decode M_Model_shortest.2.1 30 = .ok (.invokevirtual 359, 3) := by decide +kernel
theorem d_Model_shortest_33 : decode M_Model_shortest.2.1 33 = .ok (.aload_n 0, 1) := by decide +kernel
theorem d_Model_shortest_34 : decode M_Model_shortest.2.1 34 = .ok (.getfield 59, 3) := by decide +kernel
theorem d_Model_shortest_37 : decode M_Model_shortest.2.1 37 = .ok (.iload_n 1, 1) := by decide +kernel
theorem d_Model_shortest_38 : decode M_Model_shortest.2.1 38 = .ok (.iaload, 1) := by decide +kernel
theorem d_Model_shortest_39 : decode M_Model_shortest.2.1 39 = .ok (.istore_n 3, 1) := by decide +kernel
theorem d_Model_shortest_40 : decode M_Model_shortest.2.1 40 = .ok (.aload_n 0, 1) := by decide +kernel
theorem d_Model_shortest_41 : decode M_Model_shortest.2.1 41 = .ok (.getfield 59, 3) := by decide +kernel
theorem d_Model_shortest_44 : decode M_Model_shortest.2.1 44 = .ok (.iload_n 1, 1) := by decide +kernel
theorem d_Model_shortest_45 : decode M_Model_shortest.2.1 45 = .ok (.iaload, 1) := by decide +kernel
theorem d_Model_shortest_46 : decode M_Model_shortest.2.1 46 = .ok (.iconst 1, 1) := by decide +kernel
theorem d_Model_shortest_47 : decode M_Model_shortest.2.1 47 = .ok (.isub, 1) := by decide +kernel
theorem d_Model_shortest_48 : decode M_Model_shortest.2.1 48 = .ok (.istore 4, 2) := by decide +kernel
theorem d_Model_shortest_50 : decode M_Model_shortest.2.1 50 = .ok (.iload 4, 2) := by decide +kernel
theorem d_Model_shortest_52 : decode M_Model_shortest.2.1 52 = .ok (.ifCond .lt 27, 3) := by decide +kernel
theorem d_Model_shortest_55 : decode M_Model_shortest.2.1 55 = .ok (.aload_n 0, 1) := by decide +kernel
theorem d_Model_shortest_56 : decode M_Model_shortest.2.1 56 = .ok (.iload_n 1, 1) := by decide +kernel
theorem d_Model_shortest_57 : decode M_Model_shortest.2.1 57 = .ok (.iload 4, 2) := by decide +kernel
theorem d_Model_shortest_59 : decode M_Model_shortest.2.1 59 = .ok (.invokevirtual 406, 3) := by decide +kernel
theorem d_Model_shortest_62 : decode M_Model_shortest.2.1 62 = .ok (.aload_n 0, 1) := by decide +kernel
theorem d_Model_shortest_63 : decode M_Model_shortest.2.1 63 = .ok (.invokevirtual 329, 3) := by decide +kernel
theorem d_Model_shortest_66 : decode M_Model_shortest.2.1 66 = .ok (.iload_n 2, 1) := by decide +kernel
theorem d_Model_shortest_67 : decode M_Model_shortest.2.1 67 = .ok (.if_icmp .ne 6, 3) := by decide +kernel
theorem d_Model_shortest_70 : decode M_Model_shortest.2.1 70 = .ok (.iload 4, 2) := by decide +kernel
theorem d_Model_shortest_72 : decode M_Model_shortest.2.1 72 = .ok (.istore_n 3, 1) := by decide +kernel
theorem d_Model_shortest_73 : decode M_Model_shortest.2.1 73 = .ok (.iinc 4 (-1), 3) := by decide +kernel
theorem d_Model_shortest_76 : decode M_Model_shortest.2.1 76 = .ok (.goto (-26), 3) := by decide +kernel
theorem d_Model_shortest_79 : decode M_Model_shortest.2.1 79 = .ok (.aload_n 0, 1) := by decide +kernel
theorem d_Model_shortest_80 : decode M_Model_shortest.2.1 80 = .ok (.aload_n 0, 1) := by decide +kernel
theorem d_Model_shortest_81 : decode M_Model_shortest.2.1 81 = .ok (.getfield 90, 3) := by decide +kernel
theorem d_Model_shortest_84 : decode M_Model_shortest.2.1 84 = .ok (.iconst 0, 1) := by decide +kernel
theorem d_Model_shortest_85 : decode M_Model_shortest.2.1 85 = .ok (.invokevirtual 393, 3) := by decide +kernel
theorem d_Model_shortest_88 : decode M_Model_shortest.2.1 88 = .ok (.iload_n 3, 1) := by decide +kernel
theorem d_Model_shortest_89 : decode M_Model_shortest.2.1 89 = .ok (.ireturn, 1) := by decide +kernel
theorem d_Model_forgiven_0 : decode M_Model_forgiven.2.1 0 = .ok (.aload_n 0, 1) := by decide +kernel
theorem d_Model_forgiven_1 : decode M_Model_forgiven.2.1 1 = .ok (.invokevirtual 329, 3) := by decide +kernel
theorem d_Model_forgiven_4 : decode M_Model_forgiven.2.1 4 = .ok (.istore 4, 2) := by decide +kernel
theorem d_Model_forgiven_6 : decode M_Model_forgiven.2.1 6 = .ok (.aload_n 0, 1) := by decide +kernel
theorem d_Model_forgiven_7 : decode M_Model_forgiven.2.1 7 = .ok (.aload_n 0, 1) := by decide +kernel
theorem d_Model_forgiven_8 : decode M_Model_forgiven.2.1 8 = .ok (.getfield 90, 3) := by decide +kernel
theorem d_Model_forgiven_11 : decode M_Model_forgiven.2.1 11 = .ok (.iconst 0, 1) := by decide +kernel
theorem d_Model_forgiven_12 : decode M_Model_forgiven.2.1 12 = .ok (.invokevirtual 359, 3) := by decide +kernel
theorem d_Model_forgiven_15 : decode M_Model_forgiven.2.1 15 = .ok (.aload_n 0, 1) := by decide +kernel
theorem d_Model_forgiven_16 : decode M_Model_forgiven.2.1 16 = .ok (.iload_n 1, 1) := by decide +kernel
theorem d_Model_forgiven_17 : decode M_Model_forgiven.2.1 17 = .ok (.iload_n 2, 1) := by decide +kernel
theorem d_Model_forgiven_18 : decode M_Model_forgiven.2.1 18 = .ok (.iload_n 3, 1) := by decide +kernel
theorem d_Model_forgiven_19 : decode M_Model_forgiven.2.1 19 = .ok (.invokevirtual 390, 3) := by decide +kernel
theorem d_Model_forgiven_22 : decode M_Model_forgiven.2.1 22 = .ok (.pop, 1) := by decide +kernel
theorem d_Model_forgiven_23 : decode M_Model_forgiven.2.1 23 = .ok (.iload 4, 2) := by decide +kernel
theorem d_Model_forgiven_25 : decode M_Model_forgiven.2.1 25 = .ok (.aload_n 0, 1) := by decide +kernel
theorem d_Model_forgiven_26 : decode M_Model_forgiven.2.1 26 = .ok (.invokevirtual 329, 3) := by decide +kernel
theorem d_Model_forgiven_29 : decode M_Model_forgiven.2.1 29 = .ok (.iconst (-1), 1) := by decide +kernel
theorem d_Model_forgiven_30 : decode M_Model_forgiven.2.1 30 = .ok (.ixor, 1) := by decide +kernel
theorem d_Model_forgiven_31 : decode M_Model_forgiven.2.1 31 = .ok (.iand, 1) := by decide +kernel
theorem d_Model_forgiven_32 : decode M_Model_forgiven.2.1 32 = .ok (.istore 5, 2) := by decide +kernel
theorem d_Model_forgiven_34 : decode M_Model_forgiven.2.1 34 = .ok (.aload_n 0, 1) := by decide +kernel
theorem d_Model_forgiven_35 : decode M_Model_forgiven.2.1 35 = .ok (.aload_n 0, 1) := by decide +kernel
theorem d_Model_forgiven_36 : decode M_Model_forgiven.2.1 36 = .ok (.getfield 90, 3) := by decide +kernel
theorem d_Model_forgiven_39 : decode M_Model_forgiven.2.1 39 = .ok (.iconst 0, 1) := by decide +kernel
theorem d_Model_forgiven_40 : decode M_Model_forgiven.2.1 40 = .ok (.invokevirtual 393, 3) := by decide +kernel
theorem d_Model_forgiven_43 : decode M_Model_forgiven.2.1 43 = .ok (.iconst 0, 1) := by decide +kernel
theorem d_Model_forgiven_44 : decode M_Model_forgiven.2.1 44 = .ok (.istore 6, 2) := by decide +kernel
theorem d_Model_forgiven_46 : decode M_Model_forgiven.2.1 46 = .ok (.iconst 0, 1) := by decide +kernel
theorem d_Model_forgiven_47 : decode M_Model_forgiven.2.1 47 = .ok (.istore 7, 2) := by decide +kernel
theorem d_Model_forgiven_49 : decode M_Model_forgiven.2.1 49 = .ok (.iload 7, 2) := by decide +kernel
theorem d_Model_forgiven_51 : decode M_Model_forgiven.2.1 51 = .ok (.aload_n 0, 1) := by decide +kernel
theorem d_Model_forgiven_52 : decode M_Model_forgiven.2.1 52 = .ok (.getfield 121, 3) := by decide +kernel
theorem d_Model_forgiven_55 : decode M_Model_forgiven.2.1 55 = .ok (.if_icmp .ge 77, 3) := by decide +kernel
theorem d_Model_forgiven_58 : decode M_Model_forgiven.2.1 58 = .ok (.aload_n 0, 1) := by decide +kernel
theorem d_Model_forgiven_59 : decode M_Model_forgiven.2.1 59 = .ok (.iload 7, 2) := by decide +kernel
theorem d_Model_forgiven_61 : decode M_Model_forgiven.2.1 61 = .ok (.invokevirtual 315, 3) := by decide +kernel
theorem d_Model_forgiven_64 : decode M_Model_forgiven.2.1 64 = .ok (.ifCond .eq 62, 3) := by decide +kernel
theorem d_Model_forgiven_67 : decode M_Model_forgiven.2.1 67 = .ok (.aload_n 0, 1) := by decide +kernel
theorem d_Model_forgiven_68 : decode M_Model_forgiven.2.1 68 = .ok (.iload 7, 2) := by decide +kernel
theorem d_Model_forgiven_70 : decode M_Model_forgiven.2.1 70 = .ok (.iconst 0, 1) := by decide +kernel
theorem d_Model_forgiven_71 : decode M_Model_forgiven.2.1 71 = .ok (.invokevirtual 305, 3) := by decide +kernel
theorem d_Model_forgiven_74 : decode M_Model_forgiven.2.1 74 = .ok (.iconst 1, 1) := by decide +kernel
theorem d_Model_forgiven_75 : decode M_Model_forgiven.2.1 75 = .ok (.if_icmp .ne 51, 3) := by decide +kernel
theorem d_Model_forgiven_78 : decode M_Model_forgiven.2.1 78 = .ok (.iload 5, 2) := by decide +kernel
theorem d_Model_forgiven_80 : decode M_Model_forgiven.2.1 80 = .ok (.aload_n 0, 1) := by decide +kernel
theorem d_Model_forgiven_81 : decode M_Model_forgiven.2.1 81 = .ok (.iload 7, 2) := by decide +kernel
theorem d_Model_forgiven_83 : decode M_Model_forgiven.2.1 83 = .ok (.bipush 7, 2) := by decide +kernel
theorem d_Model_forgiven_85 : decode M_Model_forgiven.2.1 85 = .ok (.invokevirtual 305, 3) := by decide +kernel
theorem d_Model_forgiven_88 : decode M_Model_forgiven.2.1 88 = .ok (.invokestatic 308, 3) := by decide +kernel
theorem d_Model_forgiven_91 : decode M_Model_forgiven.2.1 91 = .ok (.ifCond .ne 6, 3) := by decide +kernel
theorem d_Model_forgiven_94 : decode M_Model_forgiven.2.1 94 = .ok (.goto 32, 3) := by decide +kernel
theorem d_Model_forgiven_97 : decode M_Model_forgiven.2.1 97 = .ok (.iload 6, 2) := by decide +kernel
theorem d_Model_forgiven_99 : decode M_Model_forgiven.2.1 99 = .ok (.aload_n 0, 1) := by decide +kernel
theorem d_Model_forgiven_100 : decode M_Model_forgiven.2.1 100 = .ok (.iload 7, 2) := by decide +kernel
theorem d_Model_forgiven_102 : decode M_Model_forgiven.2.1 102 = .ok (.iconst 4, 1) := by decide +kernel
theorem d_Model_forgiven_103 : decode M_Model_forgiven.2.1 103 = .ok (.invokevirtual 305, 3) := by decide +kernel
theorem d_Model_forgiven_106 : decode M_Model_forgiven.2.1 106 = .ok (.iadd, 1) := by decide +kernel
theorem d_Model_forgiven_107 : decode M_Model_forgiven.2.1 107 = .ok (.istore 6, 2) := by decide +kernel
theorem d_Model_forgiven_109 : decode M_Model_forgiven.2.1 109 = .ok (.iload 5, 2) := by decide +kernel
theorem d_Model_forgiven_111 : decode M_Model_forgiven.2.1 111 = .ok (.iconst 1, 1) := by decide +kernel
theorem d_Model_forgiven_112 : decode M_Model_forgiven.2.1 112 = .ok (.aload_n 0, 1) := by decide +kernel
theorem d_Model_forgiven_113 : decode M_Model_forgiven.2.1 113 = .ok (.iload 7, 2) := by decide +kernel
theorem d_Model_forgiven_115 : decode M_Model_forgiven.2.1 115 = .ok (.bipush 7, 2) := by decide +kernel
theorem d_Model_forgiven_117 : decode M_Model_forgiven.2.1 117 = .ok (.invokevirtual 305, 3) := by decide +kernel
theorem d_Model_forgiven_120 : decode M_Model_forgiven.2.1 120 = .ok (.ishl, 1) := by decide +kernel
theorem d_Model_forgiven_121 : decode M_Model_forgiven.2.1 121 = .ok (.iconst (-1), 1) := by decide +kernel
theorem d_Model_forgiven_122 : decode M_Model_forgiven.2.1 122 = .ok (.ixor, 1) := by decide +kernel
theorem d_Model_forgiven_123 : decode M_Model_forgiven.2.1 123 = .ok (.iand, 1) := by decide +kernel
theorem d_Model_forgiven_124 : decode M_Model_forgiven.2.1 124 = .ok (.istore 5, 2) := by decide +kernel
theorem d_Model_forgiven_126 : decode M_Model_forgiven.2.1 126 = .ok (.iinc 7 1, 3) := by decide +kernel
theorem d_Model_forgiven_129 : decode M_Model_forgiven.2.1 129 = .ok (.goto (-80), 3) := by decide +kernel
theorem d_Model_forgiven_132 : decode M_Model_forgiven.2.1 132 = .ok (.iload 6, 2) := by decide +kernel
theorem d_Model_forgiven_134 : decode M_Model_forgiven.2.1 134 = .ok (.ireturn, 1) := by decide +kernel
theorem d_Model_amnesty_0 : decode M_Model_amnesty.2.1 0 = .ok (.aload_n 0, 1) := by decide +kernel
theorem d_Model_amnesty_1 : decode M_Model_amnesty.2.1 1 = .ok (.iconst 0, 1) := by decide +kernel
theorem d_Model_amnesty_2 : decode M_Model_amnesty.2.1 2 = .ok (.putfield 114, 3) := by decide +kernel
theorem d_Model_amnesty_5 : decode M_Model_amnesty.2.1 5 = .ok (.aload_n 0, 1) := by decide +kernel
theorem d_Model_amnesty_6 : decode M_Model_amnesty.2.1 6 = .ok (.iload_n 1, 1) := by decide +kernel
theorem d_Model_amnesty_7 : decode M_Model_amnesty.2.1 7 = .ok (.invokevirtual 335, 3) := by decide +kernel
theorem d_Model_amnesty_10 : decode M_Model_amnesty.2.1 10 = .ok (.ifCond .eq 12, 3) := by decide +kernel
theorem d_Model_amnesty_13 : decode M_Model_amnesty.2.1 13 = .ok (.iload_n 3, 1) := by decide +kernel
theorem d_Model_amnesty_14 : decode M_Model_amnesty.2.1 14 = .ok (.ifCond .lt 8, 3) := by decide +kernel
theorem d_Model_amnesty_17 : decode M_Model_amnesty.2.1 17 = .ok (.iload_n 3, 1) := by decide +kernel
theorem d_Model_amnesty_18 : decode M_Model_amnesty.2.1 18 = .ok (.iconst 1, 1) := by decide +kernel
theorem d_Model_amnesty_19 : decode M_Model_amnesty.2.1 19 = .ok (.if_icmp .le 9, 3) := by decide +kernel
theorem d_Model_amnesty_22 : decode M_Model_amnesty.2.1 22 = .ok (.aload_n 0, 1) := by decide +kernel
theorem d_Model_amnesty_23 : decode M_Model_amnesty.2.1 23 = .ok (.iconst 1, 1) := by decide +kernel
theorem d_Model_amnesty_24 : decode M_Model_amnesty.2.1 24 = .ok (.invokevirtual 273, 3) := by decide +kernel
theorem d_Model_amnesty_27 : decode M_Model_amnesty.2.1 27 = .ok (.ireturn, 1) := by decide +kernel
theorem d_Model_amnesty_28 : decode M_Model_amnesty.2.1 28 = .ok (.iload_n 2, 1) := by decide +kernel
theorem d_Model_amnesty_29 : decode M_Model_amnesty.2.1 29 = .ok (.i2l, 1) := by decide +kernel
theorem d_Model_amnesty_30 : decode M_Model_amnesty.2.1 30 = .ok (.lconst 0, 1) := by decide +kernel
theorem d_Model_amnesty_31 : decode M_Model_amnesty.2.1 31 = .ok (.ldc2_w 344, 3) := by decide +kernel
theorem d_Model_amnesty_34 : decode M_Model_amnesty.2.1 34 = .ok (.invokestatic 117, 3) := by decide +kernel
theorem d_Model_amnesty_37 : decode M_Model_amnesty.2.1 37 = .ok (.ifCond .ne 9, 3) := by decide +kernel
theorem d_Model_amnesty_40 : decode M_Model_amnesty.2.1 40 = .ok (.aload_n 0, 1) := by decide +kernel
theorem d_Model_amnesty_41 : decode M_Model_amnesty.2.1 41 = .ok (.iconst 2, 1) := by decide +kernel
theorem d_Model_amnesty_42 : decode M_Model_amnesty.2.1 42 = .ok (.invokevirtual 273, 3) := by decide +kernel
theorem d_Model_amnesty_45 : decode M_Model_amnesty.2.1 45 = .ok (.ireturn, 1) := by decide +kernel
theorem d_Model_amnesty_46 : decode M_Model_amnesty.2.1 46 = .ok (.iconst 0, 1) := by decide +kernel
theorem d_Model_amnesty_47 : decode M_Model_amnesty.2.1 47 = .ok (.istore 4, 2) := by decide +kernel
theorem d_Model_amnesty_49 : decode M_Model_amnesty.2.1 49 = .ok (.iconst (-1), 1) := by decide +kernel
theorem d_Model_amnesty_50 : decode M_Model_amnesty.2.1 50 = .ok (.istore 5, 2) := by decide +kernel
theorem d_Model_amnesty_52 : decode M_Model_amnesty.2.1 52 = .ok (.iconst 0, 1) := by decide +kernel
theorem d_Model_amnesty_53 : decode M_Model_amnesty.2.1 53 = .ok (.istore 6, 2) := by decide +kernel
theorem d_Model_amnesty_55 : decode M_Model_amnesty.2.1 55 = .ok (.iload 6, 2) := by decide +kernel
theorem d_Model_amnesty_57 : decode M_Model_amnesty.2.1 57 = .ok (.bipush 60, 2) := by decide +kernel
theorem d_Model_amnesty_59 : decode M_Model_amnesty.2.1 59 = .ok (.if_icmp .gt 40, 3) := by decide +kernel
theorem d_Model_amnesty_62 : decode M_Model_amnesty.2.1 62 = .ok (.aload_n 0, 1) := by decide +kernel
theorem d_Model_amnesty_63 : decode M_Model_amnesty.2.1 63 = .ok (.iload_n 1, 1) := by decide +kernel
theorem d_Model_amnesty_64 : decode M_Model_amnesty.2.1 64 = .ok (.iload 6, 2) := by decide +kernel
theorem d_Model_amnesty_66 : decode M_Model_amnesty.2.1 66 = .ok (.iload 6, 2) := by decide +kernel
theorem d_Model_amnesty_68 : decode M_Model_amnesty.2.1 68 = .ok (.iload_n 2, 1) := by decide +kernel
theorem d_Model_amnesty_69 : decode M_Model_amnesty.2.1 69 = .ok (.iadd, 1) := by decide +kernel
theorem d_Model_amnesty_70 : decode M_Model_amnesty.2.1 70 = .ok (.invokevirtual 418, 3) := by decide +kernel
theorem d_Model_amnesty_73 : decode M_Model_amnesty.2.1 73 = .ok (.istore 7, 2) := by decide +kernel
theorem d_Model_amnesty_75 : decode M_Model_amnesty.2.1 75 = .ok (.iload 7, 2) := by decide +kernel
theorem d_Model_amnesty_77 : decode M_Model_amnesty.2.1 77 = .ok (.iload 5, 2) := by decide +kernel
theorem d_Model_amnesty_79 : decode M_Model_amnesty.2.1 79 = .ok (.if_icmp .gt 6, 3) := by decide +kernel
theorem d_Model_amnesty_82 : decode M_Model_amnesty.2.1 82 = .ok (.goto 11, 3) := by decide +kernel
theorem d_Model_amnesty_85 : decode M_Model_amnesty.2.1 85 = .ok (.iload 6, 2) := by decide +kernel
theorem d_Model_amnesty_87 : decode M_Model_amnesty.2.1 87 = .ok (.istore 4, 2) := by decide +kernel
theorem d_Model_amnesty_89 : decode M_Model_amnesty.2.1 89 = .ok (.iload 7, 2) := by decide +kernel
theorem d_Model_amnesty_91 : decode M_Model_amnesty.2.1 91 = .ok (.istore 5, 2) := by decide +kernel
theorem d_Model_amnesty_93 : decode M_Model_amnesty.2.1 93 = .ok (.iinc 6 1, 3) := by decide +kernel
theorem d_Model_amnesty_96 : decode M_Model_amnesty.2.1 96 = .ok (.goto (-41), 3) := by decide +kernel
theorem d_Model_amnesty_99 : decode M_Model_amnesty.2.1 99 = .ok (.iload_n 3, 1) := by decide +kernel
theorem d_Model_amnesty_100 : decode M_Model_amnesty.2.1 100 = .ok (.ifCond .ne 8, 3) := by decide +kernel
theorem d_Model_amnesty_103 : decode M_Model_amnesty.2.1 103 = .ok (.iload 5, 2) := by decide +kernel
theorem d_Model_amnesty_105 : decode M_Model_amnesty.2.1 105 = .ok (.goto 5, 3) := by decide +kernel
theorem d_Model_amnesty_108 : decode M_Model_amnesty.2.1 108 = .ok (.iload 4, 2) := by decide +kernel
theorem d_Model_amnesty_110 : decode M_Model_amnesty.2.1 110 = .ok (.ireturn, 1) := by decide +kernel
theorem d_Model_week_0 : decode M_Model_week.2.1 0 = .ok (.aload_n 0, 1) := by decide +kernel
theorem d_Model_week_1 : decode M_Model_week.2.1 1 = .ok (.iconst 0, 1) := by decide +kernel
theorem d_Model_week_2 : decode M_Model_week.2.1 2 = .ok (.putfield 114, 3) := by decide +kernel
theorem d_Model_week_5 : decode M_Model_week.2.1 5 = .ok (.aload_n 0, 1) := by decide +kernel
theorem d_Model_week_6 : decode M_Model_week.2.1 6 = .ok (.iload_n 1, 1) := by decide +kernel
theorem d_Model_week_7 : decode M_Model_week.2.1 7 = .ok (.invokevirtual 335, 3) := by decide +kernel
theorem d_Model_week_10 : decode M_Model_week.2.1 10 = .ok (.ifCond .eq 17, 3) := by decide +kernel
theorem d_Model_week_13 : decode M_Model_week.2.1 13 = .ok (.iload_n 2, 1) := by decide +kernel
theorem d_Model_week_14 : decode M_Model_week.2.1 14 = .ok (.i2l, 1) := by decide +kernel
theorem d_Model_week_15 : decode M_Model_week.2.1 15 = .ok (.ldc2_w 421, 3) := by decide +kernel
theorem d_Model_week_18 : decode M_Model_week.2.1 18 = .ok (.ldc2_w 410, 3) := by decide +kernel
theorem d_Model_week_21 : decode M_Model_week.2.1 21 = .ok (.invokestatic 117, 3) := by decide +kernel
theorem d_Model_week_24 : decode M_Model_week.2.1 24 = .ok (.ifCond .ne 9, 3) := by decide +kernel
theorem d_Model_week_27 : decode M_Model_week.2.1 27 = .ok (.aload_n 0, 1) := by decide +kernel
theorem d_Model_week_28 : decode M_Model_week.2.1 28 = .ok (.iconst 1, 1) := by decide +kernel
theorem d_Model_week_29 : decode M_Model_week.2.1 29 = .ok (.invokevirtual 273, 3) := by decide +kernel
theorem d_Model_week_32 : decode M_Model_week.2.1 32 = .ok (.ireturn, 1) := by decide +kernel
theorem d_Model_week_33 : decode M_Model_week.2.1 33 = .ok (.iconst 0, 1) := by decide +kernel
theorem d_Model_week_34 : decode M_Model_week.2.1 34 = .ok (.istore_n 3, 1) := by decide +kernel
theorem d_Model_week_35 : decode M_Model_week.2.1 35 = .ok (.iconst 0, 1) := by decide +kernel
theorem d_Model_week_36 : decode M_Model_week.2.1 36 = .ok (.istore 4, 2) := by decide +kernel
theorem d_Model_week_38 : decode M_Model_week.2.1 38 = .ok (.iload 4, 2) := by decide +kernel
theorem d_Model_week_40 : decode M_Model_week.2.1 40 = .ok (.aload_n 0, 1) := by decide +kernel
theorem d_Model_week_41 : decode M_Model_week.2.1 41 = .ok (.getfield 121, 3) := by decide +kernel
theorem d_Model_week_44 : decode M_Model_week.2.1 44 = .ok (.if_icmp .ge 73, 3) := by decide +kernel
theorem d_Model_week_47 : decode M_Model_week.2.1 47 = .ok (.aload_n 0, 1) := by decide +kernel
theorem d_Model_week_48 : decode M_Model_week.2.1 48 = .ok (.iload 4, 2) := by decide +kernel
theorem d_Model_week_50 : decode M_Model_week.2.1 50 = .ok (.invokevirtual 315, 3) := by decide +kernel
theorem d_Model_week_53 : decode M_Model_week.2.1 53 = .ok (.ifCond .eq 58, 3) := by decide +kernel
theorem d_Model_week_56 : decode M_Model_week.2.1 56 = .ok (.aload_n 0, 1) := by decide +kernel
theorem d_Model_week_57 : decode M_Model_week.2.1 57 = .ok (.iload 4, 2) := by decide +kernel
theorem d_Model_week_59 : decode M_Model_week.2.1 59 = .ok (.iconst 1, 1) := by decide +kernel
theorem d_Model_week_60 : decode M_Model_week.2.1 60 = .ok (.invokevirtual 305, 3) := by decide +kernel
theorem d_Model_week_63 : decode M_Model_week.2.1 63 = .ok (.iload_n 1, 1) := by decide +kernel
theorem d_Model_week_64 : decode M_Model_week.2.1 64 = .ok (.if_icmp .eq 6, 3) := by decide +kernel
theorem d_Model_week_67 : decode M_Model_week.2.1 67 = .ok (.goto 44, 3) := by decide +kernel
theorem d_Model_week_70 : decode M_Model_week.2.1 70 = .ok (.aload_n 0, 1) := by decide +kernel
theorem d_Model_week_71 : decode M_Model_week.2.1 71 = .ok (.iload 4, 2) := by decide +kernel
theorem d_Model_week_73 : decode M_Model_week.2.1 73 = .ok (.invokevirtual 318, 3) := by decide +kernel
theorem d_Model_week_76 : decode M_Model_week.2.1 76 = .ok (.aload_n 0, 1) := by decide +kernel
theorem d_Model_week_77 : decode M_Model_week.2.1 77 = .ok (.getfield 51, 3) := by decide +kernel
theorem d_Model_week_80 : decode M_Model_week.2.1 80 = .ok (.iconst 3, 1) := by decide +kernel
theorem d_Model_week_81 : decode M_Model_week.2.1 81 = .ok (.iaload, 1) := by decide +kernel
theorem d_Model_week_82 : decode M_Model_week.2.1 82 = .ok (.idiv, 1) := by decide +kernel
theorem d_Model_week_83 : decode M_Model_week.2.1 83 = .ok (.istore 5, 2) := by decide +kernel
theorem d_Model_week_85 : decode M_Model_week.2.1 85 = .ok (.iload_n 3, 1) := by decide +kernel
theorem d_Model_week_86 : decode M_Model_week.2.1 86 = .ok (.iload 5, 2) := by decide +kernel
theorem d_Model_week_88 : decode M_Model_week.2.1 88 = .ok (.iload_n 2, 1) := by decide +kernel
theorem d_Model_week_89 : decode M_Model_week.2.1 89 = .ok (.if_icmp .eq 15, 3) := by decide +kernel
theorem d_Model_week_92 : decode M_Model_week.2.1 92 = .ok (.iload_n 2, 1) := by decide +kernel
theorem d_Model_week_93 : decode M_Model_week.2.1 93 = .ok (.iconst (-1), 1) := by decide +kernel
theorem d_Model_week_94 : decode M_Model_week.2.1 94 = .ok (.if_icmp .ne 14, 3) := by decide +kernel
theorem d_Model_week_97 : decode M_Model_week.2.1 97 = .ok (.iload 5, 2) := by decide +kernel
theorem d_Model_week_99 : decode M_Model_week.2.1 99 = .ok (.bipush 7, 2) := by decide +kernel
theorem d_Model_week_101 : decode M_Model_week.2.1 101 = .ok (.if_icmp .lt 7, 3) := by decide +kernel
theorem d_Model_week_104 : decode M_Model_week.2.1 104 = .ok (.iconst 1, 1) := by decide +kernel
theorem d_Model_week_105 : decode M_Model_week.2.1 105 = .ok (.goto 4, 3) := by decide +kernel
theorem d_Model_week_108 : decode M_Model_week.2.1 108 = .ok (.iconst 0, 1) := by decide +kernel
theorem d_Model_week_109 : decode M_Model_week.2.1 109 = .ok (.iadd, 1) := by decide +kernel
theorem d_Model_week_110 : decode M_Model_week.2.1 110 = .ok (.istore_n 3, 1) := by decide +kernel
theorem d_Model_week_111 : decode M_Model_week.2.1 111 = .ok (.iinc 4 1, 3) := by decide +kernel
theorem d_Model_week_114 : decode M_Model_week.2.1 114 = .ok (.goto (-76), 3) := by decide +kernel
theorem d_Model_week_117 : decode M_Model_week.2.1 117 = .ok (.iload_n 3, 1) := by decide +kernel
theorem d_Model_week_118 : decode M_Model_week.2.1 118 = .ok (.ireturn, 1) := by decide +kernel
theorem d_Model_oldest_0 : decode M_Model_oldest.2.1 0 = .ok (.aload_n 0, 1) := by decide +kernel
theorem d_Model_oldest_1 : decode M_Model_oldest.2.1 1 = .ok (.iconst 0, 1) := by decide +kernel
theorem d_Model_oldest_2 : decode M_Model_oldest.2.1 2 = .ok (.putfield 114, 3) := by decide +kernel
theorem d_Model_oldest_5 : decode M_Model_oldest.2.1 5 = .ok (.iload_n 1, 1) := by decide +kernel
theorem d_Model_oldest_6 : decode M_Model_oldest.2.1 6 = .ok (.i2l, 1) := by decide +kernel
theorem d_Model_oldest_7 : decode M_Model_oldest.2.1 7 = .ok (.lconst 0, 1) := by decide +kernel
theorem d_Model_oldest_8 : decode M_Model_oldest.2.1 8 = .ok (.ldc2_w 374, 3) := by decide +kernel
theorem d_Model_oldest_11 : decode M_Model_oldest.2.1 11 = .ok (.invokestatic 117, 3) := by decide +kernel
theorem d_Model_oldest_14 : decode M_Model_oldest.2.1 14 = .ok (.ifCond .eq 10, 3) := by decide +kernel
theorem d_Model_oldest_17 : decode M_Model_oldest.2.1 17 = .ok (.iload_n 2, 1) := by decide +kernel
theorem d_Model_oldest_18 : decode M_Model_oldest.2.1 18 = .ok (.invokestatic 376, 3) := by decide +kernel
theorem d_Model_oldest_21 : decode M_Model_oldest.2.1 21 = .ok (.ifCond .ne 9, 3) := by decide +kernel
theorem d_Model_oldest_24 : decode M_Model_oldest.2.1 24 = .ok (.aload_n 0, 1) := by decide +kernel
theorem d_Model_oldest_25 : decode M_Model_oldest.2.1 25 = .ok (.iconst 1, 1) := by decide +kernel
theorem d_Model_oldest_26 : decode M_Model_oldest.2.1 26 = .ok (.invokevirtual 273, 3) := by decide +kernel
theorem d_Model_oldest_29 : decode M_Model_oldest.2.1 29 = .ok (.ireturn, 1) := by decide +kernel
theorem d_Model_oldest_30 : decode M_Model_oldest.2.1 30 = .ok (.iconst (-1), 1) := by decide +kernel
theorem d_Model_oldest_31 : decode M_Model_oldest.2.1 31 = .ok (.istore_n 3, 1) := by decide +kernel
theorem d_Model_oldest_32 : decode M_Model_oldest.2.1 32 = .ok (.iconst 0, 1) := by decide +kernel
theorem d_Model_oldest_33 : decode M_Model_oldest.2.1 33 = .ok (.istore 4, 2) := by decide +kernel
theorem d_Model_oldest_35 : decode M_Model_oldest.2.1 35 = .ok (.iload 4, 2) := by decide +kernel
theorem d_Model_oldest_37 : decode M_Model_oldest.2.1 37 = .ok (.aload_n 0, 1) := by decide +kernel
theorem d_Model_oldest_38 : decode M_Model_oldest.2.1 38 = .ok (.getfield 121, 3) := by decide +kernel
theorem d_Model_oldest_41 : decode M_Model_oldest.2.1 41 = .ok (.if_icmp .ge 44, 3) := by decide +kernel
theorem d_Model_oldest_44 : decode M_Model_oldest.2.1 44 = .ok (.aload_n 0, 1) := by decide +kernel
theorem d_Model_oldest_45 : decode M_Model_oldest.2.1 45 = .ok (.iload 4, 2) := by decide +kernel
theorem d_Model_oldest_47 : decode M_Model_oldest.2.1 47 = .ok (.iload_n 1, 1) := by decide +kernel
theorem d_Model_oldest_48 : decode M_Model_oldest.2.1 48 = .ok (.iload_n 2, 1) := by decide +kernel
theorem d_Model_oldest_49 : decode M_Model_oldest.2.1 49 = .ok (.invokevirtual 396, 3) := by decide +kernel
theorem d_Model_oldest_52 : decode M_Model_oldest.2.1 52 = .ok (.ifCond .eq 27, 3) := by decide +kernel
theorem d_Model_oldest_55 : decode M_Model_oldest.2.1 55 = .ok (.iload_n 3, 1) := by decide +kernel
theorem d_Model_oldest_56 : decode M_Model_oldest.2.1 56 = .ok (.iconst (-1), 1) := by decide +kernel
theorem d_Model_oldest_57 : decode M_Model_oldest.2.1 57 = .ok (.if_icmp .eq 19, 3) := by decide +kernel
theorem d_Model_oldest_60 : decode M_Model_oldest.2.1 60 = .ok (.aload_n 0, 1) := by decide +kernel
theorem d_Model_oldest_61 : decode M_Model_oldest.2.1 61 = .ok (.iload 4, 2) := by decide +kernel
theorem d_Model_oldest_63 : decode M_Model_oldest.2.1 63 = .ok (.iconst 2, 1) := by decide +kernel
theorem d_Model_oldest_64 : decode M_Model_oldest.2.1 64 = .ok (.invokevirtual 305, 3) := by decide +kernel
theorem d_Model_oldest_67 : decode M_Model_oldest.2.1 67 = .ok (.aload_n 0, 1) := by decide +kernel
theorem d_Model_oldest_68 : decode M_Model_oldest.2.1 68 = .ok (.iload_n 3, 1) := by decide +kernel
theorem d_Model_oldest_69 : decode M_Model_oldest.2.1 69 = .ok (.iconst 2, 1) := by decide +kernel
theorem d_Model_oldest_70 : decode M_Model_oldest.2.1 70 = .ok (.invokevirtual 305, 3) := by decide +kernel
theorem d_Model_oldest_73 : decode M_Model_oldest.2.1 73 = .ok (.if_icmp .ge 6, 3) := by decide +kernel
theorem d_Model_oldest_76 : decode M_Model_oldest.2.1 76 = .ok (.iload 4, 2) := by decide +kernel
theorem d_Model_oldest_78 : decode M_Model_oldest.2.1 78 = .ok (.istore_n 3, 1) := by decide +kernel
theorem d_Model_oldest_79 : decode M_Model_oldest.2.1 79 = .ok (.iinc 4 1, 3) := by decide +kernel
theorem d_Model_oldest_82 : decode M_Model_oldest.2.1 82 = .ok (.goto (-47), 3) := by decide +kernel
theorem d_Model_oldest_85 : decode M_Model_oldest.2.1 85 = .ok (.iload_n 3, 1) := by decide +kernel
theorem d_Model_oldest_86 : decode M_Model_oldest.2.1 86 = .ok (.ireturn, 1) := by decide +kernel
theorem d_Model_believers_0 : decode M_Model_believers.2.1 0 = .ok (.iconst 0, 1) := by decide +kernel
theorem d_Model_believers_1 : decode M_Model_believers.2.1 1 = .ok (.istore_n 3, 1) := by decide +kernel
theorem d_Model_believers_2 : decode M_Model_believers.2.1 2 = .ok (.iconst 0, 1) := by decide +kernel
theorem d_Model_believers_3 : decode M_Model_believers.2.1 3 = .ok (.istore 4, 2) := by decide +kernel
theorem d_Model_believers_5 : decode M_Model_believers.2.1 5 = .ok (.iload 4, 2) := by decide +kernel
theorem d_Model_believers_7 : decode M_Model_believers.2.1 7 = .ok (.aload_n 0, 1) := by decide +kernel
theorem d_Model_believers_8 : decode M_Model_believers.2.1 8 = .ok (.getfield 121, 3) := by decide +kernel
theorem d_Model_believers_11 : decode M_Model_believers.2.1 11 = .ok (.if_icmp .ge 43, 3) := by decide +kernel
theorem d_Model_believers_14 : decode M_Model_believers.2.1 14 = .ok (.aload_n 0, 1) := by decide +kernel
theorem d_Model_believers_15 : decode M_Model_believers.2.1 15 = .ok (.iload 4, 2) := by decide +kernel
theorem d_Model_believers_17 : decode M_Model_believers.2.1 17 = .ok (.iconst 0, 1) := by decide +kernel
theorem d_Model_believers_18 : decode M_Model_believers.2.1 18 = .ok (.iload_n 1, 1) := by decide +kernel
theorem d_Model_believers_19 : decode M_Model_believers.2.1 19 = .ok (.invokevirtual 396, 3) := by decide +kernel
theorem d_Model_believers_22 : decode M_Model_believers.2.1 22 = .ok (.ifCond .eq 26, 3) := by decide +kernel
theorem d_Model_believers_25 : decode M_Model_believers.2.1 25 = .ok (.aload_n 0, 1) := by decide +kernel
theorem d_Model_believers_26 : decode M_Model_believers.2.1 26 = .ok (.iload 4, 2) := by decide +kernel
theorem d_Model_believers_28 : decode M_Model_believers.2.1 28 = .ok (.iconst 4, 1) := by decide +kernel
theorem d_Model_believers_29 : decode M_Model_believers.2.1 29 = .ok (.invokevirtual 305, 3) := by decide +kernel
theorem d_Model_believers_32 : decode M_Model_believers.2.1 32 = .ok (.iload_n 2, 1) := by decide +kernel
theorem d_Model_believers_33 : decode M_Model_believers.2.1 33 = .ok (.if_icmp .ne 15, 3) := by decide +kernel
theorem d_Model_believers_36 : decode M_Model_believers.2.1 36 = .ok (.iload_n 3, 1) := by decide +kernel
theorem d_Model_believers_37 : decode M_Model_believers.2.1 37 = .ok (.iconst 1, 1) := by decide +kernel
theorem d_Model_believers_38 : decode M_Model_believers.2.1 38 = .ok (.aload_n 0, 1) := by decide +kernel
theorem d_Model_believers_39 : decode M_Model_believers.2.1 39 = .ok (.iload 4, 2) := by decide +kernel
theorem d_Model_believers_41 : decode M_Model_believers.2.1 41 = .ok (.iconst 1, 1) := by decide +kernel
theorem d_Model_believers_42 : decode M_Model_believers.2.1 42 = .ok (.invokevirtual 305, 3) := by decide +kernel
theorem d_Model_believers_45 : decode M_Model_believers.2.1 45 = .ok (.ishl, 1) := by decide +kernel
theorem d_Model_believers_46 : decode M_Model_believers.2.1 46 = .ok (.ior, 1) := by decide +kernel
theorem d_Model_believers_47 : decode M_Model_believers.2.1 47 = .ok (.istore_n 3, 1) := by decide +kernel
theorem d_Model_believers_48 : decode M_Model_believers.2.1 48 = .ok (.iinc 4 1, 3) := by decide +kernel
theorem d_Model_believers_51 : decode M_Model_believers.2.1 51 = .ok (.goto (-46), 3) := by decide +kernel
theorem d_Model_believers_54 : decode M_Model_believers.2.1 54 = .ok (.iload_n 3, 1) := by decide +kernel
theorem d_Model_believers_55 : decode M_Model_believers.2.1 55 = .ok (.invokestatic 332, 3) := by decide +kernel
theorem d_Model_believers_58 : decode M_Model_believers.2.1 58 = .ok (.ireturn, 1) := by decide +kernel
theorem d_Model_believed_0 : decode M_Model_believed.2.1 0 = .ok (.aload_n 0, 1) := by decide +kernel
theorem d_Model_believed_1 : decode M_Model_believed.2.1 1 = .ok (.iconst 0, 1) := by decide +kernel
theorem d_Model_believed_2 : decode M_Model_believed.2.1 2 = .ok (.putfield 114, 3) := by decide +kernel
theorem d_Model_believed_5 : decode M_Model_believed.2.1 5 = .ok (.iload_n 1, 1) := by decide +kernel
theorem d_Model_believed_6 : decode M_Model_believed.2.1 6 = .ok (.invokestatic 376, 3) := by decide +kernel
theorem d_Model_believed_9 : decode M_Model_believed.2.1 9 = .ok (.ifCond .ne 9, 3) := by decide +kernel
theorem d_Model_believed_12 : decode M_Model_believed.2.1 12 = .ok (.aload_n 0, 1) := by decide +kernel
theorem d_Model_believed_13 : decode M_Model_believed.2.1 13 = .ok (.iconst 1, 1) := by decide +kernel
theorem d_Model_believed_14 : decode M_Model_believed.2.1 14 = .ok (.invokevirtual 273, 3) := by decide +kernel
theorem d_Model_believed_17 : decode M_Model_believed.2.1 17 = .ok (.ireturn, 1) := by decide +kernel
theorem d_Model_believed_18 : decode M_Model_believed.2.1 18 = .ok (.iconst (-1), 1) := by decide +kernel
theorem d_Model_believed_19 : decode M_Model_believed.2.1 19 = .ok (.istore_n 2, 1) := by decide +kernel
theorem d_Model_believed_20 : decode M_Model_believed.2.1 20 = .ok (.iconst 0, 1) := by decide +kernel
theorem d_Model_believed_21 : decode M_Model_believed.2.1 21 = .ok (.istore_n 3, 1) := by decide +kernel
theorem d_Model_believed_22 : decode M_Model_believed.2.1 22 = .ok (.iconst 0, 1) := by decide +kernel
theorem d_Model_believed_23 : decode M_Model_believed.2.1 23 = .ok (.istore 4, 2) := by decide +kernel
theorem d_Model_believed_25 : decode M_Model_believed.2.1 25 = .ok (.iload 4, 2) := by decide +kernel
theorem d_Model_believed_27 : decode M_Model_believed.2.1 27 = .ok (.aload_n 0, 1) := by decide +kernel
theorem d_Model_believed_28 : decode M_Model_believed.2.1 28 = .ok (.getfield 121, 3) := by decide +kernel
theorem d_Model_believed_31 : decode M_Model_believed.2.1 31 = .ok (.if_icmp .ge 68, 3) := by decide +kernel
theorem d_Model_believed_34 : decode M_Model_believed.2.1 34 = .ok (.aload_n 0, 1) := by decide +kernel
theorem d_Model_believed_35 : decode M_Model_believed.2.1 35 = .ok (.iload 4, 2) := by decide +kernel
theorem d_Model_believed_37 : decode M_Model_believed.2.1 37 = .ok (.iconst 0, 1) := by decide +kernel
theorem d_Model_believed_38 : decode M_Model_believed.2.1 38 = .ok (.iload_n 1, 1) := by decide +kernel
theorem d_Model_believed_39 : decode M_Model_believed.2.1 39 = .ok (.invokevirtual 396, 3) := by decide +kernel
theorem d_Model_believed_42 : decode M_Model_believed.2.1 42 = .ok (.ifCond .ne 6, 3) := by decide +kernel
theorem d_Model_believed_45 : decode M_Model_believed.2.1 45 = .ok (.goto 48, 3) := by decide +kernel
theorem d_Model_believed_48 : decode M_Model_believed.2.1 48 = .ok (.aload_n 0, 1) := by decide +kernel
theorem d_Model_believed_49 : decode M_Model_believed.2.1 49 = .ok (.iload 4, 2) := by decide +kernel
theorem d_Model_believed_51 : decode M_Model_believed.2.1 51 = .ok (.iconst 4, 1) := by decide +kernel
theorem d_Model_believed_52 : decode M_Model_believed.2.1 52 = .ok (.invokevirtual 305, 3) := by decide +kernel
theorem d_Model_believed_55 : decode M_Model_believed.2.1 55 = .ok (.istore 5, 2) := by decide +kernel
theorem d_Model_believed_57 : decode M_Model_believed.2.1 57 = .ok (.aload_n 0, 1) := by decide +kernel
theorem d_Model_believed_58 : decode M_Model_believed.2.1 58 = .ok (.iload_n 1, 1) := by decide +kernel
theorem d_Model_believed_59 : decode M_Model_believed.2.1 59 = .ok (.iload 5, 2) := by decide +kernel
theorem d_Model_believed_61 : decode M_Model_believed.2.1 61 = .ok (.invokevirtual 423, 3) := by decide +kernel
theorem d_Model_believed_64 : decode M_Model_believed.2.1 64 = .ok (.istore 6, 2) := by decide +kernel
theorem d_Model_believed_66 : decode M_Model_believed.2.1 66 = .ok (.iload 6, 2) := by decide +kernel
theorem d_Model_believed_68 : decode M_Model_believed.2.1 68 = .ok (.iload_n 3, 1) := by decide +kernel
theorem d_Model_believed_69 : decode M_Model_believed.2.1 69 = .ok (.if_icmp .lt 24, 3) := by decide +kernel
theorem d_Model_believed_72 : decode M_Model_believed.2.1 72 = .ok (.iload 6, 2) := by decide +kernel
theorem d_Model_believed_74 : decode M_Model_believed.2.1 74 = .ok (.iload_n 3, 1) := by decide +kernel
theorem d_Model_believed_75 : decode M_Model_believed.2.1 75 = .ok (.if_icmp .ne 12, 3) := by decide +kernel
theorem d_Model_believed_78 : decode M_Model_believed.2.1 78 = .ok (.iload 5, 2) := by decide +kernel
theorem d_Model_believed_80 : decode M_Model_believed.2.1 80 = .ok (.iload_n 2, 1) := by decide +kernel
theorem d_Model_believed_81 : decode M_Model_believed.2.1 81 = .ok (.if_icmp .lt 6, 3) := by decide +kernel
theorem d_Model_believed_84 : decode M_Model_believed.2.1 84 = .ok (.goto 9, 3) := by decide +kernel
theorem d_Model_believed_87 : decode M_Model_believed.2.1 87 = .ok (.iload 5, 2) := by decide +kernel
theorem d_Model_believed_89 : decode M_Model_believed.2.1 89 = .ok (.istore_n 2, 1) := by decide +kernel
theorem d_Model_believed_90 : decode M_Model_believed.2.1 90 = .ok (.iload 6, 2) := by decide +kernel
theorem d_Model_believed_92 : decode M_Model_believed.2.1 92 = .ok (.istore_n 3, 1) := by decide +kernel
theorem d_Model_believed_93 : decode M_Model_believed.2.1 93 = .ok (.iinc 4 1, 3) := by decide +kernel
theorem d_Model_believed_96 : decode M_Model_believed.2.1 96 = .ok (.goto (-71), 3) := by decide +kernel
theorem d_Model_believed_99 : decode M_Model_believed.2.1 99 = .ok (.iload_n 2, 1) := by decide +kernel
theorem d_Model_believed_100 : decode M_Model_believed.2.1 100 = .ok (.ireturn, 1) := by decide +kernel
theorem d_Model_until_0 : decode M_Model_until.2.1 0 = .ok (.aload_n 0, 1) := by decide +kernel
theorem d_Model_until_1 : decode M_Model_until.2.1 1 = .ok (.iconst 0, 1) := by decide +kernel
theorem d_Model_until_2 : decode M_Model_until.2.1 2 = .ok (.putfield 114, 3) := by decide +kernel
theorem d_Model_until_5 : decode M_Model_until.2.1 5 = .ok (.aload_n 0, 1) := by decide +kernel
theorem d_Model_until_6 : decode M_Model_until.2.1 6 = .ok (.iload_n 1, 1) := by decide +kernel
theorem d_Model_until_7 : decode M_Model_until.2.1 7 = .ok (.invokevirtual 341, 3) := by decide +kernel
theorem d_Model_until_10 : decode M_Model_until.2.1 10 = .ok (.ifCond .ne 9, 3) := by decide +kernel
theorem d_Model_until_13 : decode M_Model_until.2.1 13 = .ok (.aload_n 0, 1) := by decide +kernel
theorem d_Model_until_14 : decode M_Model_until.2.1 14 = .ok (.iconst 1, 1) := by decide +kernel
theorem d_Model_until_15 : decode M_Model_until.2.1 15 = .ok (.invokevirtual 273, 3) := by decide +kernel
theorem d_Model_until_18 : decode M_Model_until.2.1 18 = .ok (.ireturn, 1) := by decide +kernel
theorem d_Model_until_19 : decode M_Model_until.2.1 19 = .ok (.aload_n 0, 1) := by decide +kernel
theorem d_Model_until_20 : decode M_Model_until.2.1 20 = .ok (.iload_n 1, 1) := by decide +kernel
theorem d_Model_until_21 : decode M_Model_until.2.1 21 = .ok (.iconst 1, 1) := by decide +kernel
theorem d_Model_until_22 : decode M_Model_until.2.1 22 = .ok (.invokevirtual 305, 3) := by decide +kernel
theorem d_Model_until_25 : decode M_Model_until.2.1 25 = .ok (.istore_n 2, 1) := by decide +kernel
theorem d_Model_until_26 : decode M_Model_until.2.1 26 = .ok (.aload_n 0, 1) := by decide +kernel
theorem d_Model_until_27 : decode M_Model_until.2.1 27 = .ok (.iload_n 1, 1) := by decide +kernel
theorem d_Model_until_28 : decode M_Model_until.2.1 28 = .ok (.invokevirtual 315, 3) := by decide +kernel
theorem d_Model_until_31 : decode M_Model_until.2.1 31 = .ok (.ifCond .ne 7, 3) := by decide +kernel
theorem d_Model_until_34 : decode M_Model_until.2.1 34 = .ok (.iconst (-1), 1) := by decide +kernel
theorem d_Model_until_35 : decode M_Model_until.2.1 35 = .ok (.goto 40, 3) := by decide +kernel
theorem d_Model_until_38 : decode M_Model_until.2.1 38 = .ok (.aload_n 0, 1) := by decide +kernel
theorem d_Model_until_39 : decode M_Model_until.2.1 39 = .ok (.getfield 289, 3) := by decide +kernel
theorem d_Model_until_42 : decode M_Model_until.2.1 42 = .ok (.iload_n 2, 1) := by decide +kernel
theorem d_Model_until_43 : decode M_Model_until.2.1 43 = .ok (.invokestatic 308, 3) := by decide +kernel
theorem d_Model_until_46 : decode M_Model_until.2.1 46 = .ok (.ifCond .eq 8, 3) := by decide +kernel
theorem d_Model_until_49 : decode M_Model_until.2.1 49 = .ok (.bipush (-2), 2) := by decide +kernel
theorem d_Model_until_51 : decode M_Model_until.2.1 51 = .ok (.goto 24, 3) := by decide +kernel
theorem d_Model_until_54 : decode M_Model_until.2.1 54 = .ok (.aload_n 0, 1) := by decide +kernel
theorem d_Model_until_55 : decode M_Model_until.2.1 55 = .ok (.getfield 55, 3) := by decide +kernel
theorem d_Model_until_58 : decode M_Model_until.2.1 58 = .ok (.iload_n 2, 1) := by decide +kernel
theorem d_Model_until_59 : decode M_Model_until.2.1 59 = .ok (.iaload, 1) := by decide +kernel
theorem d_Model_until_60 : decode M_Model_until.2.1 60 = .ok (.aload_n 0, 1) := by decide +kernel
theorem d_Model_until_61 : decode M_Model_until.2.1 61 = .ok (.getfield 51, 3) := by decide +kernel
theorem d_Model_until_64 : decode M_Model_until.2.1 64 = .ok (.iconst 1, 1) := by decide +kernel
theorem d_Model_until_65 : decode M_Model_until.2.1 65 = .ok (.iaload, 1) := by decide +kernel
theorem d_Model_until_66 : decode M_Model_until.2.1 66 = .ok (.invokestatic 239, 3) := by decide +kernel
theorem d_Model_until_69 : decode M_Model_until.2.1 69 = .ok (.aload_n 0, 1) := by decide +kernel
theorem d_Model_until_70 : decode M_Model_until.2.1 70 = .ok (.iload_n 1, 1) := by decide +kernel
theorem d_Model_until_71 : decode M_Model_until.2.1 71 = .ok (.invokevirtual 318, 3) := by decide +kernel
theorem d_Model_until_74 : decode M_Model_until.2.1 74 = .ok (.isub, 1) := by decide +kernel
theorem d_Model_until_75 : decode M_Model_until.2.1 75 = .ok (.ireturn, 1) := by decide +kernel
theorem d_Model_doomed_0 : decode M_Model_doomed.2.1 0 = .ok (.aload_n 0, 1) := by decide +kernel
theorem d_Model_doomed_1 : decode M_Model_doomed.2.1 1 = .ok (.iconst 0, 1) := by decide +kernel
theorem d_Model_doomed_2 : decode M_Model_doomed.2.1 2 = .ok (.putfield 114, 3) := by decide +kernel
theorem d_Model_doomed_5 : decode M_Model_doomed.2.1 5 = .ok (.iload_n 1, 1) := by decide +kernel
theorem d_Model_doomed_6 : decode M_Model_doomed.2.1 6 = .ok (.i2l, 1) := by decide +kernel
theorem d_Model_doomed_7 : decode M_Model_doomed.2.1 7 = .ok (.lconst 0, 1) := by decide +kernel
theorem d_Model_doomed_8 : decode M_Model_doomed.2.1 8 = .ok (.ldc2_w 388, 3) := by decide +kernel
theorem d_Model_doomed_11 : decode M_Model_doomed.2.1 11 = .ok (.invokestatic 117, 3) := by decide +kernel
theorem d_Model_doomed_14 : decode M_Model_doomed.2.1 14 = .ok (.ifCond .ne 9, 3) := by decide +kernel
theorem d_Model_doomed_17 : decode M_Model_doomed.2.1 17 = .ok (.aload_n 0, 1) := by decide +kernel
theorem d_Model_doomed_18 : decode M_Model_doomed.2.1 18 = .ok (.iconst 1, 1) := by decide +kernel
theorem d_Model_doomed_19 : decode M_Model_doomed.2.1 19 = .ok (.invokevirtual 273, 3) := by decide +kernel
theorem d_Model_doomed_22 : decode M_Model_doomed.2.1 22 = .ok (.ireturn, 1) := by decide +kernel
theorem d_Model_doomed_23 : decode M_Model_doomed.2.1 23 = .ok (.aload_n 0, 1) := by decide +kernel
theorem d_Model_doomed_24 : decode M_Model_doomed.2.1 24 = .ok (.invokevirtual 329, 3) := by decide +kernel
theorem d_Model_doomed_27 : decode M_Model_doomed.2.1 27 = .ok (.istore_n 2, 1) := by decide +kernel
theorem d_Model_doomed_28 : decode M_Model_doomed.2.1 28 = .ok (.aload_n 0, 1) := by decide +kernel
theorem d_Model_doomed_29 : decode M_Model_doomed.2.1 29 = .ok (.aload_n 0, 1) := by decide +kernel
theorem d_Model_doomed_30 : decode M_Model_doomed.2.1 30 = .ok (.getfield 90, 3) := by decide +kernel
theorem d_Model_doomed_33 : decode M_Model_doomed.2.1 33 = .ok (.iconst 0, 1) := by decide +kernel
theorem d_Model_doomed_34 : decode M_Model_doomed.2.1 34 = .ok (.invokevirtual 359, 3) := by decide +kernel
theorem d_Model_doomed_37 : decode M_Model_doomed.2.1 37 = .ok (.iconst 0, 1) := by decide +kernel
theorem d_Model_doomed_38 : decode M_Model_doomed.2.1 38 = .ok (.istore_n 3, 1) := by decide +kernel
theorem d_Model_doomed_39 : decode M_Model_doomed.2.1 39 = .ok (.iload_n 3, 1) := by decide +kernel
theorem d_Model_doomed_40 : decode M_Model_doomed.2.1 40 = .ok (.iload_n 1, 1) := by decide +kernel
theorem d_Model_doomed_41 : decode M_Model_doomed.2.1 41 = .ok (.if_icmp .ge 13, 3) := by decide +kernel
theorem d_Model_doomed_44 : decode M_Model_doomed.2.1 44 = .ok (.aload_n 0, 1) := by decide +kernel
theorem d_Model_doomed_45 : decode M_Model_doomed.2.1 45 = .ok (.invokevirtual 371, 3) := by decide +kernel
theorem d_Model_doomed_48 : decode M_Model_doomed.2.1 48 = .ok (.iinc 3 1, 3) := by decide +kernel
theorem d_Model_doomed_51 : decode M_Model_doomed.2.1 51 = .ok (.goto (-12), 3) := by decide +kernel
theorem d_Model_doomed_54 : decode M_Model_doomed.2.1 54 = .ok (.aload_n 0, 1) := by decide +kernel
theorem d_Model_doomed_55 : decode M_Model_doomed.2.1 55 = .ok (.invokevirtual 329, 3) := by decide +kernel
theorem d_Model_doomed_58 : decode M_Model_doomed.2.1 58 = .ok (.istore_n 3, 1) := by decide +kernel
theorem d_Model_doomed_59 : decode M_Model_doomed.2.1 59 = .ok (.aload_n 0, 1) := by decide +kernel
theorem d_Model_doomed_60 : decode M_Model_doomed.2.1 60 = .ok (.aload_n 0, 1) := by decide +kernel
theorem d_Model_doomed_61 : decode M_Model_doomed.2.1 61 = .ok (.getfield 90, 3) := by decide +kernel
theorem d_Model_doomed_64 : decode M_Model_doomed.2.1 64 = .ok (.iconst 0, 1) := by decide +kernel
theorem d_Model_doomed_65 : decode M_Model_doomed.2.1 65 = .ok (.invokevirtual 393, 3) := by decide +kernel
theorem d_Model_doomed_68 : decode M_Model_doomed.2.1 68 = .ok (.iload_n 2, 1) := by decide +kernel
theorem d_Model_doomed_69 : decode M_Model_doomed.2.1 69 = .ok (.iload_n 3, 1) := by decide +kernel
theorem d_Model_doomed_70 : decode M_Model_doomed.2.1 70 = .ok (.iconst (-1), 1) := by decide +kernel
theorem d_Model_doomed_71 : decode M_Model_doomed.2.1 71 = .ok (.ixor, 1) := by decide +kernel
theorem d_Model_doomed_72 : decode M_Model_doomed.2.1 72 = .ok (.iand, 1) := by decide +kernel
theorem d_Model_doomed_73 : decode M_Model_doomed.2.1 73 = .ok (.invokestatic 332, 3) := by decide +kernel
theorem d_Model_doomed_76 : decode M_Model_doomed.2.1 76 = .ok (.ireturn, 1) := by decide +kernel
theorem d_Model_safest_0 : decode M_Model_safest.2.1 0 = .ok (.aload_n 0, 1) := by decide +kernel
theorem d_Model_safest_1 : decode M_Model_safest.2.1 1 = .ok (.iconst 0, 1) := by decide +kernel
theorem d_Model_safest_2 : decode M_Model_safest.2.1 2 = .ok (.putfield 114, 3) := by decide +kernel
theorem d_Model_safest_5 : decode M_Model_safest.2.1 5 = .ok (.iconst (-1), 1) := by decide +kernel
theorem d_Model_safest_6 : decode M_Model_safest.2.1 6 = .ok (.istore_n 1, 1) := by decide +kernel
theorem d_Model_safest_7 : decode M_Model_safest.2.1 7 = .ok (.iconst 0, 1) := by decide +kernel
theorem d_Model_safest_8 : decode M_Model_safest.2.1 8 = .ok (.istore_n 2, 1) := by decide +kernel
theorem d_Model_safest_9 : decode M_Model_safest.2.1 9 = .ok (.iload_n 2, 1) := by decide +kernel
theorem d_Model_safest_10 : decode M_Model_safest.2.1 10 = .ok (.aload_n 0, 1) := by decide +kernel
theorem d_Model_safest_11 : decode M_Model_safest.2.1 11 = .ok (.getfield 51, 3) := by decide +kernel
theorem d_Model_safest_14 : decode M_Model_safest.2.1 14 = .ok (.iconst 0, 1) := by decide +kernel
theorem d_Model_safest_15 : decode M_Model_safest.2.1 15 = .ok (.iaload, 1) := by decide +kernel
theorem d_Model_safest_16 : decode M_Model_safest.2.1 16 = .ok (.if_icmp .ge 60, 3) := by decide +kernel
theorem d_Model_safest_19 : decode M_Model_safest.2.1 19 = .ok (.aload_n 0, 1) := by decide +kernel
theorem d_Model_safest_20 : decode M_Model_safest.2.1 20 = .ok (.getfield 289, 3) := by decide +kernel
theorem d_Model_safest_23 : decode M_Model_safest.2.1 23 = .ok (.iload_n 2, 1) := by decide +kernel
theorem d_Model_safest_24 : decode M_Model_safest.2.1 24 = .ok (.invokestatic 308, 3) := by decide +kernel
theorem d_Model_safest_27 : decode M_Model_safest.2.1 27 = .ok (.ifCond .ne 43, 3) := by decide +kernel
theorem d_Model_safest_30 : decode M_Model_safest.2.1 30 = .ok (.iload_n 1, 1) := by decide +kernel
theorem d_Model_safest_31 : decode M_Model_safest.2.1 31 = .ok (.iconst (-1), 1) := by decide +kernel
theorem d_Model_safest_32 : decode M_Model_safest.2.1 32 = .ok (.if_icmp .eq 36, 3) := by decide +kernel
theorem d_Model_safest_35 : decode M_Model_safest.2.1 35 = .ok (.aload_n 0, 1) := by decide +kernel
theorem d_Model_safest_36 : decode M_Model_safest.2.1 36 = .ok (.getfield 55, 3) := by decide +kernel
theorem d_Model_safest_39 : decode M_Model_safest.2.1 39 = .ok (.iload_n 2, 1) := by decide +kernel
theorem d_Model_safest_40 : decode M_Model_safest.2.1 40 = .ok (.iaload, 1) := by decide +kernel
theorem d_Model_safest_41 : decode M_Model_safest.2.1 41 = .ok (.aload_n 0, 1) := by decide +kernel
theorem d_Model_safest_42 : decode M_Model_safest.2.1 42 = .ok (.getfield 51, 3) := by decide +kernel
theorem d_Model_safest_45 : decode M_Model_safest.2.1 45 = .ok (.iconst 1, 1) := by decide +kernel
theorem d_Model_safest_46 : decode M_Model_safest.2.1 46 = .ok (.iaload, 1) := by decide +kernel
theorem d_Model_safest_47 : decode M_Model_safest.2.1 47 = .ok (.invokestatic 239, 3) := by decide +kernel
theorem d_Model_safest_50 : decode M_Model_safest.2.1 50 = .ok (.aload_n 0, 1) := by decide +kernel
theorem d_Model_safest_51 : decode M_Model_safest.2.1 51 = .ok (.getfield 55, 3) := by decide +kernel
theorem d_Model_safest_54 : decode M_Model_safest.2.1 54 = .ok (.iload_n 1, 1) := by decide +kernel
theorem d_Model_safest_55 : decode M_Model_safest.2.1 55 = .ok (.iaload, 1) := by decide +kernel
theorem d_Model_safest_56 : decode M_Model_safest.2.1 56 = .ok (.aload_n 0, 1) := by decide +kernel
theorem d_Model_safest_57 : decode M_Model_safest.2.1 57 = .ok (.getfield 51, 3) := by decide +kernel
theorem d_Model_safest_60 : decode M_Model_safest.2.1 60 = .ok (.iconst 1, 1) := by decide +kernel
theorem d_Model_safest_61 : decode M_Model_safest.2.1 61 = .ok (.iaload, 1) := by decide +kernel
theorem d_Model_safest_62 : decode M_Model_safest.2.1 62 = .ok (.invokestatic 239, 3) := by decide +kernel
theorem d_Model_safest_65 : decode M_Model_safest.2.1 65 = .ok (.if_icmp .le 5, 3) := by decide +kernel
theorem d_Model_safest_68 : decode M_Model_safest.2.1 68 = .ok (.iload_n 2, 1) := by decide +kernel
theorem d_Model_safest_69 : decode M_Model_safest.2.1 69 = .ok (.istore_n 1, 1) := by decide +kernel
theorem d_Model_safest_70 : decode M_Model_safest.2.1 70 = .ok (.iinc 2 1, 3) := by decide +kernel
theorem d_Model_safest_73 : decode M_Model_safest.2.1 73 = .ok (.goto (-64), 3) := by decide +kernel
theorem d_Model_safest_76 : decode M_Model_safest.2.1 76 = .ok (.iload_n 1, 1) := by decide +kernel
theorem d_Model_safest_77 : decode M_Model_safest.2.1 77 = .ok (.ireturn, 1) := by decide +kernel
theorem d_Model_recordsOf_0 : decode M_Model_recordsOf.2.1 0 = .ok (.iconst 0, 1) := by decide +kernel
theorem d_Model_recordsOf_1 : decode M_Model_recordsOf.2.1 1 = .ok (.istore_n 2, 1) := by decide +kernel
theorem d_Model_recordsOf_2 : decode M_Model_recordsOf.2.1 2 = .ok (.iconst 0, 1) := by decide +kernel
theorem d_Model_recordsOf_3 : decode M_Model_recordsOf.2.1 3 = .ok (.istore_n 3, 1) := by decide +kernel
theorem d_Model_recordsOf_4 : decode M_Model_recordsOf.2.1 4 = .ok (.iload_n 3, 1) := by decide +kernel
theorem d_Model_recordsOf_5 : decode M_Model_recordsOf.2.1 5 = .ok (.aload_n 0, 1) := by decide +kernel
theorem d_Model_recordsOf_6 : decode M_Model_recordsOf.2.1 6 = .ok (.getfield 121, 3) := by decide +kernel
theorem d_Model_recordsOf_9 : decode M_Model_recordsOf.2.1 9 = .ok (.if_icmp .ge 39, 3) := by decide +kernel
theorem d_Model_recordsOf_12 : decode M_Model_recordsOf.2.1 12 = .ok (.aload_n 0, 1) := by decide +kernel
theorem d_Model_recordsOf_13 : decode M_Model_recordsOf.2.1 13 = .ok (.iload_n 3, 1) := by decide +kernel
theorem d_Model_recordsOf_14 : decode M_Model_recordsOf.2.1 14 = .ok (.invokevirtual 315, 3) := by decide +kernel
theorem d_Model_recordsOf_17 : decode M_Model_recordsOf.2.1 17 = .ok (.ifCond .eq 25, 3) := by decide +kernel
theorem d_Model_recordsOf_20 : decode M_Model_recordsOf.2.1 20 = .ok (.aload_n 0, 1) := by decide +kernel
theorem d_Model_recordsOf_21 : decode M_Model_recordsOf.2.1 21 = .ok (.iload_n 3, 1) := by decide +kernel
theorem d_Model_recordsOf_22 : decode M_Model_recordsOf.2.1 22 = .ok (.iconst 1, 1) := by decide +kernel
theorem d_Model_recordsOf_23 : decode M_Model_recordsOf.2.1 23 = .ok (.invokevirtual 305, 3) := by decide +kernel
theorem d_Model_recordsOf_26 : decode M_Model_recordsOf.2.1 26 = .ok (.iload_n 1, 1) := by decide +kernel
theorem d_Model_recordsOf_27 : decode M_Model_recordsOf.2.1 27 = .ok (.if_icmp .ne 15, 3) := by decide +kernel
theorem d_Model_recordsOf_30 : decode M_Model_recordsOf.2.1 30 = .ok (.iload_n 2, 1) := by decide +kernel
theorem d_Model_recordsOf_31 : decode M_Model_recordsOf.2.1 31 = .ok (.iconst 1, 1) := by decide +kernel
theorem d_Model_recordsOf_32 : decode M_Model_recordsOf.2.1 32 = .ok (.aload_n 0, 1) := by decide +kernel
theorem d_Model_recordsOf_33 : decode M_Model_recordsOf.2.1 33 = .ok (.iload_n 3, 1) := by decide +kernel
theorem d_Model_recordsOf_34 : decode M_Model_recordsOf.2.1 34 = .ok (.bipush 7, 2) := by decide +kernel
theorem d_Model_recordsOf_36 : decode M_Model_recordsOf.2.1 36 = .ok (.invokevirtual 305, 3) := by decide +kernel
theorem d_Model_recordsOf_39 : decode M_Model_recordsOf.2.1 39 = .ok (.ishl, 1) := by decide +kernel
theorem d_Model_recordsOf_40 : decode M_Model_recordsOf.2.1 40 = .ok (.ior, 1) := by decide +kernel
theorem d_Model_recordsOf_41 : decode M_Model_recordsOf.2.1 41 = .ok (.istore_n 2, 1) := by decide +kernel
theorem d_Model_recordsOf_42 : decode M_Model_recordsOf.2.1 42 = .ok (.iinc 3 1, 3) := by decide +kernel
theorem d_Model_recordsOf_45 : decode M_Model_recordsOf.2.1 45 = .ok (.goto (-41), 3) := by decide +kernel
theorem d_Model_recordsOf_48 : decode M_Model_recordsOf.2.1 48 = .ok (.iload_n 2, 1) := by decide +kernel
theorem d_Model_recordsOf_49 : decode M_Model_recordsOf.2.1 49 = .ok (.ireturn, 1) := by decide +kernel
theorem d_Model_heir_0 : decode M_Model_heir.2.1 0 = .ok (.aload_n 0, 1) := by decide +kernel
theorem d_Model_heir_1 : decode M_Model_heir.2.1 1 = .ok (.iconst 0, 1) := by decide +kernel
theorem d_Model_heir_2 : decode M_Model_heir.2.1 2 = .ok (.putfield 114, 3) := by decide +kernel
theorem d_Model_heir_5 : decode M_Model_heir.2.1 5 = .ok (.aload_n 0, 1) := by decide +kernel
theorem d_Model_heir_6 : decode M_Model_heir.2.1 6 = .ok (.iload_n 1, 1) := by decide +kernel
theorem d_Model_heir_7 : decode M_Model_heir.2.1 7 = .ok (.invokevirtual 335, 3) := by decide +kernel
theorem d_Model_heir_10 : decode M_Model_heir.2.1 10 = .ok (.ifCond .ne 9, 3) := by decide +kernel
theorem d_Model_heir_13 : decode M_Model_heir.2.1 13 = .ok (.aload_n 0, 1) := by decide +kernel
theorem d_Model_heir_14 : decode M_Model_heir.2.1 14 = .ok (.iconst 1, 1) := by decide +kernel
theorem d_Model_heir_15 : decode M_Model_heir.2.1 15 = .ok (.invokevirtual 273, 3) := by decide +kernel
theorem d_Model_heir_18 : decode M_Model_heir.2.1 18 = .ok (.ireturn, 1) := by decide +kernel
theorem d_Model_heir_19 : decode M_Model_heir.2.1 19 = .ok (.aload_n 0, 1) := by decide +kernel
theorem d_Model_heir_20 : decode M_Model_heir.2.1 20 = .ok (.iload_n 1, 1) := by decide +kernel
theorem d_Model_heir_21 : decode M_Model_heir.2.1 21 = .ok (.invokevirtual 426, 3) := by decide +kernel
theorem d_Model_heir_24 : decode M_Model_heir.2.1 24 = .ok (.istore_n 2, 1) := by decide +kernel
theorem d_Model_heir_25 : decode M_Model_heir.2.1 25 = .ok (.iconst (-1), 1) := by decide +kernel
theorem d_Model_heir_26 : decode M_Model_heir.2.1 26 = .ok (.istore_n 3, 1) := by decide +kernel
theorem d_Model_heir_27 : decode M_Model_heir.2.1 27 = .ok (.iconst 0, 1) := by decide +kernel
theorem d_Model_heir_28 : decode M_Model_heir.2.1 28 = .ok (.istore 4, 2) := by decide +kernel
theorem d_Model_heir_30 : decode M_Model_heir.2.1 30 = .ok (.iload 4, 2) := by decide +kernel
theorem d_Model_heir_32 : decode M_Model_heir.2.1 32 = .ok (.aload_n 0, 1) := by decide +kernel
theorem d_Model_heir_33 : decode M_Model_heir.2.1 33 = .ok (.getfield 51, 3) := by decide +kernel
theorem d_Model_heir_36 : decode M_Model_heir.2.1 36 = .ok (.iconst 0, 1) := by decide +kernel
theorem d_Model_heir_37 : decode M_Model_heir.2.1 37 = .ok (.iaload, 1) := by decide +kernel
theorem d_Model_heir_38 : decode M_Model_heir.2.1 38 = .ok (.if_icmp .ge 62, 3) := by decide +kernel
theorem d_Model_heir_41 : decode M_Model_heir.2.1 41 = .ok (.iload 4, 2) := by decide +kernel
theorem d_Model_heir_43 : decode M_Model_heir.2.1 43 = .ok (.iload_n 1, 1) := by decide +kernel
theorem d_Model_heir_44 : decode M_Model_heir.2.1 44 = .ok (.if_icmp .eq 50, 3) := by decide +kernel
theorem d_Model_heir_47 : decode M_Model_heir.2.1 47 = .ok (.aload_n 0, 1) := by decide +kernel
theorem d_Model_heir_48 : decode M_Model_heir.2.1 48 = .ok (.getfield 289, 3) := by decide +kernel
theorem d_Model_heir_51 : decode M_Model_heir.2.1 51 = .ok (.iload 4, 2) := by decide +kernel
theorem d_Model_heir_53 : decode M_Model_heir.2.1 53 = .ok (.invokestatic 308, 3) := by decide +kernel
theorem d_Model_heir_56 : decode M_Model_heir.2.1 56 = .ok (.ifCond .eq 6, 3) := by decide +kernel
theorem d_Model_heir_59 : decode M_Model_heir.2.1 59 = .ok (.goto 35, 3) := by decide +kernel
theorem d_Model_heir_62 : decode M_Model_heir.2.1 62 = .ok (.iload_n 3, 1) := by decide +kernel
theorem d_Model_heir_63 : decode M_Model_heir.2.1 63 = .ok (.iconst (-1), 1) := by decide +kernel
theorem d_Model_heir_64 : decode M_Model_heir.2.1 64 = .ok (.if_icmp .eq 27, 3) := by decide +kernel
theorem d_Model_heir_67 : decode M_Model_heir.2.1 67 = .ok (.aload_n 0, 1) := by decide +kernel
theorem d_Model_heir_68 : decode M_Model_heir.2.1 68 = .ok (.iload 4, 2) := by decide +kernel
theorem d_Model_heir_70 : decode M_Model_heir.2.1 70 = .ok (.invokevirtual 426, 3) := by decide +kernel
theorem d_Model_heir_73 : decode M_Model_heir.2.1 73 = .ok (.iload_n 2, 1) := by decide +kernel
theorem d_Model_heir_74 : decode M_Model_heir.2.1 74 = .ok (.iand, 1) := by decide +kernel
theorem d_Model_heir_75 : decode M_Model_heir.2.1 75 = .ok (.invokestatic 332, 3) := by decide +kernel
theorem d_Model_heir_78 : decode M_Model_heir.2.1 78 = .ok (.aload_n 0, 1) := by decide +kernel
theorem d_Model_heir_79 : decode M_Model_heir.2.1 79 = .ok (.iload_n 3, 1) := by decide +kernel
theorem d_Model_heir_80 : decode M_Model_heir.2.1 80 = .ok (.invokevirtual 426, 3) := by decide +kernel
theorem d_Model_heir_83 : decode M_Model_heir.2.1 83 = .ok (.iload_n 2, 1) := by decide +kernel
theorem d_Model_heir_84 : decode M_Model_heir.2.1 84 = .ok (.iand, 1) := by decide +kernel
theorem d_Model_heir_85 : decode M_Model_heir.2.1 85 = .ok (.invokestatic 332, 3) := by decide +kernel
theorem d_Model_heir_88 : decode M_Model_heir.2.1 88 = .ok (.if_icmp .le 6, 3) := by decide +kernel
theorem d_Model_heir_91 : decode M_Model_heir.2.1 91 = .ok (.iload 4, 2) := by decide +kernel
theorem d_Model_heir_93 : decode M_Model_heir.2.1 93 = .ok (.istore_n 3, 1) := by decide +kernel
theorem d_Model_heir_94 : decode M_Model_heir.2.1 94 = .ok (.iinc 4 1, 3) := by decide +kernel
theorem d_Model_heir_97 : decode M_Model_heir.2.1 97 = .ok (.goto (-67), 3) := by decide +kernel
theorem d_Model_heir_100 : decode M_Model_heir.2.1 100 = .ok (.iload_n 3, 1) := by decide +kernel
theorem d_Model_heir_101 : decode M_Model_heir.2.1 101 = .ok (.ireturn, 1) := by decide +kernel
theorem d_Model_lice_0 : decode M_Model_lice.2.1 0 = .ok (.aload_n 0, 1) := by decide +kernel
theorem d_Model_lice_1 : decode M_Model_lice.2.1 1 = .ok (.iconst 0, 1) := by decide +kernel
theorem d_Model_lice_2 : decode M_Model_lice.2.1 2 = .ok (.putfield 114, 3) := by decide +kernel
theorem d_Model_lice_5 : decode M_Model_lice.2.1 5 = .ok (.aload_n 0, 1) := by decide +kernel
theorem d_Model_lice_6 : decode M_Model_lice.2.1 6 = .ok (.iload_n 1, 1) := by decide +kernel
theorem d_Model_lice_7 : decode M_Model_lice.2.1 7 = .ok (.invokevirtual 335, 3) := by decide +kernel
theorem d_Model_lice_10 : decode M_Model_lice.2.1 10 = .ok (.ifCond .ne 9, 3) := by decide +kernel
theorem d_Model_lice_13 : decode M_Model_lice.2.1 13 = .ok (.aload_n 0, 1) := by decide +kernel
theorem d_Model_lice_14 : decode M_Model_lice.2.1 14 = .ok (.iconst 1, 1) := by decide +kernel
theorem d_Model_lice_15 : decode M_Model_lice.2.1 15 = .ok (.invokevirtual 273, 3) := by decide +kernel
theorem d_Model_lice_18 : decode M_Model_lice.2.1 18 = .ok (.ireturn, 1) := by decide +kernel
theorem d_Model_lice_19 : decode M_Model_lice.2.1 19 = .ok (.iconst 0, 1) := by decide +kernel
theorem d_Model_lice_20 : decode M_Model_lice.2.1 20 = .ok (.istore_n 2, 1) := by decide +kernel
theorem d_Model_lice_21 : decode M_Model_lice.2.1 21 = .ok (.iconst 0, 1) := by decide +kernel
theorem d_Model_lice_22 : decode M_Model_lice.2.1 22 = .ok (.istore_n 3, 1) := by decide +kernel
theorem d_Model_lice_23 : decode M_Model_lice.2.1 23 = .ok (.iload_n 3, 1) := by decide +kernel
theorem d_Model_lice_24 : decode M_Model_lice.2.1 24 = .ok (.aload_n 0, 1) := by decide +kernel
theorem d_Model_lice_25 : decode M_Model_lice.2.1 25 = .ok (.getfield 121, 3) := by decide +kernel
theorem d_Model_lice_28 : decode M_Model_lice.2.1 28 = .ok (.if_icmp .ge 48, 3) := by decide +kernel
theorem d_Model_lice_31 : decode M_Model_lice.2.1 31 = .ok (.iload_n 2, 1) := by decide +kernel
theorem d_Model_lice_32 : decode M_Model_lice.2.1 32 = .ok (.aload_n 0, 1) := by decide +kernel
theorem d_Model_lice_33 : decode M_Model_lice.2.1 33 = .ok (.iload_n 3, 1) := by decide +kernel
theorem d_Model_lice_34 : decode M_Model_lice.2.1 34 = .ok (.invokevirtual 315, 3) := by decide +kernel
theorem d_Model_lice_37 : decode M_Model_lice.2.1 37 = .ok (.ifCond .eq 30, 3) := by decide +kernel
theorem d_Model_lice_40 : decode M_Model_lice.2.1 40 = .ok (.aload_n 0, 1) := by decide +kernel
theorem d_Model_lice_41 : decode M_Model_lice.2.1 41 = .ok (.iload_n 3, 1) := by decide +kernel
theorem d_Model_lice_42 : decode M_Model_lice.2.1 42 = .ok (.iconst 1, 1) := by decide +kernel
theorem d_Model_lice_43 : decode M_Model_lice.2.1 43 = .ok (.invokevirtual 305, 3) := by decide +kernel
theorem d_Model_lice_46 : decode M_Model_lice.2.1 46 = .ok (.iload_n 1, 1) := by decide +kernel
theorem d_Model_lice_47 : decode M_Model_lice.2.1 47 = .ok (.if_icmp .ne 20, 3) := by decide +kernel
theorem d_Model_lice_50 : decode M_Model_lice.2.1 50 = .ok (.aload_n 0, 1) := by decide +kernel
theorem d_Model_lice_51 : decode M_Model_lice.2.1 51 = .ok (.iload_n 3, 1) := by decide +kernel
theorem d_Model_lice_52 : decode M_Model_lice.2.1 52 = .ok (.iconst 4, 1) := by decide +kernel
theorem d_Model_lice_53 : decode M_Model_lice.2.1 53 = .ok (.invokevirtual 305, 3) := by decide +kernel
theorem d_Model_lice_56 : decode M_Model_lice.2.1 56 = .ok (.aload_n 0, 1) := by decide +kernel
theorem d_Model_lice_57 : decode M_Model_lice.2.1 57 = .ok (.iload_n 3, 1) := by decide +kernel
theorem d_Model_lice_58 : decode M_Model_lice.2.1 58 = .ok (.invokevirtual 318, 3) := by decide +kernel
theorem d_Model_lice_61 : decode M_Model_lice.2.1 61 = .ok (.iconst 1, 1) := by decide +kernel
theorem d_Model_lice_62 : decode M_Model_lice.2.1 62 = .ok (.iadd, 1) := by decide +kernel
theorem d_Model_lice_63 : decode M_Model_lice.2.1 63 = .ok (.imul, 1) := by decide +kernel
theorem d_Model_lice_64 : decode M_Model_lice.2.1 64 = .ok (.goto 4, 3) := by decide +kernel
theorem d_Model_lice_67 : decode M_Model_lice.2.1 67 = .ok (.iconst 0, 1) := by decide +kernel
theorem d_Model_lice_68 : decode M_Model_lice.2.1 68 = .ok (.iadd, 1) := by decide +kernel
theorem d_Model_lice_69 : decode M_Model_lice.2.1 69 = .ok (.istore_n 2, 1) := by decide +kernel
theorem d_Model_lice_70 : decode M_Model_lice.2.1 70 = .ok (.iinc 3 1, 3) := by decide +kernel
theorem d_Model_lice_73 : decode M_Model_lice.2.1 73 = .ok (.goto (-50), 3) := by decide +kernel
theorem d_Model_lice_76 : decode M_Model_lice.2.1 76 = .ok (.iload_n 2, 1) := by decide +kernel
theorem d_Model_lice_77 : decode M_Model_lice.2.1 77 = .ok (.bipush 97, 2) := by decide +kernel
theorem d_Model_lice_79 : decode M_Model_lice.2.1 79 = .ok (.irem, 1) := by decide +kernel
theorem d_Model_lice_80 : decode M_Model_lice.2.1 80 = .ok (.ireturn, 1) := by decide +kernel
theorem d_Model_see_0 : decode M_Model_see.2.1 0 = .ok (.aload_n 0, 1) := by decide +kernel
theorem d_Model_see_1 : decode M_Model_see.2.1 1 = .ok (.iconst 0, 1) := by decide +kernel
theorem d_Model_see_2 : decode M_Model_see.2.1 2 = .ok (.putfield 114, 3) := by decide +kernel
theorem d_Model_see_5 : decode M_Model_see.2.1 5 = .ok (.aload_n 0, 1) := by decide +kernel
theorem d_Model_see_6 : decode M_Model_see.2.1 6 = .ok (.iload_n 1, 1) := by decide +kernel
theorem d_Model_see_7 : decode M_Model_see.2.1 7 = .ok (.invokevirtual 341, 3) := by decide +kernel
theorem d_Model_see_10 : decode M_Model_see.2.1 10 = .ok (.ifCond .ne 9, 3) := by decide +kernel
theorem d_Model_see_13 : decode M_Model_see.2.1 13 = .ok (.aload_n 0, 1) := by decide +kernel
theorem d_Model_see_14 : decode M_Model_see.2.1 14 = .ok (.iconst 1, 1) := by decide +kernel
theorem d_Model_see_15 : decode M_Model_see.2.1 15 = .ok (.invokevirtual 273, 3) := by decide +kernel
theorem d_Model_see_18 : decode M_Model_see.2.1 18 = .ok (.ireturn, 1) := by decide +kernel
theorem d_Model_see_19 : decode M_Model_see.2.1 19 = .ok (.aload_n 0, 1) := by decide +kernel
theorem d_Model_see_20 : decode M_Model_see.2.1 20 = .ok (.getfield 298, 3) := by decide +kernel
theorem d_Model_see_23 : decode M_Model_see.2.1 23 = .ok (.bipush 8, 2) := by decide +kernel
theorem d_Model_see_25 : decode M_Model_see.2.1 25 = .ok (.if_icmp .ne 9, 3) := by decide +kernel
theorem d_Model_see_28 : decode M_Model_see.2.1 28 = .ok (.aload_n 0, 1) := by decide +kernel
theorem d_Model_see_29 : decode M_Model_see.2.1 29 = .ok (.iconst 2, 1) := by decide +kernel
theorem d_Model_see_30 : decode M_Model_see.2.1 30 = .ok (.invokevirtual 365, 3) := by decide +kernel
theorem d_Model_see_33 : decode M_Model_see.2.1 33 = .ok (.ireturn, 1) := by decide +kernel
theorem d_Model_see_34 : decode M_Model_see.2.1 34 = .ok (.aload_n 0, 1) := by decide +kernel
theorem d_Model_see_35 : decode M_Model_see.2.1 35 = .ok (.getfield 93, 3) := by decide +kernel
theorem d_Model_see_38 : decode M_Model_see.2.1 38 = .ok (.aload_n 0, 1) := by decide +kernel
theorem d_Model_see_39 : decode M_Model_see.2.1 39 = .ok (.getfield 298, 3) := by decide +kernel
theorem d_Model_see_42 : decode M_Model_see.2.1 42 = .ok (.iload_n 1, 1) := by decide +kernel
theorem d_Model_see_43 : decode M_Model_see.2.1 43 = .ok (.iastore, 1) := by decide +kernel
theorem d_Model_see_44 : decode M_Model_see.2.1 44 = .ok (.aload_n 0, 1) := by decide +kernel
theorem d_Model_see_45 : decode M_Model_see.2.1 45 = .ok (.getfield 96, 3) := by decide +kernel
theorem d_Model_see_48 : decode M_Model_see.2.1 48 = .ok (.aload_n 0, 1) := by decide +kernel
theorem d_Model_see_49 : decode M_Model_see.2.1 49 = .ok (.getfield 298, 3) := by decide +kernel
theorem d_Model_see_52 : decode M_Model_see.2.1 52 = .ok (.iload_n 2, 1) := by decide +kernel
theorem d_Model_see_53 : decode M_Model_see.2.1 53 = .ok (.ifCond .eq 7, 3) := by decide +kernel
theorem d_Model_see_56 : decode M_Model_see.2.1 56 = .ok (.iconst 1, 1) := by decide +kernel
theorem d_Model_see_57 : decode M_Model_see.2.1 57 = .ok (.goto 4, 3) := by decide +kernel
theorem d_Model_see_60 : decode M_Model_see.2.1 60 = .ok (.iconst 0, 1) := by decide +kernel
theorem d_Model_see_61 : decode M_Model_see.2.1 61 = .ok (.iastore, 1) := by decide +kernel
theorem d_Model_see_62 : decode M_Model_see.2.1 62 = .ok (.aload_n 0, 1) := by decide +kernel
theorem d_Model_see_63 : decode M_Model_see.2.1 63 = .ok (.dup, 1) := by decide +kernel
theorem d_Model_see_64 : decode M_Model_see.2.1 64 = .ok (.getfield 298, 3) := by decide +kernel
theorem d_Model_see_67 : decode M_Model_see.2.1 67 = .ok (.iconst 1, 1) := by decide +kernel
theorem d_Model_see_68 : decode M_Model_see.2.1 68 = .ok (.iadd, 1) := by decide +kernel
theorem d_Model_see_69 : decode M_Model_see.2.1 69 = .ok (.putfield 298, 3) := by decide +kernel
theorem d_Model_see_72 : decode M_Model_see.2.1 72 = .ok (.aload_n 0, 1) := by decide +kernel
theorem d_Model_see_73 : decode M_Model_see.2.1 73 = .ok (.getfield 298, 3) := by decide +kernel
theorem d_Model_see_76 : decode M_Model_see.2.1 76 = .ok (.ireturn, 1) := by decide +kernel
theorem d_Model_isAsSeen_0 : decode M_Model_isAsSeen.2.1 0 = .ok (.iconst 0, 1) := by decide +kernel
theorem d_Model_isAsSeen_1 : decode M_Model_isAsSeen.2.1 1 = .ok (.istore_n 1, 1) := by decide +kernel
theorem d_Model_isAsSeen_2 : decode M_Model_isAsSeen.2.1 2 = .ok (.iload_n 1, 1) := by decide +kernel
theorem d_Model_isAsSeen_3 : decode M_Model_isAsSeen.2.1 3 = .ok (.aload_n 0, 1) := by decide +kernel
theorem d_Model_isAsSeen_4 : decode M_Model_isAsSeen.2.1 4 = .ok (.getfield 298, 3) := by decide +kernel
theorem d_Model_isAsSeen_7 : decode M_Model_isAsSeen.2.1 7 = .ok (.if_icmp .ge 51, 3) := by decide +kernel
theorem d_Model_isAsSeen_10 : decode M_Model_isAsSeen.2.1 10 = .ok (.aload_n 0, 1) := by decide +kernel
theorem d_Model_isAsSeen_11 : decode M_Model_isAsSeen.2.1 11 = .ok (.aload_n 0, 1) := by decide +kernel
theorem d_Model_isAsSeen_12 : decode M_Model_isAsSeen.2.1 12 = .ok (.getfield 93, 3) := by decide +kernel
theorem d_Model_isAsSeen_15 : decode M_Model_isAsSeen.2.1 15 = .ok (.iload_n 1, 1) := by decide +kernel
theorem d_Model_isAsSeen_16 : decode M_Model_isAsSeen.2.1 16 = .ok (.iaload, 1) := by decide +kernel
theorem d_Model_isAsSeen_17 : decode M_Model_isAsSeen.2.1 17 = .ok (.invokevirtual 341, 3) := by decide +kernel
theorem d_Model_isAsSeen_20 : decode M_Model_isAsSeen.2.1 20 = .ok (.ifCond .eq 20, 3) := by decide +kernel
theorem d_Model_isAsSeen_23 : decode M_Model_isAsSeen.2.1 23 = .ok (.aload_n 0, 1) := by decide +kernel
theorem d_Model_isAsSeen_24 : decode M_Model_isAsSeen.2.1 24 = .ok (.aload_n 0, 1) := by decide +kernel
theorem d_Model_isAsSeen_25 : decode M_Model_isAsSeen.2.1 25 = .ok (.getfield 93, 3) := by decide +kernel
theorem d_Model_isAsSeen_28 : decode M_Model_isAsSeen.2.1 28 = .ok (.iload_n 1, 1) := by decide +kernel
theorem d_Model_isAsSeen_29 : decode M_Model_isAsSeen.2.1 29 = .ok (.iaload, 1) := by decide +kernel
theorem d_Model_isAsSeen_30 : decode M_Model_isAsSeen.2.1 30 = .ok (.invokevirtual 315, 3) := by decide +kernel
theorem d_Model_isAsSeen_33 : decode M_Model_isAsSeen.2.1 33 = .ok (.ifCond .eq 7, 3) := by decide +kernel
theorem d_Model_isAsSeen_36 : decode M_Model_isAsSeen.2.1 36 = .ok (.iconst 1, 1) := by decide +kernel
theorem d_Model_isAsSeen_37 : decode M_Model_isAsSeen.2.1 37 = .ok (.goto 4, 3) := by decide +kernel
theorem d_Model_isAsSeen_40 : decode M_Model_isAsSeen.2.1 40 = .ok (.iconst 0, 1) := by decide +kernel
theorem d_Model_isAsSeen_41 : decode M_Model_isAsSeen.2.1 41 = .ok (.aload_n 0, 1) := by decide +kernel
theorem d_Model_isAsSeen_42 : decode M_Model_isAsSeen.2.1 42 = .ok (.getfield 96, 3) := by decide +kernel
theorem d_Model_isAsSeen_45 : decode M_Model_isAsSeen.2.1 45 = .ok (.iload_n 1, 1) := by decide +kernel
theorem d_Model_isAsSeen_46 : decode M_Model_isAsSeen.2.1 46 = .ok (.iaload, 1) := by decide +kernel
theorem d_Model_isAsSeen_47 : decode M_Model_isAsSeen.2.1 47 = .ok (.if_icmp .eq 5, 3) := by decide +kernel
theorem d_Model_isAsSeen_50 : decode M_Model_isAsSeen.2.1 50 = .ok (.iconst 0, 1) := by decide +kernel
theorem d_Model_isAsSeen_51 : decode M_Model_isAsSeen.2.1 51 = .ok (.ireturn, 1) := by decide +kernel
theorem d_Model_isAsSeen_52 : decode M_Model_isAsSeen.2.1 52 = .ok (.iinc 1 1, 3) := by decide +kernel
theorem d_Model_isAsSeen_55 : decode M_Model_isAsSeen.2.1 55 = .ok (.goto (-53), 3) := by decide +kernel
theorem d_Model_isAsSeen_58 : decode M_Model_isAsSeen.2.1 58 = .ok (.iconst 1, 1) := by decide +kernel
theorem d_Model_isAsSeen_59 : decode M_Model_isAsSeen.2.1 59 = .ok (.ireturn, 1) := by decide +kernel
theorem d_Model_ate_0 : decode M_Model_ate.2.1 0 = .ok (.aload_n 0, 1) := by decide +kernel
theorem d_Model_ate_1 : decode M_Model_ate.2.1 1 = .ok (.iconst 0, 1) := by decide +kernel
theorem d_Model_ate_2 : decode M_Model_ate.2.1 2 = .ok (.putfield 114, 3) := by decide +kernel
theorem d_Model_ate_5 : decode M_Model_ate.2.1 5 = .ok (.aload_n 0, 1) := by decide +kernel
theorem d_Model_ate_6 : decode M_Model_ate.2.1 6 = .ok (.iload_n 1, 1) := by decide +kernel
theorem d_Model_ate_7 : decode M_Model_ate.2.1 7 = .ok (.invokevirtual 335, 3) := by decide +kernel
theorem d_Model_ate_10 : decode M_Model_ate.2.1 10 = .ok (.ifCond .eq 12, 3) := by decide +kernel
theorem d_Model_ate_13 : decode M_Model_ate.2.1 13 = .ok (.iload_n 2, 1) := by decide +kernel
theorem d_Model_ate_14 : decode M_Model_ate.2.1 14 = .ok (.ifCond .lt 8, 3) := by decide +kernel
theorem d_Model_ate_17 : decode M_Model_ate.2.1 17 = .ok (.iload_n 2, 1) := by decide +kernel
theorem d_Model_ate_18 : decode M_Model_ate.2.1 18 = .ok (.iconst 1, 1) := by decide +kernel
theorem d_Model_ate_19 : decode M_Model_ate.2.1 19 = .ok (.if_icmp .le 9, 3) := by decide +kernel
theorem d_Model_ate_22 : decode M_Model_ate.2.1 22 = .ok (.aload_n 0, 1) := by decide +kernel
theorem d_Model_ate_23 : decode M_Model_ate.2.1 23 = .ok (.iconst 1, 1) := by decide +kernel
theorem d_Model_ate_24 : decode M_Model_ate.2.1 24 = .ok (.invokevirtual 273, 3) := by decide +kernel
theorem d_Model_ate_27 : decode M_Model_ate.2.1 27 = .ok (.ireturn, 1) := by decide +kernel
theorem d_Model_ate_28 : decode M_Model_ate.2.1 28 = .ok (.iconst 0, 1) := by decide +kernel
theorem d_Model_ate_29 : decode M_Model_ate.2.1 29 = .ok (.istore_n 3, 1) := by decide +kernel
theorem d_Model_ate_30 : decode M_Model_ate.2.1 30 = .ok (.iconst (-1), 1) := by decide +kernel
theorem d_Model_ate_31 : decode M_Model_ate.2.1 31 = .ok (.istore 4, 2) := by decide +kernel
theorem d_Model_ate_33 : decode M_Model_ate.2.1 33 = .ok (.aload_n 0, 1) := by decide +kernel
theorem d_Model_ate_34 : decode M_Model_ate.2.1 34 = .ok (.aload_n 0, 1) := by decide +kernel
theorem d_Model_ate_35 : decode M_Model_ate.2.1 35 = .ok (.getfield 90, 3) := by decide +kernel
theorem d_Model_ate_38 : decode M_Model_ate.2.1 38 = .ok (.iconst 0, 1) := by decide +kernel
theorem d_Model_ate_39 : decode M_Model_ate.2.1 39 = .ok (.invokevirtual 359, 3) := by decide +kernel
theorem d_Model_ate_42 : decode M_Model_ate.2.1 42 = .ok (.iconst 0, 1) := by decide +kernel
theorem d_Model_ate_43 : decode M_Model_ate.2.1 43 = .ok (.istore 5, 2) := by decide +kernel
theorem d_Model_ate_45 : decode M_Model_ate.2.1 45 = .ok (.iload 5, 2) := by decide +kernel
theorem d_Model_ate_47 : decode M_Model_ate.2.1 47 = .ok (.bipush 20, 2) := by decide +kernel
theorem d_Model_ate_49 : decode M_Model_ate.2.1 49 = .ok (.if_icmp .gt 83, 3) := by decide +kernel
theorem d_Model_ate_52 : decode M_Model_ate.2.1 52 = .ok (.iload 5, 2) := by decide +kernel
theorem d_Model_ate_54 : decode M_Model_ate.2.1 54 = .ok (.istore 6, 2) := by decide +kernel
theorem d_Model_ate_56 : decode M_Model_ate.2.1 56 = .ok (.iload 6, 2) := by decide +kernel
theorem d_Model_ate_58 : decode M_Model_ate.2.1 58 = .ok (.bipush 20, 2) := by decide +kernel
theorem d_Model_ate_60 : decode M_Model_ate.2.1 60 = .ok (.if_icmp .gt 66, 3) := by decide +kernel
theorem d_Model_ate_63 : decode M_Model_ate.2.1 63 = .ok (.aload_n 0, 1) := by decide +kernel
theorem d_Model_ate_64 : decode M_Model_ate.2.1 64 = .ok (.iload_n 1, 1) := by decide +kernel
theorem d_Model_ate_65 : decode M_Model_ate.2.1 65 = .ok (.iload 5, 2) := by decide +kernel
theorem d_Model_ate_67 : decode M_Model_ate.2.1 67 = .ok (.iload 6, 2) := by decide +kernel
theorem d_Model_ate_69 : decode M_Model_ate.2.1 69 = .ok (.invokevirtual 390, 3) := by decide +kernel
theorem d_Model_ate_72 : decode M_Model_ate.2.1 72 = .ok (.pop, 1) := by decide +kernel
theorem d_Model_ate_73 : decode M_Model_ate.2.1 73 = .ok (.aload_n 0, 1) := by decide +kernel
theorem d_Model_ate_74 : decode M_Model_ate.2.1 74 = .ok (.invokevirtual 429, 3) := by decide +kernel
theorem d_Model_ate_77 : decode M_Model_ate.2.1 77 = .ok (.istore 7, 2) := by decide +kernel
theorem d_Model_ate_79 : decode M_Model_ate.2.1 79 = .ok (.aload_n 0, 1) := by decide +kernel
theorem d_Model_ate_80 : decode M_Model_ate.2.1 80 = .ok (.aload_n 0, 1) := by decide +kernel
theorem d_Model_ate_81 : decode M_Model_ate.2.1 81 = .ok (.getfield 90, 3) := by decide +kernel
theorem d_Model_ate_84 : decode M_Model_ate.2.1 84 = .ok (.iconst 0, 1) := by decide +kernel
theorem d_Model_ate_85 : decode M_Model_ate.2.1 85 = .ok (.invokevirtual 393, 3) := by decide +kernel
theorem d_Model_ate_88 : decode M_Model_ate.2.1 88 = .ok (.iload 7, 2) := by decide +kernel
theorem d_Model_ate_90 : decode M_Model_ate.2.1 90 = .ok (.ifCond .ne 6, 3) := by decide +kernel
theorem d_Model_ate_93 : decode M_Model_ate.2.1 93 = .ok (.goto 27, 3) := by decide +kernel
theorem d_Model_ate_96 : decode M_Model_ate.2.1 96 = .ok (.iinc 3 1, 3) := by decide +kernel
theorem d_Model_ate_99 : decode M_Model_ate.2.1 99 = .ok (.iload 4, 2) := by decide +kernel
theorem d_Model_ate_101 : decode M_Model_ate.2.1 101 = .ok (.iconst (-1), 1) := by decide +kernel
theorem d_Model_ate_102 : decode M_Model_ate.2.1 102 = .ok (.if_icmp .ne 14, 3) := by decide +kernel
theorem d_Model_ate_105 : decode M_Model_ate.2.1 105 = .ok (.bipush 100, 2) := by decide +kernel
theorem d_Model_ate_107 : decode M_Model_ate.2.1 107 = .ok (.iload 5, 2) := by decide +kernel
theorem d_Model_ate_109 : decode M_Model_ate.2.1 109 = .ok (.imul, 1) := by decide +kernel
theorem d_Model_ate_110 : decode M_Model_ate.2.1 110 = .ok (.iload 6, 2) := by decide +kernel
theorem d_Model_ate_112 : decode M_Model_ate.2.1 112 = .ok (.iadd, 1) := by decide +kernel
theorem d_Model_ate_113 : decode M_Model_ate.2.1 113 = .ok (.goto 5, 3) := by decide +kernel
theorem d_Model_ate_116 : decode M_Model_ate.2.1 116 = .ok (.iload 4, 2) := by decide +kernel
theorem d_Model_ate_118 : decode M_Model_ate.2.1 118 = .ok (.istore 4, 2) := by decide +kernel
theorem d_Model_ate_120 : decode M_Model_ate.2.1 120 = .ok (.iinc 6 1, 3) := by decide +kernel
theorem d_Model_ate_123 : decode M_Model_ate.2.1 123 = .ok (.goto (-67), 3) := by decide +kernel
theorem d_Model_ate_126 : decode M_Model_ate.2.1 126 = .ok (.iinc 5 1, 3) := by decide +kernel
theorem d_Model_ate_129 : decode M_Model_ate.2.1 129 = .ok (.goto (-84), 3) := by decide +kernel
theorem d_Model_ate_132 : decode M_Model_ate.2.1 132 = .ok (.iload_n 2, 1) := by decide +kernel
theorem d_Model_ate_133 : decode M_Model_ate.2.1 133 = .ok (.ifCond .ne 7, 3) := by decide +kernel
theorem d_Model_ate_136 : decode M_Model_ate.2.1 136 = .ok (.iload_n 3, 1) := by decide +kernel
theorem d_Model_ate_137 : decode M_Model_ate.2.1 137 = .ok (.goto 5, 3) := by decide +kernel
theorem d_Model_ate_140 : decode M_Model_ate.2.1 140 = .ok (.iload 4, 2) := by decide +kernel
theorem d_Model_ate_142 : decode M_Model_ate.2.1 142 = .ok (.ireturn, 1) := by decide +kernel
theorem d_Model_forget_0 : decode M_Model_forget.2.1 0 = .ok (.aload_n 0, 1) := by decide +kernel
theorem d_Model_forget_1 : decode M_Model_forget.2.1 1 = .ok (.iconst 0, 1) := by decide +kernel
theorem d_Model_forget_2 : decode M_Model_forget.2.1 2 = .ok (.putfield 114, 3) := by decide +kernel
theorem d_Model_forget_5 : decode M_Model_forget.2.1 5 = .ok (.aload_n 0, 1) := by decide +kernel
theorem d_Model_forget_6 : decode M_Model_forget.2.1 6 = .ok (.getfield 298, 3) := by decide +kernel
theorem d_Model_forget_9 : decode M_Model_forget.2.1 9 = .ok (.ifCond .ne 5, 3) := by decide +kernel
theorem d_Model_forget_12 : decode M_Model_forget.2.1 12 = .ok (.iconst (-1), 1) := by decide +kernel
theorem d_Model_forget_13 : decode M_Model_forget.2.1 13 = .ok (.ireturn, 1) := by decide +kernel
theorem d_Model_forget_14 : decode M_Model_forget.2.1 14 = .ok (.aload_n 0, 1) := by decide +kernel
theorem d_Model_forget_15 : decode M_Model_forget.2.1 15 = .ok (.dup, 1) := by decide +kernel
theorem d_Model_forget_16 : decode M_Model_forget.2.1 16 = .ok (.getfield 298, 3) := by decide +kernel
theorem d_Model_forget_19 : decode M_Model_forget.2.1 19 = .ok (.iconst 1, 1) := by decide +kernel
theorem d_Model_forget_20 : decode M_Model_forget.2.1 20 = .ok (.isub, 1) := by decide +kernel
theorem d_Model_forget_21 : decode M_Model_forget.2.1 21 = .ok (.putfield 298, 3) := by decide +kernel
theorem d_Model_forget_24 : decode M_Model_forget.2.1 24 = .ok (.aload_n 0, 1) := by decide +kernel
theorem d_Model_forget_25 : decode M_Model_forget.2.1 25 = .ok (.getfield 298, 3) := by decide +kernel
theorem d_Model_forget_28 : decode M_Model_forget.2.1 28 = .ok (.ireturn, 1) := by decide +kernel
theorem d_Model_gain_0 : decode M_Model_gain.2.1 0 = .ok (.aload_n 0, 1) := by decide +kernel
theorem d_Model_gain_1 : decode M_Model_gain.2.1 1 = .ok (.iconst 1, 1) := by decide +kernel
theorem d_Model_gain_2 : decode M_Model_gain.2.1 2 = .ok (.iload_n 1, 1) := by decide +kernel
theorem d_Model_gain_3 : decode M_Model_gain.2.1 3 = .ok (.ishl, 1) := by decide +kernel
theorem d_Model_gain_4 : decode M_Model_gain.2.1 4 = .ok (.iconst 1, 1) := by decide +kernel
theorem d_Model_gain_5 : decode M_Model_gain.2.1 5 = .ok (.iload_n 2, 1) := by decide +kernel
theorem d_Model_gain_6 : decode M_Model_gain.2.1 6 = .ok (.ishl, 1) := by decide +kernel
theorem d_Model_gain_7 : decode M_Model_gain.2.1 7 = .ok (.ior, 1) := by decide +kernel
theorem d_Model_gain_8 : decode M_Model_gain.2.1 8 = .ok (.invokevirtual 415, 3) := by decide +kernel
theorem d_Model_gain_11 : decode M_Model_gain.2.1 11 = .ok (.istore 4, 2) := by decide +kernel
theorem d_Model_gain_13 : decode M_Model_gain.2.1 13 = .ok (.iconst 0, 1) := by decide +kernel
theorem d_Model_gain_14 : decode M_Model_gain.2.1 14 = .ok (.istore 5, 2) := by decide +kernel
theorem d_Model_gain_16 : decode M_Model_gain.2.1 16 = .ok (.iconst 0, 1) := by decide +kernel
theorem d_Model_gain_17 : decode M_Model_gain.2.1 17 = .ok (.istore 6, 2) := by decide +kernel
theorem d_Model_gain_19 : decode M_Model_gain.2.1 19 = .ok (.iload 6, 2) := by decide +kernel
theorem d_Model_gain_21 : decode M_Model_gain.2.1 21 = .ok (.aload_n 0, 1) := by decide +kernel
theorem d_Model_gain_22 : decode M_Model_gain.2.1 22 = .ok (.getfield 121, 3) := by decide +kernel
theorem d_Model_gain_25 : decode M_Model_gain.2.1 25 = .ok (.if_icmp .ge 81, 3) := by decide +kernel
theorem d_Model_gain_28 : decode M_Model_gain.2.1 28 = .ok (.aload_n 0, 1) := by decide +kernel
theorem d_Model_gain_29 : decode M_Model_gain.2.1 29 = .ok (.iload 6, 2) := by decide +kernel
theorem d_Model_gain_31 : decode M_Model_gain.2.1 31 = .ok (.invokevirtual 315, 3) := by decide +kernel
theorem d_Model_gain_34 : decode M_Model_gain.2.1 34 = .ok (.ifCond .eq 66, 3) := by decide +kernel
theorem d_Model_gain_37 : decode M_Model_gain.2.1 37 = .ok (.iload 4, 2) := by decide +kernel
theorem d_Model_gain_39 : decode M_Model_gain.2.1 39 = .ok (.aload_n 0, 1) := by decide +kernel
theorem d_Model_gain_40 : decode M_Model_gain.2.1 40 = .ok (.iload 6, 2) := by decide +kernel
theorem d_Model_gain_42 : decode M_Model_gain.2.1 42 = .ok (.bipush 7, 2) := by decide +kernel
theorem d_Model_gain_44 : decode M_Model_gain.2.1 44 = .ok (.invokevirtual 305, 3) := by decide +kernel
theorem d_Model_gain_47 : decode M_Model_gain.2.1 47 = .ok (.invokestatic 308, 3) := by decide +kernel
theorem d_Model_gain_50 : decode M_Model_gain.2.1 50 = .ok (.ifCond .ne 6, 3) := by decide +kernel
theorem d_Model_gain_53 : decode M_Model_gain.2.1 53 = .ok (.goto 47, 3) := by decide +kernel
theorem d_Model_gain_56 : decode M_Model_gain.2.1 56 = .ok (.iload 4, 2) := by decide +kernel
theorem d_Model_gain_58 : decode M_Model_gain.2.1 58 = .ok (.iconst 1, 1) := by decide +kernel
theorem d_Model_gain_59 : decode M_Model_gain.2.1 59 = .ok (.aload_n 0, 1) := by decide +kernel
theorem d_Model_gain_60 : decode M_Model_gain.2.1 60 = .ok (.iload 6, 2) := by decide +kernel
theorem d_Model_gain_62 : decode M_Model_gain.2.1 62 = .ok (.bipush 7, 2) := by decide +kernel
theorem d_Model_gain_64 : decode M_Model_gain.2.1 64 = .ok (.invokevirtual 305, 3) := by decide +kernel
theorem d_Model_gain_67 : decode M_Model_gain.2.1 67 = .ok (.ishl, 1) := by decide +kernel
theorem d_Model_gain_68 : decode M_Model_gain.2.1 68 = .ok (.iconst (-1), 1) := by decide +kernel
theorem d_Model_gain_69 : decode M_Model_gain.2.1 69 = .ok (.ixor, 1) := by decide +kernel
theorem d_Model_gain_70 : decode M_Model_gain.2.1 70 = .ok (.iand, 1) := by decide +kernel
theorem d_Model_gain_71 : decode M_Model_gain.2.1 71 = .ok (.istore 4, 2) := by decide +kernel
theorem d_Model_gain_73 : decode M_Model_gain.2.1 73 = .ok (.iload 5, 2) := by decide +kernel
theorem d_Model_gain_75 : decode M_Model_gain.2.1 75 = .ok (.aload_n 0, 1) := by decide +kernel
theorem d_Model_gain_76 : decode M_Model_gain.2.1 76 = .ok (.iload 6, 2) := by decide +kernel
theorem d_Model_gain_78 : decode M_Model_gain.2.1 78 = .ok (.iconst 0, 1) := by decide +kernel
theorem d_Model_gain_79 : decode M_Model_gain.2.1 79 = .ok (.invokevirtual 305, 3) := by decide +kernel
theorem d_Model_gain_82 : decode M_Model_gain.2.1 82 = .ok (.iload_n 3, 1) := by decide +kernel
theorem d_Model_gain_83 : decode M_Model_gain.2.1 83 = .ok (.if_icmp .ne 13, 3) := by decide +kernel
theorem d_Model_gain_86 : decode M_Model_gain.2.1 86 = .ok (.aload_n 0, 1) := by decide +kernel
theorem d_Model_gain_87 : decode M_Model_gain.2.1 87 = .ok (.iload 6, 2) := by decide +kernel
theorem d_Model_gain_89 : decode M_Model_gain.2.1 89 = .ok (.iconst 4, 1) := by decide +kernel
theorem d_Model_gain_90 : decode M_Model_gain.2.1 90 = .ok (.invokevirtual 305, 3) := by decide +kernel
theorem d_Model_gain_93 : decode M_Model_gain.2.1 93 = .ok (.goto 4, 3) := by decide +kernel
theorem d_Model_gain_96 : decode M_Model_gain.2.1 96 = .ok (.iconst 0, 1) := by decide +kernel
theorem d_Model_gain_97 : decode M_Model_gain.2.1 97 = .ok (.iadd, 1) := by decide +kernel
theorem d_Model_gain_98 : decode M_Model_gain.2.1 98 = .ok (.istore 5, 2) := by decide +kernel
theorem d_Model_gain_100 : decode M_Model_gain.2.1 100 = .ok (.iinc 6 1, 3) := by decide +kernel
theorem d_Model_gain_103 : decode M_Model_gain.2.1 103 = .ok (.goto (-84), 3) := by decide +kernel
theorem d_Model_gain_106 : decode M_Model_gain.2.1 106 = .ok (.iload 5, 2) := by decide +kernel
theorem d_Model_gain_108 : decode M_Model_gain.2.1 108 = .ok (.ireturn, 1) := by decide +kernel
theorem d_Model_rests_0 : decode M_Model_rests.2.1 0 = .ok (.iconst 0, 1) := by decide +kernel
theorem d_Model_rests_1 : decode M_Model_rests.2.1 1 = .ok (.istore 4, 2) := by decide +kernel
theorem d_Model_rests_3 : decode M_Model_rests.2.1 3 = .ok (.iload 4, 2) := by decide +kernel
theorem d_Model_rests_5 : decode M_Model_rests.2.1 5 = .ok (.aload_n 0, 1) := by decide +kernel
theorem d_Model_rests_6 : decode M_Model_rests.2.1 6 = .ok (.getfield 51, 3) := by decide +kernel
theorem d_Model_rests_9 : decode M_Model_rests.2.1 9 = .ok (.iconst 0, 1) := by decide +kernel
theorem d_Model_rests_10 : decode M_Model_rests.2.1 10 = .ok (.iaload, 1) := by decide +kernel
theorem d_Model_rests_11 : decode M_Model_rests.2.1 11 = .ok (.if_icmp .ge 56, 3) := by decide +kernel
theorem d_Model_rests_14 : decode M_Model_rests.2.1 14 = .ok (.iload_n 3, 1) := by decide +kernel
theorem d_Model_rests_15 : decode M_Model_rests.2.1 15 = .ok (.iload 4, 2) := by decide +kernel
theorem d_Model_rests_17 : decode M_Model_rests.2.1 17 = .ok (.invokestatic 308, 3) := by decide +kernel
theorem d_Model_rests_20 : decode M_Model_rests.2.1 20 = .ok (.ifCond .eq 41, 3) := by decide +kernel
theorem d_Model_rests_23 : decode M_Model_rests.2.1 23 = .ok (.aload_n 0, 1) := by decide +kernel
theorem d_Model_rests_24 : decode M_Model_rests.2.1 24 = .ok (.iload 4, 2) := by decide +kernel
theorem d_Model_rests_26 : decode M_Model_rests.2.1 26 = .ok (.iload_n 2, 1) := by decide +kernel
theorem d_Model_rests_27 : decode M_Model_rests.2.1 27 = .ok (.iconst 0, 1) := by decide +kernel
theorem d_Model_rests_28 : decode M_Model_rests.2.1 28 = .ok (.invokevirtual 432, 3) := by decide +kernel
theorem d_Model_rests_31 : decode M_Model_rests.2.1 31 = .ok (.aload_n 0, 1) := by decide +kernel
theorem d_Model_rests_32 : decode M_Model_rests.2.1 32 = .ok (.iload_n 1, 1) := by decide +kernel
theorem d_Model_rests_33 : decode M_Model_rests.2.1 33 = .ok (.iload_n 2, 1) := by decide +kernel
theorem d_Model_rests_34 : decode M_Model_rests.2.1 34 = .ok (.iconst 0, 1) := by decide +kernel
theorem d_Model_rests_35 : decode M_Model_rests.2.1 35 = .ok (.invokevirtual 432, 3) := by decide +kernel
theorem d_Model_rests_38 : decode M_Model_rests.2.1 38 = .ok (.if_icmp .gt 21, 3) := by decide +kernel
theorem d_Model_rests_41 : decode M_Model_rests.2.1 41 = .ok (.aload_n 0, 1) := by decide +kernel
theorem d_Model_rests_42 : decode M_Model_rests.2.1 42 = .ok (.iload_n 1, 1) := by decide +kernel
theorem d_Model_rests_43 : decode M_Model_rests.2.1 43 = .ok (.iload 4, 2) := by decide +kernel
theorem d_Model_rests_45 : decode M_Model_rests.2.1 45 = .ok (.iconst 1, 1) := by decide +kernel
theorem d_Model_rests_46 : decode M_Model_rests.2.1 46 = .ok (.invokevirtual 432, 3) := by decide +kernel
theorem d_Model_rests_49 : decode M_Model_rests.2.1 49 = .ok (.aload_n 0, 1) := by decide +kernel
theorem d_Model_rests_50 : decode M_Model_rests.2.1 50 = .ok (.iload_n 1, 1) := by decide +kernel
theorem d_Model_rests_51 : decode M_Model_rests.2.1 51 = .ok (.iload_n 2, 1) := by decide +kernel
theorem d_Model_rests_52 : decode M_Model_rests.2.1 52 = .ok (.iconst 1, 1) := by decide +kernel
theorem d_Model_rests_53 : decode M_Model_rests.2.1 53 = .ok (.invokevirtual 432, 3) := by decide +kernel
theorem d_Model_rests_56 : decode M_Model_rests.2.1 56 = .ok (.if_icmp .le 5, 3) := by decide +kernel
theorem d_Model_rests_59 : decode M_Model_rests.2.1 59 = .ok (.iconst 0, 1) := by decide +kernel
theorem d_Model_rests_60 : decode M_Model_rests.2.1 60 = .ok (.ireturn, 1) := by decide +kernel
theorem d_Model_rests_61 : decode M_Model_rests.2.1 61 = .ok (.iinc 4 1, 3) := by decide +kernel
theorem d_Model_rests_64 : decode M_Model_rests.2.1 64 = .ok (.goto (-61), 3) := by decide +kernel
theorem d_Model_rests_67 : decode M_Model_rests.2.1 67 = .ok (.iconst 1, 1) := by decide +kernel
theorem d_Model_rests_68 : decode M_Model_rests.2.1 68 = .ok (.ireturn, 1) := by decide +kernel
theorem d_Model_game_0 : decode M_Model_game.2.1 0 = .ok (.aload_n 0, 1) := by decide +kernel
theorem d_Model_game_1 : decode M_Model_game.2.1 1 = .ok (.iconst 0, 1) := by decide +kernel
theorem d_Model_game_2 : decode M_Model_game.2.1 2 = .ok (.putfield 114, 3) := by decide +kernel
theorem d_Model_game_5 : decode M_Model_game.2.1 5 = .ok (.iload_n 1, 1) := by decide +kernel
theorem d_Model_game_6 : decode M_Model_game.2.1 6 = .ok (.ifCond .lt 8, 3) := by decide +kernel
theorem d_Model_game_9 : decode M_Model_game.2.1 9 = .ok (.iload_n 1, 1) := by decide +kernel
theorem d_Model_game_10 : decode M_Model_game.2.1 10 = .ok (.iconst 1, 1) := by decide +kernel
theorem d_Model_game_11 : decode M_Model_game.2.1 11 = .ok (.if_icmp .le 9, 3) := by decide +kernel
theorem d_Model_game_14 : decode M_Model_game.2.1 14 = .ok (.aload_n 0, 1) := by decide +kernel
theorem d_Model_game_15 : decode M_Model_game.2.1 15 = .ok (.iconst 1, 1) := by decide +kernel
theorem d_Model_game_16 : decode M_Model_game.2.1 16 = .ok (.invokevirtual 273, 3) := by decide +kernel
theorem d_Model_game_19 : decode M_Model_game.2.1 19 = .ok (.ireturn, 1) := by decide +kernel
theorem d_Model_game_20 : decode M_Model_game.2.1 20 = .ok (.aload_n 0, 1) := by decide +kernel
theorem d_Model_game_21 : decode M_Model_game.2.1 21 = .ok (.invokevirtual 412, 3) := by decide +kernel
theorem d_Model_game_24 : decode M_Model_game.2.1 24 = .ok (.istore_n 2, 1) := by decide +kernel
theorem d_Model_game_25 : decode M_Model_game.2.1 25 = .ok (.iconst 0, 1) := by decide +kernel
theorem d_Model_game_26 : decode M_Model_game.2.1 26 = .ok (.istore_n 3, 1) := by decide +kernel
theorem d_Model_game_27 : decode M_Model_game.2.1 27 = .ok (.iconst (-1), 1) := by decide +kernel
theorem d_Model_game_28 : decode M_Model_game.2.1 28 = .ok (.istore 4, 2) := by decide +kernel
theorem d_Model_game_30 : decode M_Model_game.2.1 30 = .ok (.iconst 0, 1) := by decide +kernel
theorem d_Model_game_31 : decode M_Model_game.2.1 31 = .ok (.istore 5, 2) := by decide +kernel
theorem d_Model_game_33 : decode M_Model_game.2.1 33 = .ok (.iload 5, 2) := by decide +kernel
theorem d_Model_game_35 : decode M_Model_game.2.1 35 = .ok (.aload_n 0, 1) := by decide +kernel
theorem d_Model_game_36 : decode M_Model_game.2.1 36 = .ok (.getfield 51, 3) := by decide +kernel
theorem d_Model_game_39 : decode M_Model_game.2.1 39 = .ok (.iconst 0, 1) := by decide +kernel
theorem d_Model_game_40 : decode M_Model_game.2.1 40 = .ok (.iaload, 1) := by decide +kernel
theorem d_Model_game_41 : decode M_Model_game.2.1 41 = .ok (.if_icmp .ge 86, 3) := by decide +kernel
theorem d_Model_game_44 : decode M_Model_game.2.1 44 = .ok (.iconst 0, 1) := by decide +kernel
theorem d_Model_game_45 : decode M_Model_game.2.1 45 = .ok (.istore 6, 2) := by decide +kernel
theorem d_Model_game_47 : decode M_Model_game.2.1 47 = .ok (.iload 6, 2) := by decide +kernel
theorem d_Model_game_49 : decode M_Model_game.2.1 49 = .ok (.aload_n 0, 1) := by decide +kernel
theorem d_Model_game_50 : decode M_Model_game.2.1 50 = .ok (.getfield 51, 3) := by decide +kernel
theorem d_Model_game_53 : decode M_Model_game.2.1 53 = .ok (.iconst 0, 1) := by decide +kernel
theorem d_Model_game_54 : decode M_Model_game.2.1 54 = .ok (.iaload, 1) := by decide +kernel
theorem d_Model_game_55 : decode M_Model_game.2.1 55 = .ok (.if_icmp .ge 66, 3) := by decide +kernel
theorem d_Model_game_58 : decode M_Model_game.2.1 58 = .ok (.iload_n 2, 1) := by decide +kernel
theorem d_Model_game_59 : decode M_Model_game.2.1 59 = .ok (.iload 5, 2) := by decide +kernel
theorem d_Model_game_61 : decode M_Model_game.2.1 61 = .ok (.invokestatic 308, 3) := by decide +kernel
theorem d_Model_game_64 : decode M_Model_game.2.1 64 = .ok (.ifCond .eq 51, 3) := by decide +kernel
theorem d_Model_game_67 : decode M_Model_game.2.1 67 = .ok (.iload_n 2, 1) := by decide +kernel
theorem d_Model_game_68 : decode M_Model_game.2.1 68 = .ok (.iload 6, 2) := by decide +kernel
theorem d_Model_game_70 : decode M_Model_game.2.1 70 = .ok (.invokestatic 308, 3) := by decide +kernel
theorem d_Model_game_73 : decode M_Model_game.2.1 73 = .ok (.ifCond .eq 42, 3) := by decide +kernel
theorem d_Model_game_76 : decode M_Model_game.2.1 76 = .ok (.aload_n 0, 1) := by decide +kernel
theorem d_Model_game_77 : decode M_Model_game.2.1 77 = .ok (.iload 5, 2) := by decide +kernel
theorem d_Model_game_79 : decode M_Model_game.2.1 79 = .ok (.iload 6, 2) := by decide +kernel
theorem d_Model_game_81 : decode M_Model_game.2.1 81 = .ok (.iload_n 2, 1) := by decide +kernel
theorem d_Model_game_82 : decode M_Model_game.2.1 82 = .ok (.invokevirtual 435, 3) := by decide +kernel
theorem d_Model_game_85 : decode M_Model_game.2.1 85 = .ok (.ifCond .ne 6, 3) := by decide +kernel
theorem d_Model_game_88 : decode M_Model_game.2.1 88 = .ok (.goto 27, 3) := by decide +kernel
theorem d_Model_game_91 : decode M_Model_game.2.1 91 = .ok (.iinc 3 1, 3) := by decide +kernel
theorem d_Model_game_94 : decode M_Model_game.2.1 94 = .ok (.iload 4, 2) := by decide +kernel
theorem d_Model_game_96 : decode M_Model_game.2.1 96 = .ok (.iconst (-1), 1) := by decide +kernel
theorem d_Model_game_97 : decode M_Model_game.2.1 97 = .ok (.if_icmp .ne 14, 3) := by decide +kernel
theorem d_Model_game_100 : decode M_Model_game.2.1 100 = .ok (.bipush 10, 2) := by decide +kernel
theorem d_Model_game_102 : decode M_Model_game.2.1 102 = .ok (.iload 5, 2) := by decide +kernel
theorem d_Model_game_104 : decode M_Model_game.2.1 104 = .ok (.imul, 1) := by decide +kernel
theorem d_Model_game_105 : decode M_Model_game.2.1 105 = .ok (.iload 6, 2) := by decide +kernel
theorem d_Model_game_107 : decode M_Model_game.2.1 107 = .ok (.iadd, 1) := by decide +kernel
theorem d_Model_game_108 : decode M_Model_game.2.1 108 = .ok (.goto 5, 3) := by decide +kernel
theorem d_Model_game_111 : decode M_Model_game.2.1 111 = .ok (.iload 4, 2) := by decide +kernel
theorem d_Model_game_113 : decode M_Model_game.2.1 113 = .ok (.istore 4, 2) := by decide +kernel
theorem d_Model_game_115 : decode M_Model_game.2.1 115 = .ok (.iinc 6 1, 3) := by decide +kernel
theorem d_Model_game_118 : decode M_Model_game.2.1 118 = .ok (.goto (-71), 3) := by decide +kernel
theorem d_Model_game_121 : decode M_Model_game.2.1 121 = .ok (.iinc 5 1, 3) := by decide +kernel
theorem d_Model_game_124 : decode M_Model_game.2.1 124 = .ok (.goto (-91), 3) := by decide +kernel
theorem d_Model_game_127 : decode M_Model_game.2.1 127 = .ok (.iload_n 1, 1) := by decide +kernel
theorem d_Model_game_128 : decode M_Model_game.2.1 128 = .ok (.ifCond .ne 7, 3) := by decide +kernel
theorem d_Model_game_131 : decode M_Model_game.2.1 131 = .ok (.iload_n 3, 1) := by decide +kernel
theorem d_Model_game_132 : decode M_Model_game.2.1 132 = .ok (.goto 5, 3) := by decide +kernel
theorem d_Model_game_135 : decode M_Model_game.2.1 135 = .ok (.iload 4, 2) := by decide +kernel
theorem d_Model_game_137 : decode M_Model_game.2.1 137 = .ok (.ireturn, 1) := by decide +kernel
theorem d_Model_drawOf_0 : decode M_Model_drawOf.2.1 0 = .ok (.aload_n 0, 1) := by decide +kernel
theorem d_Model_drawOf_1 : decode M_Model_drawOf.2.1 1 = .ok (.aload_n 0, 1) := by decide +kernel
theorem d_Model_drawOf_2 : decode M_Model_drawOf.2.1 2 = .ok (.getfield 438, 3) := by decide +kernel
theorem d_Model_drawOf_5 : decode M_Model_drawOf.2.1 5 = .ok (.ldc_w 441, 3) := by decide +kernel
theorem d_Model_drawOf_8 : decode M_Model_drawOf.2.1 8 = .ok (.imul, 1) := by decide +kernel
theorem d_Model_drawOf_9 : decode M_Model_drawOf.2.1 9 = .ok (.sipush 12345, 3) := by decide +kernel
theorem d_Model_drawOf_12 : decode M_Model_drawOf.2.1 12 = .ok (.iadd, 1) := by decide +kernel
theorem d_Model_drawOf_13 : decode M_Model_drawOf.2.1 13 = .ok (.putfield 438, 3) := by decide +kernel
theorem d_Model_drawOf_16 : decode M_Model_drawOf.2.1 16 = .ok (.aload_n 0, 1) := by decide +kernel
theorem d_Model_drawOf_17 : decode M_Model_drawOf.2.1 17 = .ok (.getfield 438, 3) := by decide +kernel
theorem d_Model_drawOf_20 : decode M_Model_drawOf.2.1 20 = .ok (.bipush 16, 2) := by decide +kernel
theorem d_Model_drawOf_22 : decode M_Model_drawOf.2.1 22 = .ok (.ishr, 1) := by decide +kernel
theorem d_Model_drawOf_23 : decode M_Model_drawOf.2.1 23 = .ok (.sipush 32767, 3) := by decide +kernel
theorem d_Model_drawOf_26 : decode M_Model_drawOf.2.1 26 = .ok (.iand, 1) := by decide +kernel
theorem d_Model_drawOf_27 : decode M_Model_drawOf.2.1 27 = .ok (.iload_n 1, 1) := by decide +kernel
theorem d_Model_drawOf_28 : decode M_Model_drawOf.2.1 28 = .ok (.irem, 1) := by decide +kernel
theorem d_Model_drawOf_29 : decode M_Model_drawOf.2.1 29 = .ok (.ireturn, 1) := by decide +kernel
theorem d_Model_season_0 : decode M_Model_season.2.1 0 = .ok (.aload_n 0, 1) := by decide +kernel
theorem d_Model_season_1 : decode M_Model_season.2.1 1 = .ok (.iconst 0, 1) := by decide +kernel
theorem d_Model_season_2 : decode M_Model_season.2.1 2 = .ok (.putfield 114, 3) := by decide +kernel
theorem d_Model_season_5 : decode M_Model_season.2.1 5 = .ok (.iload_n 3, 1) := by decide +kernel
theorem d_Model_season_6 : decode M_Model_season.2.1 6 = .ok (.i2l, 1) := by decide +kernel
theorem d_Model_season_7 : decode M_Model_season.2.1 7 = .ok (.lconst 0, 1) := by decide +kernel
theorem d_Model_season_8 : decode M_Model_season.2.1 8 = .ok (.ldc2_w 442, 3) := by decide +kernel
theorem d_Model_season_11 : decode M_Model_season.2.1 11 = .ok (.invokestatic 117, 3) := by decide +kernel
theorem d_Model_season_14 : decode M_Model_season.2.1 14 = .ok (.ifCond .ne 9, 3) := by decide +kernel
theorem d_Model_season_17 : decode M_Model_season.2.1 17 = .ok (.aload_n 0, 1) := by decide +kernel
theorem d_Model_season_18 : decode M_Model_season.2.1 18 = .ok (.iconst 1, 1) := by decide +kernel
theorem d_Model_season_19 : decode M_Model_season.2.1 19 = .ok (.invokevirtual 273, 3) := by decide +kernel
theorem d_Model_season_22 : decode M_Model_season.2.1 22 = .ok (.ireturn, 1) := by decide +kernel
theorem d_Model_season_23 : decode M_Model_season.2.1 23 = .ok (.iload_n 2, 1) := by decide +kernel
theorem d_Model_season_24 : decode M_Model_season.2.1 24 = .ok (.i2l, 1) := by decide +kernel
theorem d_Model_season_25 : decode M_Model_season.2.1 25 = .ok (.lconst 0, 1) := by decide +kernel
theorem d_Model_season_26 : decode M_Model_season.2.1 26 = .ok (.ldc2_w 444, 3) := by decide +kernel
theorem d_Model_season_29 : decode M_Model_season.2.1 29 = .ok (.invokestatic 117, 3) := by decide +kernel
theorem d_Model_season_32 : decode M_Model_season.2.1 32 = .ok (.ifCond .ne 9, 3) := by decide +kernel
theorem d_Model_season_35 : decode M_Model_season.2.1 35 = .ok (.aload_n 0, 1) := by decide +kernel
theorem d_Model_season_36 : decode M_Model_season.2.1 36 = .ok (.iconst 2, 1) := by decide +kernel
theorem d_Model_season_37 : decode M_Model_season.2.1 37 = .ok (.invokevirtual 273, 3) := by decide +kernel
theorem d_Model_season_40 : decode M_Model_season.2.1 40 = .ok (.ireturn, 1) := by decide +kernel
theorem d_Model_season_41 : decode M_Model_season.2.1 41 = .ok (.aload_n 0, 1) := by decide +kernel
theorem d_Model_season_42 : decode M_Model_season.2.1 42 = .ok (.aload_n 0, 1) := by decide +kernel
theorem d_Model_season_43 : decode M_Model_season.2.1 43 = .ok (.getfield 90, 3) := by decide +kernel
theorem d_Model_season_46 : decode M_Model_season.2.1 46 = .ok (.iconst 0, 1) := by decide +kernel
theorem d_Model_season_47 : decode M_Model_season.2.1 47 = .ok (.invokevirtual 359, 3) := by decide +kernel
theorem d_Model_season_50 : decode M_Model_season.2.1 50 = .ok (.aload_n 0, 1) := by decide +kernel
theorem d_Model_season_51 : decode M_Model_season.2.1 51 = .ok (.iload_n 1, 1) := by decide +kernel
theorem d_Model_season_52 : decode M_Model_season.2.1 52 = .ok (.putfield 438, 3) := by decide +kernel
theorem d_Model_season_55 : decode M_Model_season.2.1 55 = .ok (.iconst 0, 1) := by decide +kernel
theorem d_Model_season_56 : decode M_Model_season.2.1 56 = .ok (.istore 4, 2) := by decide +kernel
theorem d_Model_season_58 : decode M_Model_season.2.1 58 = .ok (.iconst 0, 1) := by decide +kernel
theorem d_Model_season_59 : decode M_Model_season.2.1 59 = .ok (.istore 5, 2) := by decide +kernel
theorem d_Model_season_61 : decode M_Model_season.2.1 61 = .ok (.iload 5, 2) := by decide +kernel
theorem d_Model_season_63 : decode M_Model_season.2.1 63 = .ok (.iload_n 2, 1) := by decide +kernel
theorem d_Model_season_64 : decode M_Model_season.2.1 64 = .ok (.if_icmp .ge 136, 3) := by decide +kernel
theorem d_Model_season_67 : decode M_Model_season.2.1 67 = .ok (.aload_n 0, 1) := by decide +kernel
theorem d_Model_season_68 : decode M_Model_season.2.1 68 = .ok (.invokevirtual 329, 3) := by decide +kernel
theorem d_Model_season_71 : decode M_Model_season.2.1 71 = .ok (.istore 6, 2) := by decide +kernel
theorem d_Model_season_73 : decode M_Model_season.2.1 73 = .ok (.aload_n 0, 1) := by decide +kernel
theorem d_Model_season_74 : decode M_Model_season.2.1 74 = .ok (.getfield 51, 3) := by decide +kernel
theorem d_Model_season_77 : decode M_Model_season.2.1 77 = .ok (.iconst 0, 1) := by decide +kernel
theorem d_Model_season_78 : decode M_Model_season.2.1 78 = .ok (.iaload, 1) := by decide +kernel
theorem d_Model_season_79 : decode M_Model_season.2.1 79 = .ok (.ifCond .ne 7, 3) := by decide +kernel
theorem d_Model_season_82 : decode M_Model_season.2.1 82 = .ok (.iconst 0, 1) := by decide +kernel
theorem d_Model_season_83 : decode M_Model_season.2.1 83 = .ok (.goto 13, 3) := by decide +kernel
theorem d_Model_season_86 : decode M_Model_season.2.1 86 = .ok (.aload_n 0, 1) := by decide +kernel
theorem d_Model_season_87 : decode M_Model_season.2.1 87 = .ok (.aload_n 0, 1) := by decide +kernel
theorem d_Model_season_88 : decode M_Model_season.2.1 88 = .ok (.getfield 51, 3) := by decide +kernel
theorem d_Model_season_91 : decode M_Model_season.2.1 91 = .ok (.iconst 0, 1) := by decide +kernel
theorem d_Model_season_92 : decode M_Model_season.2.1 92 = .ok (.iaload, 1) := by decide +kernel
theorem d_Model_season_93 : decode M_Model_season.2.1 93 = .ok (.invokevirtual 446, 3) := by decide +kernel
theorem d_Model_season_96 : decode M_Model_season.2.1 96 = .ok (.istore 7, 2) := by decide +kernel
theorem d_Model_season_98 : decode M_Model_season.2.1 98 = .ok (.aload_n 0, 1) := by decide +kernel
theorem d_Model_season_99 : decode M_Model_season.2.1 99 = .ok (.getfield 51, 3) := by decide +kernel
theorem d_Model_season_102 : decode M_Model_season.2.1 102 = .ok (.iconst 0, 1) := by decide +kernel
theorem d_Model_season_103 : decode M_Model_season.2.1 103 = .ok (.iaload, 1) := by decide +kernel
theorem d_Model_season_104 : decode M_Model_season.2.1 104 = .ok (.ifCond .ne 7, 3) := by decide +kernel
theorem d_Model_season_107 : decode M_Model_season.2.1 107 = .ok (.iconst 2, 1) := by decide +kernel
theorem d_Model_season_108 : decode M_Model_season.2.1 108 = .ok (.goto 8, 3) := by decide +kernel
theorem d_Model_season_111 : decode M_Model_season.2.1 111 = .ok (.aload_n 0, 1) := by decide +kernel
theorem d_Model_season_112 : decode M_Model_season.2.1 112 = .ok (.iconst 3, 1) := by decide +kernel
theorem d_Model_season_113 : decode M_Model_season.2.1 113 = .ok (.invokevirtual 446, 3) := by decide +kernel
theorem d_Model_season_116 : decode M_Model_season.2.1 116 = .ok (.istore 8, 2) := by decide +kernel
theorem d_Model_season_118 : decode M_Model_season.2.1 118 = .ok (.iload 8, 2) := by decide +kernel
theorem d_Model_season_120 : decode M_Model_season.2.1 120 = .ok (.iconst 2, 1) := by decide +kernel
theorem d_Model_season_121 : decode M_Model_season.2.1 121 = .ok (.if_icmp .ne 7, 3) := by decide +kernel
theorem d_Model_season_124 : decode M_Model_season.2.1 124 = .ok (.iconst 0, 1) := by decide +kernel
theorem d_Model_season_125 : decode M_Model_season.2.1 125 = .ok (.goto 9, 3) := by decide +kernel
theorem d_Model_season_128 : decode M_Model_season.2.1 128 = .ok (.aload_n 0, 1) := by decide +kernel
theorem d_Model_season_129 : decode M_Model_season.2.1 129 = .ok (.bipush 20, 2) := by decide +kernel
theorem d_Model_season_131 : decode M_Model_season.2.1 131 = .ok (.invokevirtual 446, 3) := by decide +kernel
theorem d_Model_season_134 : decode M_Model_season.2.1 134 = .ok (.istore 9, 2) := by decide +kernel
theorem d_Model_season_136 : decode M_Model_season.2.1 136 = .ok (.iload 8, 2) := by decide +kernel
theorem d_Model_season_138 : decode M_Model_season.2.1 138 = .ok (.ifCond .ne 16, 3) := by decide +kernel
theorem d_Model_season_141 : decode M_Model_season.2.1 141 = .ok (.aload_n 0, 1) := by decide +kernel
theorem d_Model_season_142 : decode M_Model_season.2.1 142 = .ok (.iload 7, 2) := by decide +kernel
theorem d_Model_season_144 : decode M_Model_season.2.1 144 = .ok (.iload 9, 2) := by decide +kernel
theorem d_Model_season_146 : decode M_Model_season.2.1 146 = .ok (.iload 9, 2) := by decide +kernel
theorem d_Model_season_148 : decode M_Model_season.2.1 148 = .ok (.iconst 2, 1) := by decide +kernel
theorem d_Model_season_149 : decode M_Model_season.2.1 149 = .ok (.iadd, 1) := by decide +kernel
theorem d_Model_season_150 : decode M_Model_season.2.1 150 = .ok (.invokevirtual 390, 3) := by decide +kernel
theorem d_Model_season_153 : decode M_Model_season.2.1 153 = .ok (.pop, 1) := by decide +kernel
theorem d_Model_season_154 : decode M_Model_season.2.1 154 = .ok (.iload 8, 2) := by decide +kernel
theorem d_Model_season_156 : decode M_Model_season.2.1 156 = .ok (.iconst 1, 1) := by decide +kernel
theorem d_Model_season_157 : decode M_Model_season.2.1 157 = .ok (.if_icmp .ne 11, 3) := by decide +kernel
theorem d_Model_season_160 : decode M_Model_season.2.1 160 = .ok (.aload_n 0, 1) := by decide +kernel
theorem d_Model_season_161 : decode M_Model_season.2.1 161 = .ok (.iload 7, 2) := by decide +kernel
theorem d_Model_season_163 : decode M_Model_season.2.1 163 = .ok (.iload 9, 2) := by decide +kernel
theorem d_Model_season_165 : decode M_Model_season.2.1 165 = .ok (.invokevirtual 406, 3) := by decide +kernel
theorem d_Model_season_168 : decode M_Model_season.2.1 168 = .ok (.aload_n 0, 1) := by decide +kernel
theorem d_Model_season_169 : decode M_Model_season.2.1 169 = .ok (.invokevirtual 371, 3) := by decide +kernel
theorem d_Model_season_172 : decode M_Model_season.2.1 172 = .ok (.iload 4, 2) := by decide +kernel
theorem d_Model_season_174 : decode M_Model_season.2.1 174 = .ok (.iload 6, 2) := by decide +kernel
theorem d_Model_season_176 : decode M_Model_season.2.1 176 = .ok (.aload_n 0, 1) := by decide +kernel
theorem d_Model_season_177 : decode M_Model_season.2.1 177 = .ok (.invokevirtual 329, 3) := by decide +kernel
theorem d_Model_season_180 : decode M_Model_season.2.1 180 = .ok (.iconst (-1), 1) := by decide +kernel
theorem d_Model_season_181 : decode M_Model_season.2.1 181 = .ok (.ixor, 1) := by decide +kernel
theorem d_Model_season_182 : decode M_Model_season.2.1 182 = .ok (.iand, 1) := by decide +kernel
theorem d_Model_season_183 : decode M_Model_season.2.1 183 = .ok (.ifCond .eq 7, 3) := by decide +kernel
theorem d_Model_season_186 : decode M_Model_season.2.1 186 = .ok (.iconst 1, 1) := by decide +kernel
theorem d_Model_season_187 : decode M_Model_season.2.1 187 = .ok (.goto 4, 3) := by decide +kernel
theorem d_Model_season_190 : decode M_Model_season.2.1 190 = .ok (.iconst 0, 1) := by decide +kernel
theorem d_Model_season_191 : decode M_Model_season.2.1 191 = .ok (.iadd, 1) := by decide +kernel
theorem d_Model_season_192 : decode M_Model_season.2.1 192 = .ok (.istore 4, 2) := by decide +kernel
theorem d_Model_season_194 : decode M_Model_season.2.1 194 = .ok (.iinc 5 1, 3) := by decide +kernel
theorem d_Model_season_197 : decode M_Model_season.2.1 197 = .ok (.goto (-136), 3) := by decide +kernel
theorem d_Model_season_200 : decode M_Model_season.2.1 200 = .ok (.iload_n 3, 1) := by decide +kernel
theorem d_Model_season_201 : decode M_Model_season.2.1 201 = .ok (.ifCond .ne 13, 3) := by decide +kernel
theorem d_Model_season_204 : decode M_Model_season.2.1 204 = .ok (.aload_n 0, 1) := by decide +kernel
theorem d_Model_season_205 : decode M_Model_season.2.1 205 = .ok (.invokevirtual 329, 3) := by decide +kernel
theorem d_Model_season_208 : decode M_Model_season.2.1 208 = .ok (.invokestatic 332, 3) := by decide +kernel
theorem d_Model_season_211 : decode M_Model_season.2.1 211 = .ok (.goto 18, 3) := by decide +kernel
theorem d_Model_season_214 : decode M_Model_season.2.1 214 = .ok (.iload_n 3, 1) := by decide +kernel
theorem d_Model_season_215 : decode M_Model_season.2.1 215 = .ok (.iconst 1, 1) := by decide +kernel
theorem d_Model_season_216 : decode M_Model_season.2.1 216 = .ok (.if_icmp .ne 11, 3) := by decide +kernel
theorem d_Model_season_219 : decode M_Model_season.2.1 219 = .ok (.aload_n 0, 1) := by decide +kernel
theorem d_Model_season_220 : decode M_Model_season.2.1 220 = .ok (.iconst (-1), 1) := by decide +kernel
theorem d_Model_season_221 : decode M_Model_season.2.1 221 = .ok (.invokevirtual 403, 3) := by decide +kernel
theorem d_Model_season_224 : decode M_Model_season.2.1 224 = .ok (.goto 5, 3) := by decide +kernel
theorem d_Model_season_227 : decode M_Model_season.2.1 227 = .ok (.iload 4, 2) := by decide +kernel
theorem d_Model_season_229 : decode M_Model_season.2.1 229 = .ok (.istore 5, 2) := by decide +kernel
theorem d_Model_season_231 : decode M_Model_season.2.1 231 = .ok (.aload_n 0, 1) := by decide +kernel
theorem d_Model_season_232 : decode M_Model_season.2.1 232 = .ok (.aload_n 0, 1) := by decide +kernel
theorem d_Model_season_233 : decode M_Model_season.2.1 233 = .ok (.getfield 90, 3) := by decide +kernel
theorem d_Model_season_236 : decode M_Model_season.2.1 236 = .ok (.iconst 0, 1) := by decide +kernel
theorem d_Model_season_237 : decode M_Model_season.2.1 237 = .ok (.invokevirtual 393, 3) := by decide +kernel
theorem d_Model_season_240 : decode M_Model_season.2.1 240 = .ok (.iload 5, 2) := by decide +kernel
theorem d_Model_season_242 : decode M_Model_season.2.1 242 = .ok (.ireturn, 1) := by decide +kernel
theorem d_Model_be_0 : decode M_Model_be.2.1 0 = .ok (.iconst 0, 1) := by decide +kernel
theorem d_Model_be_1 : decode M_Model_be.2.1 1 = .ok (.istore_n 2, 1) := by decide +kernel
theorem d_Model_be_2 : decode M_Model_be.2.1 2 = .ok (.iload_n 2, 1) := by decide +kernel
theorem d_Model_be_3 : decode M_Model_be.2.1 3 = .ok (.aload_n 0, 1) := by decide +kernel
theorem d_Model_be_4 : decode M_Model_be.2.1 4 = .ok (.arraylength, 1) := by decide +kernel
theorem d_Model_be_5 : decode M_Model_be.2.1 5 = .ok (.if_icmp .ge 15, 3) := by decide +kernel
theorem d_Model_be_8 : decode M_Model_be.2.1 8 = .ok (.aload_n 0, 1) := by decide +kernel
theorem d_Model_be_9 : decode M_Model_be.2.1 9 = .ok (.iload_n 2, 1) := by decide +kernel
theorem d_Model_be_10 : decode M_Model_be.2.1 10 = .ok (.aload_n 1, 1) := by decide +kernel
theorem d_Model_be_11 : decode M_Model_be.2.1 11 = .ok (.iload_n 2, 1) := by decide +kernel
theorem d_Model_be_12 : decode M_Model_be.2.1 12 = .ok (.iaload, 1) := by decide +kernel
theorem d_Model_be_13 : decode M_Model_be.2.1 13 = .ok (.iastore, 1) := by decide +kernel
theorem d_Model_be_14 : decode M_Model_be.2.1 14 = .ok (.iinc 2 1, 3) := by decide +kernel
theorem d_Model_be_17 : decode M_Model_be.2.1 17 = .ok (.goto (-15), 3) := by decide +kernel
theorem d_Model_be_20 : decode M_Model_be.2.1 20 = .ok (.return_, 1) := by decide +kernel
theorem d_Model_image_0 : decode M_Model_image.2.1 0 = .ok (.aload_n 0, 1) := by decide +kernel
theorem d_Model_image_1 : decode M_Model_image.2.1 1 = .ok (.iconst 0, 1) := by decide +kernel
theorem d_Model_image_2 : decode M_Model_image.2.1 2 = .ok (.putfield 114, 3) := by decide +kernel
theorem d_Model_image_5 : decode M_Model_image.2.1 5 = .ok (.aload_n 0, 1) := by decide +kernel
theorem d_Model_image_6 : decode M_Model_image.2.1 6 = .ok (.iconst 1, 1) := by decide +kernel
theorem d_Model_image_7 : decode M_Model_image.2.1 7 = .ok (.putfield 301, 3) := by decide +kernel
theorem d_Model_image_10 : decode M_Model_image.2.1 10 = .ok (.aload_n 0, 1) := by decide +kernel
theorem d_Model_image_11 : decode M_Model_image.2.1 11 = .ok (.aload_n 0, 1) := by decide +kernel
theorem d_Model_image_12 : decode M_Model_image.2.1 12 = .ok (.getfield 295, 3) := by decide +kernel
theorem d_Model_image_15 : decode M_Model_image.2.1 15 = .ok (.putfield 449, 3) := by decide +kernel
theorem d_Model_image_18 : decode M_Model_image.2.1 18 = .ok (.aload_n 0, 1) := by decide +kernel
theorem d_Model_image_19 : decode M_Model_image.2.1 19 = .ok (.aload_n 0, 1) := by decide +kernel
theorem d_Model_image_20 : decode M_Model_image.2.1 20 = .ok (.getfield 298, 3) := by decide +kernel
theorem d_Model_image_23 : decode M_Model_image.2.1 23 = .ok (.putfield 452, 3) := by decide +kernel
theorem d_Model_image_26 : decode M_Model_image.2.1 26 = .ok (.aload_n 0, 1) := by decide +kernel
theorem d_Model_image_27 : decode M_Model_image.2.1 27 = .ok (.aload_n 0, 1) := by decide +kernel
theorem d_Model_image_28 : decode M_Model_image.2.1 28 = .ok (.getfield 99, 3) := by decide +kernel
theorem d_Model_image_31 : decode M_Model_image.2.1 31 = .ok (.iconst 0, 1) := by decide +kernel
theorem d_Model_image_32 : decode M_Model_image.2.1 32 = .ok (.invokevirtual 359, 3) := by decide +kernel
theorem d_Model_image_35 : decode M_Model_image.2.1 35 = .ok (.aload_n 0, 1) := by decide +kernel
theorem d_Model_image_36 : decode M_Model_image.2.1 36 = .ok (.getfield 102, 3) := by decide +kernel
theorem d_Model_image_39 : decode M_Model_image.2.1 39 = .ok (.aload_n 0, 1) := by decide +kernel
theorem d_Model_image_40 : decode M_Model_image.2.1 40 = .ok (.getfield 81, 3) := by decide +kernel
theorem d_Model_image_43 : decode M_Model_image.2.1 43 = .ok (.invokestatic 455, 3) := by decide +kernel
theorem d_Model_image_46 : decode M_Model_image.2.1 46 = .ok (.aload_n 0, 1) := by decide +kernel
theorem d_Model_image_47 : decode M_Model_image.2.1 47 = .ok (.getfield 105, 3) := by decide +kernel
theorem d_Model_image_50 : decode M_Model_image.2.1 50 = .ok (.aload_n 0, 1) := by decide +kernel
theorem d_Model_image_51 : decode M_Model_image.2.1 51 = .ok (.getfield 93, 3) := by decide +kernel
theorem d_Model_image_54 : decode M_Model_image.2.1 54 = .ok (.invokestatic 455, 3) := by decide +kernel
theorem d_Model_image_57 : decode M_Model_image.2.1 57 = .ok (.aload_n 0, 1) := by decide +kernel
theorem d_Model_image_58 : decode M_Model_image.2.1 58 = .ok (.getfield 108, 3) := by decide +kernel
theorem d_Model_image_61 : decode M_Model_image.2.1 61 = .ok (.aload_n 0, 1) := by decide +kernel
theorem d_Model_image_62 : decode M_Model_image.2.1 62 = .ok (.getfield 96, 3) := by decide +kernel
theorem d_Model_image_65 : decode M_Model_image.2.1 65 = .ok (.invokestatic 455, 3) := by decide +kernel
theorem d_Model_image_68 : decode M_Model_image.2.1 68 = .ok (.aload_n 0, 1) := by decide +kernel
theorem d_Model_image_69 : decode M_Model_image.2.1 69 = .ok (.getfield 111, 3) := by decide +kernel
theorem d_Model_image_72 : decode M_Model_image.2.1 72 = .ok (.aload_n 0, 1) := by decide +kernel
theorem d_Model_image_73 : decode M_Model_image.2.1 73 = .ok (.getfield 68, 3) := by decide +kernel
theorem d_Model_image_76 : decode M_Model_image.2.1 76 = .ok (.invokestatic 455, 3) := by decide +kernel
theorem d_Model_image_79 : decode M_Model_image.2.1 79 = .ok (.return_, 1) := by decide +kernel
theorem d_Model_restore_0 : decode M_Model_restore.2.1 0 = .ok (.aload_n 0, 1) := by decide +kernel
theorem d_Model_restore_1 : decode M_Model_restore.2.1 1 = .ok (.iconst 0, 1) := by decide +kernel
theorem d_Model_restore_2 : decode M_Model_restore.2.1 2 = .ok (.putfield 114, 3) := by decide +kernel
theorem d_Model_restore_5 : decode M_Model_restore.2.1 5 = .ok (.aload_n 0, 1) := by decide +kernel
theorem d_Model_restore_6 : decode M_Model_restore.2.1 6 = .ok (.getfield 301, 3) := by decide +kernel
theorem d_Model_restore_9 : decode M_Model_restore.2.1 9 = .ok (.ifCond .ne 5, 3) := by decide +kernel
theorem d_Model_restore_12 : decode M_Model_restore.2.1 12 = .ok (.iconst 0, 1) := by decide +kernel
theorem d_Model_restore_13 : decode M_Model_restore.2.1 13 = .ok (.ireturn, 1) := by decide +kernel
theorem d_Model_restore_14 : decode M_Model_restore.2.1 14 = .ok (.aload_n 0, 1) := by decide +kernel
theorem d_Model_restore_15 : decode M_Model_restore.2.1 15 = .ok (.aload_n 0, 1) := by decide +kernel
theorem d_Model_restore_16 : decode M_Model_restore.2.1 16 = .ok (.getfield 449, 3) := by decide +kernel
theorem d_Model_restore_19 : decode M_Model_restore.2.1 19 = .ok (.putfield 295, 3) := by decide +kernel
theorem d_Model_restore_22 : decode M_Model_restore.2.1 22 = .ok (.aload_n 0, 1) := by decide +kernel
theorem d_Model_restore_23 : decode M_Model_restore.2.1 23 = .ok (.aload_n 0, 1) := by decide +kernel
theorem d_Model_restore_24 : decode M_Model_restore.2.1 24 = .ok (.getfield 452, 3) := by decide +kernel
theorem d_Model_restore_27 : decode M_Model_restore.2.1 27 = .ok (.putfield 298, 3) := by decide +kernel
theorem d_Model_restore_30 : decode M_Model_restore.2.1 30 = .ok (.aload_n 0, 1) := by decide +kernel
theorem d_Model_restore_31 : decode M_Model_restore.2.1 31 = .ok (.aload_n 0, 1) := by decide +kernel
theorem d_Model_restore_32 : decode M_Model_restore.2.1 32 = .ok (.getfield 99, 3) := by decide +kernel
theorem d_Model_restore_35 : decode M_Model_restore.2.1 35 = .ok (.iconst 0, 1) := by decide +kernel
theorem d_Model_restore_36 : decode M_Model_restore.2.1 36 = .ok (.invokevirtual 393, 3) := by decide +kernel
theorem d_Model_restore_39 : decode M_Model_restore.2.1 39 = .ok (.aload_n 0, 1) := by decide +kernel
theorem d_Model_restore_40 : decode M_Model_restore.2.1 40 = .ok (.getfield 81, 3) := by decide +kernel
theorem d_Model_restore_43 : decode M_Model_restore.2.1 43 = .ok (.aload_n 0, 1) := by decide +kernel
theorem d_Model_restore_44 : decode M_Model_restore.2.1 44 = .ok (.getfield 102, 3) := by decide +kernel
theorem d_Model_restore_47 : decode M_Model_restore.2.1 47 = .ok (.invokestatic 455, 3) := by decide +kernel
theorem d_Model_restore_50 : decode M_Model_restore.2.1 50 = .ok (.aload_n 0, 1) := by decide +kernel
theorem d_Model_restore_51 : decode M_Model_restore.2.1 51 = .ok (.getfield 93, 3) := by decide +kernel
theorem d_Model_restore_54 : decode M_Model_restore.2.1 54 = .ok (.aload_n 0, 1) := by decide +kernel
theorem d_Model_restore_55 : decode M_Model_restore.2.1 55 = .ok (.getfield 105, 3) := by decide +kernel
theorem d_Model_restore_58 : decode M_Model_restore.2.1 58 = .ok (.invokestatic 455, 3) := by decide +kernel
theorem d_Model_restore_61 : decode M_Model_restore.2.1 61 = .ok (.aload_n 0, 1) := by decide +kernel
theorem d_Model_restore_62 : decode M_Model_restore.2.1 62 = .ok (.getfield 96, 3) := by decide +kernel
theorem d_Model_restore_65 : decode M_Model_restore.2.1 65 = .ok (.aload_n 0, 1) := by decide +kernel
theorem d_Model_restore_66 : decode M_Model_restore.2.1 66 = .ok (.getfield 108, 3) := by decide +kernel
theorem d_Model_restore_69 : decode M_Model_restore.2.1 69 = .ok (.invokestatic 455, 3) := by decide +kernel
theorem d_Model_restore_72 : decode M_Model_restore.2.1 72 = .ok (.aload_n 0, 1) := by decide +kernel
theorem d_Model_restore_73 : decode M_Model_restore.2.1 73 = .ok (.getfield 68, 3) := by decide +kernel
theorem d_Model_restore_76 : decode M_Model_restore.2.1 76 = .ok (.aload_n 0, 1) := by decide +kernel
theorem d_Model_restore_77 : decode M_Model_restore.2.1 77 = .ok (.getfield 111, 3) := by decide +kernel
theorem d_Model_restore_80 : decode M_Model_restore.2.1 80 = .ok (.invokestatic 455, 3) := by decide +kernel
theorem d_Model_restore_83 : decode M_Model_restore.2.1 83 = .ok (.iconst 1, 1) := by decide +kernel
theorem d_Model_restore_84 : decode M_Model_restore.2.1 84 = .ok (.ireturn, 1) := by decide +kernel

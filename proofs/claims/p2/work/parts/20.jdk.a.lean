/-! decode rows of 20.jdk (by program) -/
theorem d_JInteger_bitCount_0 : decode M_JInteger_bitCount.2.1 0 = .ok (.iload_n 0, 1) := by decide +kernel
theorem d_JInteger_bitCount_1 : decode M_JInteger_bitCount.2.1 1 = .ok (.iload_n 0, 1) := by decide +kernel
theorem d_JInteger_bitCount_2 : decode M_JInteger_bitCount.2.1 2 = .ok (.iconst 1, 1) := by decide +kernel
theorem d_JInteger_bitCount_3 : decode M_JInteger_bitCount.2.1 3 = .ok (.iushr, 1) := by decide +kernel
theorem d_JInteger_bitCount_4 : decode M_JInteger_bitCount.2.1 4 = .ok (.ldc_w 265, 3) := by decide +kernel
theorem d_JInteger_bitCount_7 : decode M_JInteger_bitCount.2.1 7 = .ok (.iand, 1) := by decide +kernel
theorem d_JInteger_bitCount_8 : decode M_JInteger_bitCount.2.1 8 = .ok (.isub, 1) := by decide +kernel
theorem d_JInteger_bitCount_9 : decode M_JInteger_bitCount.2.1 9 = .ok (.istore_n 0, 1) := by decide +kernel
theorem d_JInteger_bitCount_10 : decode M_JInteger_bitCount.2.1 10 = .ok (.iload_n 0, 1) := by decide +kernel
theorem d_JInteger_bitCount_11 : decode M_JInteger_bitCount.2.1 11 = .ok (.ldc_w 266, 3) := by decide +kernel
theorem d_JInteger_bitCount_14 : decode M_JInteger_bitCount.2.1 14 = .ok (.iand, 1) := by decide +kernel
theorem d_JInteger_bitCount_15 : decode M_JInteger_bitCount.2.1 15 = .ok (.iload_n 0, 1) := by decide +kernel
theorem d_JInteger_bitCount_16 : decode M_JInteger_bitCount.2.1 16 = .ok (.iconst 2, 1) := by decide +kernel
theorem d_JInteger_bitCount_17 : decode M_JInteger_bitCount.2.1 17 = .ok (.iushr, 1) := by decide +kernel
theorem d_JInteger_bitCount_18 : decode M_JInteger_bitCount.2.1 18 = .ok (.ldc_w 266, 3) := by decide +kernel
theorem d_JInteger_bitCount_21 : decode M_JInteger_bitCount.2.1 21 = .ok (.iand, 1) := by decide +kernel
theorem d_JInteger_bitCount_22 : decode M_JInteger_bitCount.2.1 22 = .ok (.iadd, 1) := by decide +kernel
theorem d_JInteger_bitCount_23 : decode M_JInteger_bitCount.2.1 23 = .ok (.istore_n 0, 1) := by decide +kernel
theorem d_JInteger_bitCount_24 : decode M_JInteger_bitCount.2.1 24 = .ok (.iload_n 0, 1) := by decide +kernel
theorem d_JInteger_bitCount_25 : decode M_JInteger_bitCount.2.1 25 = .ok (.iload_n 0, 1) := by decide +kernel
theorem d_JInteger_bitCount_26 : decode M_JInteger_bitCount.2.1 26 = .ok (.iconst 4, 1) := by decide +kernel
theorem d_JInteger_bitCount_27 : decode M_JInteger_bitCount.2.1 27 = .ok (.iushr, 1) := by decide +kernel
theorem d_JInteger_bitCount_28 : decode M_JInteger_bitCount.2.1 28 = .ok (.iadd, 1) := by decide +kernel
theorem d_JInteger_bitCount_29 : decode M_JInteger_bitCount.2.1 29 = .ok (.ldc_w 267, 3) := by decide +kernel
theorem d_JInteger_bitCount_32 : decode M_JInteger_bitCount.2.1 32 = .ok (.iand, 1) := by decide +kernel
theorem d_JInteger_bitCount_33 : decode M_JInteger_bitCount.2.1 33 = .ok (.istore_n 0, 1) := by decide +kernel
theorem d_JInteger_bitCount_34 : decode M_JInteger_bitCount.2.1 34 = .ok (.iload_n 0, 1) := by decide +kernel
theorem d_JInteger_bitCount_35 : decode M_JInteger_bitCount.2.1 35 = .ok (.iload_n 0, 1) := by decide +kernel
theorem d_JInteger_bitCount_36 : decode M_JInteger_bitCount.2.1 36 = .ok (.bipush 8, 2) := by decide +kernel
theorem d_JInteger_bitCount_38 : decode M_JInteger_bitCount.2.1 38 = .ok (.iushr, 1) := by decide +kernel
theorem d_JInteger_bitCount_39 : decode M_JInteger_bitCount.2.1 39 = .ok (.iadd, 1) := by decide +kernel
theorem d_JInteger_bitCount_40 : decode M_JInteger_bitCount.2.1 40 = .ok (.istore_n 0, 1) := by decide +kernel
theorem d_JInteger_bitCount_41 : decode M_JInteger_bitCount.2.1 41 = .ok (.iload_n 0, 1) := by decide +kernel
theorem d_JInteger_bitCount_42 : decode M_JInteger_bitCount.2.1 42 = .ok (.iload_n 0, 1) := by decide +kernel
theorem d_JInteger_bitCount_43 : decode M_JInteger_bitCount.2.1 43 = .ok (.bipush 16, 2) := by decide +kernel
theorem d_JInteger_bitCount_45 : decode M_JInteger_bitCount.2.1 45 = .ok (.iushr, 1) := by decide +kernel
theorem d_JInteger_bitCount_46 : decode M_JInteger_bitCount.2.1 46 = .ok (.iadd, 1) := by decide +kernel
theorem d_JInteger_bitCount_47 : decode M_JInteger_bitCount.2.1 47 = .ok (.istore_n 0, 1) := by decide +kernel
theorem d_JInteger_bitCount_48 : decode M_JInteger_bitCount.2.1 48 = .ok (.iload_n 0, 1) := by decide +kernel
theorem d_JInteger_bitCount_49 : decode M_JInteger_bitCount.2.1 49 = .ok (.bipush 63, 2) := by decide +kernel
theorem d_JInteger_bitCount_51 : decode M_JInteger_bitCount.2.1 51 = .ok (.iand, 1) := by decide +kernel
theorem d_JInteger_bitCount_52 : decode M_JInteger_bitCount.2.1 52 = .ok (.ireturn, 1) := by decide +kernel
theorem d_JMath_min_0 : decode M_JMath_min.2.1 0 = .ok (.iload_n 0, 1) := by decide +kernel
theorem d_JMath_min_1 : decode M_JMath_min.2.1 1 = .ok (.iload_n 1, 1) := by decide +kernel
theorem d_JMath_min_2 : decode M_JMath_min.2.1 2 = .ok (.if_icmp .gt 7, 3) := by decide +kernel
theorem d_JMath_min_5 : decode M_JMath_min.2.1 5 = .ok (.iload_n 0, 1) := by decide +kernel
theorem d_JMath_min_6 : decode M_JMath_min.2.1 6 = .ok (.goto 4, 3) := by decide +kernel
theorem d_JMath_min_9 : decode M_JMath_min.2.1 9 = .ok (.iload_n 1, 1) := by decide +kernel
theorem d_JMath_min_10 : decode M_JMath_min.2.1 10 = .ok (.ireturn, 1) := by decide +kernel
theorem d_JArrays_fill_0 : decode M_JArrays_fill.2.1 0 = .ok (.iconst 0, 1) := by decide +kernel
theorem d_JArrays_fill_1 : decode M_JArrays_fill.2.1 1 = .ok (.istore_n 2, 1) := by decide +kernel
theorem d_JArrays_fill_2 : decode M_JArrays_fill.2.1 2 = .ok (.aload_n 0, 1) := by decide +kernel
theorem d_JArrays_fill_3 : decode M_JArrays_fill.2.1 3 = .ok (.arraylength, 1) := by decide +kernel
theorem d_JArrays_fill_4 : decode M_JArrays_fill.2.1 4 = .ok (.istore_n 3, 1) := by decide +kernel
theorem d_JArrays_fill_5 : decode M_JArrays_fill.2.1 5 = .ok (.iload_n 2, 1) := by decide +kernel
theorem d_JArrays_fill_6 : decode M_JArrays_fill.2.1 6 = .ok (.iload_n 3, 1) := by decide +kernel
theorem d_JArrays_fill_7 : decode M_JArrays_fill.2.1 7 = .ok (.if_icmp .ge 13, 3) := by decide +kernel
theorem d_JArrays_fill_10 : decode M_JArrays_fill.2.1 10 = .ok (.aload_n 0, 1) := by decide +kernel
theorem d_JArrays_fill_11 : decode M_JArrays_fill.2.1 11 = .ok (.iload_n 2, 1) := by decide +kernel
theorem d_JArrays_fill_12 : decode M_JArrays_fill.2.1 12 = .ok (.iload_n 1, 1) := by decide +kernel
theorem d_JArrays_fill_13 : decode M_JArrays_fill.2.1 13 = .ok (.iastore, 1) := by decide +kernel
theorem d_JArrays_fill_14 : decode M_JArrays_fill.2.1 14 = .ok (.iinc 2 1, 3) := by decide +kernel
theorem d_JArrays_fill_17 : decode M_JArrays_fill.2.1 17 = .ok (.goto (-12), 3) := by decide +kernel
theorem d_JArrays_fill_20 : decode M_JArrays_fill.2.1 20 = .ok (.return_, 1) := by decide +kernel

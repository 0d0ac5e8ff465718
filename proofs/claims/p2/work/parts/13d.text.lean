/-! decode rows of texts (by program) -/
theorem d_JString_length_0 : decode M_JString_length.2.1 0 = .ok (.aload_n 0, 1) := by decide +kernel
theorem d_JString_length_1 : decode M_JString_length.2.1 1 = .ok (.getfield 9, 3) := by decide +kernel
theorem d_JString_length_4 : decode M_JString_length.2.1 4 = .ok (.arraylength, 1) := by decide +kernel
theorem d_JString_length_5 : decode M_JString_length.2.1 5 = .ok (.aload_n 0, 1) := by decide +kernel
theorem d_JString_length_6 : decode M_JString_length.2.1 6 = .ok (.invokevirtual 335, 3) := by decide +kernel
theorem d_JString_length_9 : decode M_JString_length.2.1 9 = .ok (.ishr, 1) := by decide +kernel
theorem d_JString_length_10 : decode M_JString_length.2.1 10 = .ok (.ireturn, 1) := by decide +kernel
theorem d_JString_charAt_0 : decode M_JString_charAt.2.1 0 = .ok (.aload_n 0, 1) := by decide +kernel
theorem d_JString_charAt_1 : decode M_JString_charAt.2.1 1 = .ok (.invokevirtual 492, 3) := by decide +kernel
theorem d_JString_charAt_4 : decode M_JString_charAt.2.1 4 = .ok (.ifCond .eq 12, 3) := by decide +kernel
theorem d_JString_charAt_7 : decode M_JString_charAt.2.1 7 = .ok (.aload_n 0, 1) := by decide +kernel
theorem d_JString_charAt_8 : decode M_JString_charAt.2.1 8 = .ok (.getfield 9, 3) := by decide +kernel
theorem d_JString_charAt_11 : decode M_JString_charAt.2.1 11 = .ok (.iload_n 1, 1) := by decide +kernel
theorem d_JString_charAt_12 : decode M_JString_charAt.2.1 12 = .ok (.invokestatic 495, 3) := by decide +kernel
theorem d_JString_charAt_15 : decode M_JString_charAt.2.1 15 = .ok (.ireturn, 1) := by decide +kernel
theorem d_JString_charAt_16 : decode M_JString_charAt.2.1 16 = .ok (.aload_n 0, 1) := by decide +kernel
theorem d_JString_charAt_17 : decode M_JString_charAt.2.1 17 = .ok (.getfield 9, 3) := by decide +kernel
theorem d_JString_charAt_20 : decode M_JString_charAt.2.1 20 = .ok (.iload_n 1, 1) := by decide +kernel
theorem d_JString_charAt_21 : decode M_JString_charAt.2.1 21 = .ok (.invokestatic 498, 3) := by decide +kernel
theorem d_JString_charAt_24 : decode M_JString_charAt.2.1 24 = .ok (.ireturn, 1) := by decide +kernel
theorem d_JString_coder_0 : decode M_JString_coder.2.1 0 = .ok (.getstatic 38, 3) := by decide +kernel
theorem d_JString_coder_3 : decode M_JString_coder.2.1 3 = .ok (.ifCond .eq 10, 3) := by decide +kernel
theorem d_JString_coder_6 : decode M_JString_coder.2.1 6 = .ok (.aload_n 0, 1) := by decide +kernel
theorem d_JString_coder_7 : decode M_JString_coder.2.1 7 = .ok (.getfield 15, 3) := by decide +kernel
theorem d_JString_coder_10 : decode M_JString_coder.2.1 10 = .ok (.goto 4, 3) := by decide +kernel
theorem d_JString_coder_13 : decode M_JString_coder.2.1 13 = .ok (.iconst 1, 1) := by decide +kernel
theorem d_JString_coder_14 : decode M_JString_coder.2.1 14 = .ok (.ireturn, 1) := by decide +kernel
theorem d_JString_isLatin1_0 : decode M_JString_isLatin1.2.1 0 = .ok (.getstatic 38, 3) := by decide +kernel
theorem d_JString_isLatin1_3 : decode M_JString_isLatin1.2.1 3 = .ok (.ifCond .eq 14, 3) := by decide +kernel
theorem d_JString_isLatin1_6 : decode M_JString_isLatin1.2.1 6 = .ok (.aload_n 0, 1) := by decide +kernel
theorem d_JString_isLatin1_7 : decode M_JString_isLatin1.2.1 7 = .ok (.getfield 15, 3) := by decide +kernel
theorem d_JString_isLatin1_10 : decode M_JString_isLatin1.2.1 10 = .ok (.ifCond .ne 7, 3) := by decide +kernel
theorem d_JString_isLatin1_13 : decode M_JString_isLatin1.2.1 13 = .ok (.iconst 1, 1) := by decide +kernel
theorem d_JString_isLatin1_14 : decode M_JString_isLatin1.2.1 14 = .ok (.goto 4, 3) := by decide +kernel
theorem d_JString_isLatin1_17 : decode M_JString_isLatin1.2.1 17 = .ok (.iconst 0, 1) := by decide +kernel
theorem d_JString_isLatin1_18 : decode M_JString_isLatin1.2.1 18 = .ok (.ireturn, 1) := by decide +kernel
theorem d_JString_checkIndex_0 : decode M_JString_checkIndex.2.1 0 = .ok (.iload_n 0, 1) := by decide +kernel
theorem d_JString_checkIndex_1 : decode M_JString_checkIndex.2.1 1 = .ok (.iload_n 1, 1) := by decide +kernel
theorem d_JString_checkIndex_2 : decode M_JString_checkIndex.2.1 2 = .ok (.getstatic 1053, 3) := by decide +kernel
theorem d_JString_checkIndex_5 : decode M_JString_checkIndex.2.1 5 = .ok (.invokestatic 1059, 3) := by decide +kernel
theorem d_JString_checkIndex_8 : decode M_JString_checkIndex.2.1 8 = .ok (.pop, 1) := by decide +kernel
theorem d_JString_checkIndex_9 : decode M_JString_checkIndex.2.1 9 = .ok (.return_, 1) := by decide +kernel
theorem d_JLatin_charAt_0 : decode M_JLatin_charAt.2.1 0 = .ok (.iload_n 1, 1) := by decide +kernel
theorem d_JLatin_charAt_1 : decode M_JLatin_charAt.2.1 1 = .ok (.aload_n 0, 1) := by decide +kernel
theorem d_JLatin_charAt_2 : decode M_JLatin_charAt.2.1 2 = .ok (.arraylength, 1) := by decide +kernel
theorem d_JLatin_charAt_3 : decode M_JLatin_charAt.2.1 3 = .ok (.invokestatic 9, 3) := by decide +kernel
theorem d_JLatin_charAt_6 : decode M_JLatin_charAt.2.1 6 = .ok (.aload_n 0, 1) := by decide +kernel
theorem d_JLatin_charAt_7 : decode M_JLatin_charAt.2.1 7 = .ok (.iload_n 1, 1) := by decide +kernel
theorem d_JLatin_charAt_8 : decode M_JLatin_charAt.2.1 8 = .ok (.baload, 1) := by decide +kernel
theorem d_JLatin_charAt_9 : decode M_JLatin_charAt.2.1 9 = .ok (.sipush 255, 3) := by decide +kernel
theorem d_JLatin_charAt_12 : decode M_JLatin_charAt.2.1 12 = .ok (.iand, 1) := by decide +kernel
theorem d_JLatin_charAt_13 : decode M_JLatin_charAt.2.1 13 = .ok (.i2c, 1) := by decide +kernel
theorem d_JLatin_charAt_14 : decode M_JLatin_charAt.2.1 14 = .ok (.ireturn, 1) := by decide +kernel
theorem d_jdk_internal_util_Preconditions_checkIndex_0 : decode M_jdk_internal_util_Preconditions_checkIndex.2.1 0 = .ok (.iload_n 0, 1) := by decide +kernel
theorem d_jdk_internal_util_Preconditions_checkIndex_1 : decode M_jdk_internal_util_Preconditions_checkIndex.2.1 1 = .ok (.ifCond .lt 8, 3) := by decide +kernel
theorem d_jdk_internal_util_Preconditions_checkIndex_4 : decode M_jdk_internal_util_Preconditions_checkIndex.2.1 4 = .ok (.iload_n 0, 1) := by decide +kernel
theorem d_jdk_internal_util_Preconditions_checkIndex_5 : decode M_jdk_internal_util_Preconditions_checkIndex.2.1 5 = .ok (.iload_n 1, 1) := by decide +kernel
theorem d_jdk_internal_util_Preconditions_checkIndex_6 : decode M_jdk_internal_util_Preconditions_checkIndex.2.1 6 = .ok (.if_icmp .lt 10, 3) := by decide +kernel
theorem d_jdk_internal_util_Preconditions_checkIndex_9 : decode M_jdk_internal_util_Preconditions_checkIndex.2.1 9 = .ok (.aload_n 2, 1) := by decide +kernel
theorem d_jdk_internal_util_Preconditions_checkIndex_10 : decode M_jdk_internal_util_Preconditions_checkIndex.2.1 10 = .ok (.iload_n 0, 1) := by decide +kernel
theorem d_jdk_internal_util_Preconditions_checkIndex_11 : decode M_jdk_internal_util_Preconditions_checkIndex.2.1 11 = .ok (.iload_n 1, 1) := by decide +kernel
theorem d_jdk_internal_util_Preconditions_checkIndex_12 : decode M_jdk_internal_util_Preconditions_checkIndex.2.1 12 = .ok (.invokestatic 95, 3) := by decide +kernel
theorem d_jdk_internal_util_Preconditions_checkIndex_15 : decode M_jdk_internal_util_Preconditions_checkIndex.2.1 15 = .ok (.athrow, 1) := by decide +kernel
theorem d_jdk_internal_util_Preconditions_checkIndex_16 : decode M_jdk_internal_util_Preconditions_checkIndex.2.1 16 = .ok (.iload_n 0, 1) := by decide +kernel
theorem d_jdk_internal_util_Preconditions_checkIndex_17 : decode M_jdk_internal_util_Preconditions_checkIndex.2.1 17 = .ok (.ireturn, 1) := by decide +kernel

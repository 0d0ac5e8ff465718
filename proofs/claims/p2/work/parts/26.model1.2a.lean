/-! decode rows of 26.model1 (by program) -/
theorem d_Model_archive_0 : decode M_Model_archive.2.1 0 = .ok (.aload_n 0, 1) := by decide +kernel
theorem d_Model_archive_1 : decode M_Model_archive.2.1 1 = .ok (.iconst 0, 1) := by decide +kernel
theorem d_Model_archive_2 : decode M_Model_archive.2.1 2 = .ok (.putfield 114, 3) := by decide +kernel
theorem d_Model_archive_5 : decode M_Model_archive.2.1 5 = .ok (.iload_n 1, 1) := by decide +kernel
theorem d_Model_archive_6 : decode M_Model_archive.2.1 6 = .ok (.ifCond .lt 11, 3) := by decide +kernel
theorem d_Model_archive_9 : decode M_Model_archive.2.1 9 = .ok (.iload_n 1, 1) := by decide +kernel
theorem d_Model_archive_10 : decode M_Model_archive.2.1 10 = .ok (.aload_n 0, 1) := by decide +kernel
theorem d_Model_archive_11 : decode M_Model_archive.2.1 11 = .ok (.getfield 126, 3) := by decide +kernel
theorem d_Model_archive_14 : decode M_Model_archive.2.1 14 = .ok (.if_icmp .le 9, 3) := by decide +kernel
theorem d_Model_archive_17 : decode M_Model_archive.2.1 17 = .ok (.aload_n 0, 1) := by decide +kernel
theorem d_Model_archive_18 : decode M_Model_archive.2.1 18 = .ok (.iconst 1, 1) := by decide +kernel
theorem d_Model_archive_19 : decode M_Model_archive.2.1 19 = .ok (.invokevirtual 273, 3) := by decide +kernel
theorem d_Model_archive_22 : decode M_Model_archive.2.1 22 = .ok (.ireturn, 1) := by decide +kernel
theorem d_Model_archive_23 : decode M_Model_archive.2.1 23 = .ok (.aload_n 0, 1) := by decide +kernel
theorem d_Model_archive_24 : decode M_Model_archive.2.1 24 = .ok (.iconst 0, 1) := by decide +kernel
theorem d_Model_archive_25 : decode M_Model_archive.2.1 25 = .ok (.putfield 126, 3) := by decide +kernel
theorem d_Model_archive_28 : decode M_Model_archive.2.1 28 = .ok (.aload_n 0, 1) := by decide +kernel
theorem d_Model_archive_29 : decode M_Model_archive.2.1 29 = .ok (.iload_n 1, 1) := by decide +kernel
theorem d_Model_archive_30 : decode M_Model_archive.2.1 30 = .ok (.putfield 129, 3) := by decide +kernel
theorem d_Model_archive_33 : decode M_Model_archive.2.1 33 = .ok (.aload_n 0, 1) := by decide +kernel
theorem d_Model_archive_34 : decode M_Model_archive.2.1 34 = .ok (.iconst 0, 1) := by decide +kernel
theorem d_Model_archive_35 : decode M_Model_archive.2.1 35 = .ok (.putfield 132, 3) := by decide +kernel
theorem d_Model_archive_38 : decode M_Model_archive.2.1 38 = .ok (.aload_n 0, 1) := by decide +kernel
theorem d_Model_archive_39 : decode M_Model_archive.2.1 39 = .ok (.iconst 0, 1) := by decide +kernel
theorem d_Model_archive_40 : decode M_Model_archive.2.1 40 = .ok (.putfield 168, 3) := by decide +kernel
theorem d_Model_archive_43 : decode M_Model_archive.2.1 43 = .ok (.aload_n 0, 1) := by decide +kernel
theorem d_Model_archive_44 : decode M_Model_archive.2.1 44 = .ok (.iconst (-1), 1) := by decide +kernel
theorem d_Model_archive_45 : decode M_Model_archive.2.1 45 = .ok (.putfield 74, 3) := by decide +kernel
theorem d_Model_archive_48 : decode M_Model_archive.2.1 48 = .ok (.iconst 0, 1) := by decide +kernel
theorem d_Model_archive_49 : decode M_Model_archive.2.1 49 = .ok (.istore_n 2, 1) := by decide +kernel
theorem d_Model_archive_50 : decode M_Model_archive.2.1 50 = .ok (.iload_n 2, 1) := by decide +kernel
theorem d_Model_archive_51 : decode M_Model_archive.2.1 51 = .ok (.bipush 6, 2) := by decide +kernel
theorem d_Model_archive_53 : decode M_Model_archive.2.1 53 = .ok (.if_icmp .ge 48, 3) := by decide +kernel
theorem d_Model_archive_56 : decode M_Model_archive.2.1 56 = .ok (.aload_n 0, 1) := by decide +kernel
theorem d_Model_archive_57 : decode M_Model_archive.2.1 57 = .ok (.getfield 51, 3) := by decide +kernel
theorem d_Model_archive_60 : decode M_Model_archive.2.1 60 = .ok (.bipush 6, 2) := by decide +kernel
theorem d_Model_archive_62 : decode M_Model_archive.2.1 62 = .ok (.iload_n 2, 1) := by decide +kernel
theorem d_Model_archive_63 : decode M_Model_archive.2.1 63 = .ok (.iadd, 1) := by decide +kernel
theorem d_Model_archive_64 : decode M_Model_archive.2.1 64 = .ok (.iload_n 2, 1) := by decide +kernel
theorem d_Model_archive_65 : decode M_Model_archive.2.1 65 = .ok (.iconst 1, 1) := by decide +kernel
theorem d_Model_archive_66 : decode M_Model_archive.2.1 66 = .ok (.if_icmp .ne 8, 3) := by decide +kernel
theorem d_Model_archive_69 : decode M_Model_archive.2.1 69 = .ok (.bipush 40, 2) := by decide +kernel
theorem d_Model_archive_71 : decode M_Model_archive.2.1 71 = .ok (.goto 23, 3) := by decide +kernel
theorem d_Model_archive_74 : decode M_Model_archive.2.1 74 = .ok (.iload_n 2, 1) := by decide +kernel
theorem d_Model_archive_75 : decode M_Model_archive.2.1 75 = .ok (.iconst 2, 1) := by decide +kernel
theorem d_Model_archive_76 : decode M_Model_archive.2.1 76 = .ok (.if_icmp .ne 8, 3) := by decide +kernel
theorem d_Model_archive_79 : decode M_Model_archive.2.1 79 = .ok (.bipush 60, 2) := by decide +kernel
theorem d_Model_archive_81 : decode M_Model_archive.2.1 81 = .ok (.goto 13, 3) := by decide +kernel
theorem d_Model_archive_84 : decode M_Model_archive.2.1 84 = .ok (.iload_n 2, 1) := by decide +kernel
theorem d_Model_archive_85 : decode M_Model_archive.2.1 85 = .ok (.iconst 3, 1) := by decide +kernel
theorem d_Model_archive_86 : decode M_Model_archive.2.1 86 = .ok (.if_icmp .ne 7, 3) := by decide +kernel
theorem d_Model_archive_89 : decode M_Model_archive.2.1 89 = .ok (.iconst 3, 1) := by decide +kernel
theorem d_Model_archive_90 : decode M_Model_archive.2.1 90 = .ok (.goto 4, 3) := by decide +kernel
theorem d_Model_archive_93 : decode M_Model_archive.2.1 93 = .ok (.iconst 0, 1) := by decide +kernel
theorem d_Model_archive_94 : decode M_Model_archive.2.1 94 = .ok (.iastore, 1) := by decide +kernel
theorem d_Model_archive_95 : decode M_Model_archive.2.1 95 = .ok (.iinc 2 1, 3) := by decide +kernel
theorem d_Model_archive_98 : decode M_Model_archive.2.1 98 = .ok (.goto (-48), 3) := by decide +kernel
theorem d_Model_archive_101 : decode M_Model_archive.2.1 101 = .ok (.aload_n 0, 1) := by decide +kernel
theorem d_Model_archive_102 : decode M_Model_archive.2.1 102 = .ok (.invokevirtual 193, 3) := by decide +kernel
theorem d_Model_archive_105 : decode M_Model_archive.2.1 105 = .ok (.iconst 0, 1) := by decide +kernel
theorem d_Model_archive_106 : decode M_Model_archive.2.1 106 = .ok (.istore_n 2, 1) := by decide +kernel
theorem d_Model_archive_107 : decode M_Model_archive.2.1 107 = .ok (.aload_n 0, 1) := by decide +kernel
theorem d_Model_archive_108 : decode M_Model_archive.2.1 108 = .ok (.getfield 168, 3) := by decide +kernel
theorem d_Model_archive_111 : decode M_Model_archive.2.1 111 = .ok (.ifCond .ne 19, 3) := by decide +kernel
theorem d_Model_archive_114 : decode M_Model_archive.2.1 114 = .ok (.aload_n 0, 1) := by decide +kernel
theorem d_Model_archive_115 : decode M_Model_archive.2.1 115 = .ok (.getfield 142, 3) := by decide +kernel
theorem d_Model_archive_118 : decode M_Model_archive.2.1 118 = .ok (.ifCond .eq 12, 3) := by decide +kernel
theorem d_Model_archive_121 : decode M_Model_archive.2.1 121 = .ok (.aload_n 0, 1) := by decide +kernel
theorem d_Model_archive_122 : decode M_Model_archive.2.1 122 = .ok (.iload_n 2, 1) := by decide +kernel
theorem d_Model_archive_123 : decode M_Model_archive.2.1 123 = .ok (.invokevirtual 276, 3) := by decide +kernel
theorem d_Model_archive_126 : decode M_Model_archive.2.1 126 = .ok (.istore_n 2, 1) := by decide +kernel
theorem d_Model_archive_127 : decode M_Model_archive.2.1 127 = .ok (.goto (-20), 3) := by decide +kernel
theorem d_Model_archive_130 : decode M_Model_archive.2.1 130 = .ok (.aload_n 0, 1) := by decide +kernel
theorem d_Model_archive_131 : decode M_Model_archive.2.1 131 = .ok (.getfield 168, 3) := by decide +kernel
theorem d_Model_archive_134 : decode M_Model_archive.2.1 134 = .ok (.ifCond .eq 26, 3) := by decide +kernel
theorem d_Model_archive_137 : decode M_Model_archive.2.1 137 = .ok (.aload_n 0, 1) := by decide +kernel
theorem d_Model_archive_138 : decode M_Model_archive.2.1 138 = .ok (.aload_n 0, 1) := by decide +kernel
theorem d_Model_archive_139 : decode M_Model_archive.2.1 139 = .ok (.getfield 171, 3) := by decide +kernel
theorem d_Model_archive_142 : decode M_Model_archive.2.1 142 = .ok (.putfield 74, 3) := by decide +kernel
theorem d_Model_archive_145 : decode M_Model_archive.2.1 145 = .ok (.aload_n 0, 1) := by decide +kernel
theorem d_Model_archive_146 : decode M_Model_archive.2.1 146 = .ok (.getfield 68, 3) := by decide +kernel
theorem d_Model_archive_149 : decode M_Model_archive.2.1 149 = .ok (.iconst 0, 1) := by decide +kernel
theorem d_Model_archive_150 : decode M_Model_archive.2.1 150 = .ok (.dup2, 1) := by decide +kernel
theorem d_Model_archive_151 : decode M_Model_archive.2.1 151 = .ok (.iaload, 1) := by decide +kernel
theorem d_Model_archive_152 : decode M_Model_archive.2.1 152 = .ok (.iconst 1, 1) := by decide +kernel
theorem d_Model_archive_153 : decode M_Model_archive.2.1 153 = .ok (.iadd, 1) := by decide +kernel
theorem d_Model_archive_154 : decode M_Model_archive.2.1 154 = .ok (.iastore, 1) := by decide +kernel
theorem d_Model_archive_155 : decode M_Model_archive.2.1 155 = .ok (.aload_n 0, 1) := by decide +kernel
theorem d_Model_archive_156 : decode M_Model_archive.2.1 156 = .ok (.getfield 168, 3) := by decide +kernel
theorem d_Model_archive_159 : decode M_Model_archive.2.1 159 = .ok (.ireturn, 1) := by decide +kernel
theorem d_Model_archive_160 : decode M_Model_archive.2.1 160 = .ok (.aload_n 0, 1) := by decide +kernel
theorem d_Model_archive_161 : decode M_Model_archive.2.1 161 = .ok (.invokevirtual 279, 3) := by decide +kernel
theorem d_Model_archive_164 : decode M_Model_archive.2.1 164 = .ok (.iconst 0, 1) := by decide +kernel
theorem d_Model_archive_165 : decode M_Model_archive.2.1 165 = .ok (.ireturn, 1) := by decide +kernel
theorem d_Model_fault_0 : decode M_Model_fault.2.1 0 = .ok (.aload_n 0, 1) := by decide +kernel
theorem d_Model_fault_1 : decode M_Model_fault.2.1 1 = .ok (.iconst 0, 1) := by decide +kernel
theorem d_Model_fault_2 : decode M_Model_fault.2.1 2 = .ok (.putfield 114, 3) := by decide +kernel
theorem d_Model_fault_5 : decode M_Model_fault.2.1 5 = .ok (.aload_n 0, 1) := by decide +kernel
theorem d_Model_fault_6 : decode M_Model_fault.2.1 6 = .ok (.getfield 74, 3) := by decide +kernel
theorem d_Model_fault_9 : decode M_Model_fault.2.1 9 = .ok (.ireturn, 1) := by decide +kernel
theorem d_Model_pack_0 : decode M_Model_pack.2.1 0 = .ok (.aload_n 1, 1) := by decide +kernel
theorem d_Model_pack_1 : decode M_Model_pack.2.1 1 = .ok (.iload_n 2, 1) := by decide +kernel
theorem d_Model_pack_2 : decode M_Model_pack.2.1 2 = .ok (.aload_n 0, 1) := by decide +kernel
theorem d_Model_pack_3 : decode M_Model_pack.2.1 3 = .ok (.getfield 286, 3) := by decide +kernel
theorem d_Model_pack_6 : decode M_Model_pack.2.1 6 = .ok (.iastore, 1) := by decide +kernel
theorem d_Model_pack_7 : decode M_Model_pack.2.1 7 = .ok (.aload_n 1, 1) := by decide +kernel
theorem d_Model_pack_8 : decode M_Model_pack.2.1 8 = .ok (.iload_n 2, 1) := by decide +kernel
theorem d_Model_pack_9 : decode M_Model_pack.2.1 9 = .ok (.iconst 1, 1) := by decide +kernel
theorem d_Model_pack_10 : decode M_Model_pack.2.1 10 = .ok (.iadd, 1) := by decide +kernel
theorem d_Model_pack_11 : decode M_Model_pack.2.1 11 = .ok (.aload_n 0, 1) := by decide +kernel
theorem d_Model_pack_12 : decode M_Model_pack.2.1 12 = .ok (.getfield 289, 3) := by decide +kernel
theorem d_Model_pack_15 : decode M_Model_pack.2.1 15 = .ok (.iastore, 1) := by decide +kernel
theorem d_Model_pack_16 : decode M_Model_pack.2.1 16 = .ok (.aload_n 1, 1) := by decide +kernel
theorem d_Model_pack_17 : decode M_Model_pack.2.1 17 = .ok (.iload_n 2, 1) := by decide +kernel
theorem d_Model_pack_18 : decode M_Model_pack.2.1 18 = .ok (.iconst 2, 1) := by decide +kernel
theorem d_Model_pack_19 : decode M_Model_pack.2.1 19 = .ok (.iadd, 1) := by decide +kernel
theorem d_Model_pack_20 : decode M_Model_pack.2.1 20 = .ok (.aload_n 0, 1) := by decide +kernel
theorem d_Model_pack_21 : decode M_Model_pack.2.1 21 = .ok (.getfield 121, 3) := by decide +kernel
theorem d_Model_pack_24 : decode M_Model_pack.2.1 24 = .ok (.iastore, 1) := by decide +kernel
theorem d_Model_pack_25 : decode M_Model_pack.2.1 25 = .ok (.iconst 0, 1) := by decide +kernel
theorem d_Model_pack_26 : decode M_Model_pack.2.1 26 = .ok (.istore_n 3, 1) := by decide +kernel
theorem d_Model_pack_27 : decode M_Model_pack.2.1 27 = .ok (.iload_n 3, 1) := by decide +kernel
theorem d_Model_pack_28 : decode M_Model_pack.2.1 28 = .ok (.bipush 6, 2) := by decide +kernel
theorem d_Model_pack_30 : decode M_Model_pack.2.1 30 = .ok (.if_icmp .ge 38, 3) := by decide +kernel
theorem d_Model_pack_33 : decode M_Model_pack.2.1 33 = .ok (.aload_n 1, 1) := by decide +kernel
theorem d_Model_pack_34 : decode M_Model_pack.2.1 34 = .ok (.iload_n 2, 1) := by decide +kernel
theorem d_Model_pack_35 : decode M_Model_pack.2.1 35 = .ok (.iconst 3, 1) := by decide +kernel
theorem d_Model_pack_36 : decode M_Model_pack.2.1 36 = .ok (.iadd, 1) := by decide +kernel
theorem d_Model_pack_37 : decode M_Model_pack.2.1 37 = .ok (.iload_n 3, 1) := by decide +kernel
theorem d_Model_pack_38 : decode M_Model_pack.2.1 38 = .ok (.iadd, 1) := by decide +kernel
theorem d_Model_pack_39 : decode M_Model_pack.2.1 39 = .ok (.aload_n 0, 1) := by decide +kernel
theorem d_Model_pack_40 : decode M_Model_pack.2.1 40 = .ok (.getfield 59, 3) := by decide +kernel
theorem d_Model_pack_43 : decode M_Model_pack.2.1 43 = .ok (.iload_n 3, 1) := by decide +kernel
theorem d_Model_pack_44 : decode M_Model_pack.2.1 44 = .ok (.iaload, 1) := by decide +kernel
theorem d_Model_pack_45 : decode M_Model_pack.2.1 45 = .ok (.iastore, 1) := by decide +kernel
theorem d_Model_pack_46 : decode M_Model_pack.2.1 46 = .ok (.aload_n 1, 1) := by decide +kernel
theorem d_Model_pack_47 : decode M_Model_pack.2.1 47 = .ok (.iload_n 2, 1) := by decide +kernel
theorem d_Model_pack_48 : decode M_Model_pack.2.1 48 = .ok (.iconst 3, 1) := by decide +kernel
theorem d_Model_pack_49 : decode M_Model_pack.2.1 49 = .ok (.iadd, 1) := by decide +kernel
theorem d_Model_pack_50 : decode M_Model_pack.2.1 50 = .ok (.bipush 6, 2) := by decide +kernel
theorem d_Model_pack_52 : decode M_Model_pack.2.1 52 = .ok (.iadd, 1) := by decide +kernel
theorem d_Model_pack_53 : decode M_Model_pack.2.1 53 = .ok (.iload_n 3, 1) := by decide +kernel
theorem d_Model_pack_54 : decode M_Model_pack.2.1 54 = .ok (.iadd, 1) := by decide +kernel
theorem d_Model_pack_55 : decode M_Model_pack.2.1 55 = .ok (.aload_n 0, 1) := by decide +kernel
theorem d_Model_pack_56 : decode M_Model_pack.2.1 56 = .ok (.getfield 78, 3) := by decide +kernel
theorem d_Model_pack_59 : decode M_Model_pack.2.1 59 = .ok (.iload_n 3, 1) := by decide +kernel
theorem d_Model_pack_60 : decode M_Model_pack.2.1 60 = .ok (.iaload, 1) := by decide +kernel
theorem d_Model_pack_61 : decode M_Model_pack.2.1 61 = .ok (.iastore, 1) := by decide +kernel
theorem d_Model_pack_62 : decode M_Model_pack.2.1 62 = .ok (.iinc 3 1, 3) := by decide +kernel
theorem d_Model_pack_65 : decode M_Model_pack.2.1 65 = .ok (.goto (-38), 3) := by decide +kernel
theorem d_Model_pack_68 : decode M_Model_pack.2.1 68 = .ok (.iload_n 2, 1) := by decide +kernel
theorem d_Model_pack_69 : decode M_Model_pack.2.1 69 = .ok (.iconst 3, 1) := by decide +kernel
theorem d_Model_pack_70 : decode M_Model_pack.2.1 70 = .ok (.iadd, 1) := by decide +kernel
theorem d_Model_pack_71 : decode M_Model_pack.2.1 71 = .ok (.bipush 12, 2) := by decide +kernel
theorem d_Model_pack_73 : decode M_Model_pack.2.1 73 = .ok (.iadd, 1) := by decide +kernel
theorem d_Model_pack_74 : decode M_Model_pack.2.1 74 = .ok (.istore_n 3, 1) := by decide +kernel
theorem d_Model_pack_75 : decode M_Model_pack.2.1 75 = .ok (.iconst 0, 1) := by decide +kernel
theorem d_Model_pack_76 : decode M_Model_pack.2.1 76 = .ok (.istore 4, 2) := by decide +kernel
theorem d_Model_pack_78 : decode M_Model_pack.2.1 78 = .ok (.iload 4, 2) := by decide +kernel
theorem d_Model_pack_80 : decode M_Model_pack.2.1 80 = .ok (.sipush 216, 3) := by decide +kernel
theorem d_Model_pack_83 : decode M_Model_pack.2.1 83 = .ok (.if_icmp .ge 22, 3) := by decide +kernel
theorem d_Model_pack_86 : decode M_Model_pack.2.1 86 = .ok (.aload_n 1, 1) := by decide +kernel
theorem d_Model_pack_87 : decode M_Model_pack.2.1 87 = .ok (.iload_n 3, 1) := by decide +kernel
theorem d_Model_pack_88 : decode M_Model_pack.2.1 88 = .ok (.iload 4, 2) := by decide +kernel
theorem d_Model_pack_90 : decode M_Model_pack.2.1 90 = .ok (.iadd, 1) := by decide +kernel
theorem d_Model_pack_91 : decode M_Model_pack.2.1 91 = .ok (.aload_n 0, 1) := by decide +kernel
theorem d_Model_pack_92 : decode M_Model_pack.2.1 92 = .ok (.getfield 62, 3) := by decide +kernel
theorem d_Model_pack_95 : decode M_Model_pack.2.1 95 = .ok (.iload 4, 2) := by decide +kernel
theorem d_Model_pack_97 : decode M_Model_pack.2.1 97 = .ok (.iaload, 1) := by decide +kernel
theorem d_Model_pack_98 : decode M_Model_pack.2.1 98 = .ok (.iastore, 1) := by decide +kernel
theorem d_Model_pack_99 : decode M_Model_pack.2.1 99 = .ok (.iinc 4 1, 3) := by decide +kernel
theorem d_Model_pack_102 : decode M_Model_pack.2.1 102 = .ok (.goto (-24), 3) := by decide +kernel
theorem d_Model_pack_105 : decode M_Model_pack.2.1 105 = .ok (.return_, 1) := by decide +kernel
theorem d_Model_unpack_0 : decode M_Model_unpack.2.1 0 = .ok (.aload_n 0, 1) := by decide +kernel
theorem d_Model_unpack_1 : decode M_Model_unpack.2.1 1 = .ok (.aload_n 1, 1) := by decide +kernel
theorem d_Model_unpack_2 : decode M_Model_unpack.2.1 2 = .ok (.iload_n 2, 1) := by decide +kernel
theorem d_Model_unpack_3 : decode M_Model_unpack.2.1 3 = .ok (.iaload, 1) := by decide +kernel
theorem d_Model_unpack_4 : decode M_Model_unpack.2.1 4 = .ok (.putfield 286, 3) := by decide +kernel
theorem d_Model_unpack_7 : decode M_Model_unpack.2.1 7 = .ok (.aload_n 0, 1) := by decide +kernel
theorem d_Model_unpack_8 : decode M_Model_unpack.2.1 8 = .ok (.aload_n 1, 1) := by decide +kernel
theorem d_Model_unpack_9 : decode M_Model_unpack.2.1 9 = .ok (.iload_n 2, 1) := by decide +kernel
theorem d_Model_unpack_10 : decode M_Model_unpack.2.1 10 = .ok (.iconst 1, 1) := by decide +kernel
theorem d_Model_unpack_11 : decode M_Model_unpack.2.1 11 = .ok (.iadd, 1) := by decide +kernel
theorem d_Model_unpack_12 : decode M_Model_unpack.2.1 12 = .ok (.iaload, 1) := by decide +kernel
theorem d_Model_unpack_13 : decode M_Model_unpack.2.1 13 = .ok (.putfield 289, 3) := by decide +kernel
theorem d_Model_unpack_16 : decode M_Model_unpack.2.1 16 = .ok (.aload_n 0, 1) := by decide +kernel
theorem d_Model_unpack_17 : decode M_Model_unpack.2.1 17 = .ok (.aload_n 1, 1) := by decide +kernel
theorem d_Model_unpack_18 : decode M_Model_unpack.2.1 18 = .ok (.iload_n 2, 1) := by decide +kernel
theorem d_Model_unpack_19 : decode M_Model_unpack.2.1 19 = .ok (.iconst 2, 1) := by decide +kernel
theorem d_Model_unpack_20 : decode M_Model_unpack.2.1 20 = .ok (.iadd, 1) := by decide +kernel
theorem d_Model_unpack_21 : decode M_Model_unpack.2.1 21 = .ok (.iaload, 1) := by decide +kernel
theorem d_Model_unpack_22 : decode M_Model_unpack.2.1 22 = .ok (.putfield 121, 3) := by decide +kernel
theorem d_Model_unpack_25 : decode M_Model_unpack.2.1 25 = .ok (.iconst 0, 1) := by decide +kernel
theorem d_Model_unpack_26 : decode M_Model_unpack.2.1 26 = .ok (.istore_n 3, 1) := by decide +kernel
theorem d_Model_unpack_27 : decode M_Model_unpack.2.1 27 = .ok (.iload_n 3, 1) := by decide +kernel
theorem d_Model_unpack_28 : decode M_Model_unpack.2.1 28 = .ok (.bipush 6, 2) := by decide +kernel
theorem d_Model_unpack_30 : decode M_Model_unpack.2.1 30 = .ok (.if_icmp .ge 38, 3) := by decide +kernel
theorem d_Model_unpack_33 : decode M_Model_unpack.2.1 33 = .ok (.aload_n 0, 1) := by decide +kernel
theorem d_Model_unpack_34 : decode M_Model_unpack.2.1 34 = .ok (.getfield 59, 3) := by decide +kernel
theorem d_Model_unpack_37 : decode M_Model_unpack.2.1 37 = .ok (.iload_n 3, 1) := by decide +kernel
theorem d_Model_unpack_38 : decode M_Model_unpack.2.1 38 = .ok (.aload_n 1, 1) := by decide +kernel
theorem d_Model_unpack_39 : decode M_Model_unpack.2.1 39 = .ok (.iload_n 2, 1) := by decide +kernel
theorem d_Model_unpack_40 : decode M_Model_unpack.2.1 40 = .ok (.iconst 3, 1) := by decide +kernel
theorem d_Model_unpack_41 : decode M_Model_unpack.2.1 41 = .ok (.iadd, 1) := by decide +kernel
theorem d_Model_unpack_42 : decode M_Model_unpack.2.1 42 = .ok (.iload_n 3, 1) := by decide +kernel
theorem d_Model_unpack_43 : decode M_Model_unpack.2.1 43 = .ok (.iadd, 1) := by decide +kernel
theorem d_Model_unpack_44 : decode M_Model_unpack.2.1 44 = .ok (.iaload, 1) := by decide +kernel
theorem d_Model_unpack_45 : decode M_Model_unpack.2.1 45 = .ok (.iastore, 1) := by decide +kernel
theorem d_Model_unpack_46 : decode M_Model_unpack.2.1 46 = .ok (.aload_n 0, 1) := by decide +kernel
theorem d_Model_unpack_47 : decode M_Model_unpack.2.1 47 = .ok (.getfield 78, 3) := by decide +kernel
theorem d_Model_unpack_50 : decode M_Model_unpack.2.1 50 = .ok (.iload_n 3, 1) := by decide +kernel
theorem d_Model_unpack_51 : decode M_Model_unpack.2.1 51 = .ok (.aload_n 1, 1) := by decide +kernel
theorem d_Model_unpack_52 : decode M_Model_unpack.2.1 52 = .ok (.iload_n 2, 1) := by decide +kernel
theorem d_Model_unpack_53 : decode M_Model_unpack.2.1 53 = .ok (.iconst 3, 1) := by decide +kernel
theorem d_Model_unpack_54 : decode M_Model_unpack.2.1 54 = .ok (.iadd, 1) := by decide +kernel
theorem d_Model_unpack_55 : decode M_Model_unpack.2.1 55 = .ok (.bipush 6, 2) := by decide +kernel
theorem d_Model_unpack_57 : decode M_Model_unpack.2.1 57 = .ok (.iadd, 1) := by decide +kernel
theorem d_Model_unpack_58 : decode M_Model_unpack.2.1 58 = .ok (.iload_n 3, 1) := by decide +kernel
theorem d_Model_unpack_59 : decode M_Model_unpack.2.1 59 = .ok (.iadd, 1) := by decide +kernel
theorem d_Model_unpack_60 : decode M_Model_unpack.2.1 60 = .ok (.iaload, 1) := by decide +kernel
theorem d_Model_unpack_61 : decode M_Model_unpack.2.1 61 = .ok (.iastore, 1) := by decide +kernel
theorem d_Model_unpack_62 : decode M_Model_unpack.2.1 62 = .ok (.iinc 3 1, 3) := by decide +kernel
theorem d_Model_unpack_65 : decode M_Model_unpack.2.1 65 = .ok (.goto (-38), 3) := by decide +kernel
theorem d_Model_unpack_68 : decode M_Model_unpack.2.1 68 = .ok (.iload_n 2, 1) := by decide +kernel
theorem d_Model_unpack_69 : decode M_Model_unpack.2.1 69 = .ok (.iconst 3, 1) := by decide +kernel
theorem d_Model_unpack_70 : decode M_Model_unpack.2.1 70 = .ok (.iadd, 1) := by decide +kernel
theorem d_Model_unpack_71 : decode M_Model_unpack.2.1 71 = .ok (.bipush 12, 2) := by decide +kernel
theorem d_Model_unpack_73 : decode M_Model_unpack.2.1 73 = .ok (.iadd, 1) := by decide +kernel
theorem d_Model_unpack_74 : decode M_Model_unpack.2.1 74 = .ok (.istore_n 3, 1) := by decide +kernel
theorem d_Model_unpack_75 : decode M_Model_unpack.2.1 75 = .ok (.iconst 0, 1) := by decide +kernel
theorem d_Model_unpack_76 : decode M_Model_unpack.2.1 76 = .ok (.istore 4, 2) := by decide +kernel
theorem d_Model_unpack_78 : decode M_Model_unpack.2.1 78 = .ok (.iload 4, 2) := by decide +kernel
theorem d_Model_unpack_80 : decode M_Model_unpack.2.1 80 = .ok (.sipush 216, 3) := by decide +kernel
theorem d_Model_unpack_83 : decode M_Model_unpack.2.1 83 = .ok (.if_icmp .ge 22, 3) := by decide +kernel
theorem d_Model_unpack_86 : decode M_Model_unpack.2.1 86 = .ok (.aload_n 0, 1) := by decide +kernel
theorem d_Model_unpack_87 : decode M_Model_unpack.2.1 87 = .ok (.getfield 62, 3) := by decide +kernel
theorem d_Model_unpack_90 : decode M_Model_unpack.2.1 90 = .ok (.iload 4, 2) := by decide +kernel
theorem d_Model_unpack_92 : decode M_Model_unpack.2.1 92 = .ok (.aload_n 1, 1) := by decide +kernel
theorem d_Model_unpack_93 : decode M_Model_unpack.2.1 93 = .ok (.iload_n 3, 1) := by decide +kernel
theorem d_Model_unpack_94 : decode M_Model_unpack.2.1 94 = .ok (.iload 4, 2) := by decide +kernel
theorem d_Model_unpack_96 : decode M_Model_unpack.2.1 96 = .ok (.iadd, 1) := by decide +kernel
theorem d_Model_unpack_97 : decode M_Model_unpack.2.1 97 = .ok (.iaload, 1) := by decide +kernel
theorem d_Model_unpack_98 : decode M_Model_unpack.2.1 98 = .ok (.iastore, 1) := by decide +kernel
theorem d_Model_unpack_99 : decode M_Model_unpack.2.1 99 = .ok (.iinc 4 1, 3) := by decide +kernel
theorem d_Model_unpack_102 : decode M_Model_unpack.2.1 102 = .ok (.goto (-24), 3) := by decide +kernel
theorem d_Model_unpack_105 : decode M_Model_unpack.2.1 105 = .ok (.return_, 1) := by decide +kernel
theorem d_Model_yearGoes_0 : decode M_Model_yearGoes.2.1 0 = .ok (.aload_n 0, 1) := by decide +kernel
theorem d_Model_yearGoes_1 : decode M_Model_yearGoes.2.1 1 = .ok (.dup, 1) := by decide +kernel
theorem d_Model_yearGoes_2 : decode M_Model_yearGoes.2.1 2 = .ok (.getfield 286, 3) := by decide +kernel
theorem d_Model_yearGoes_5 : decode M_Model_yearGoes.2.1 5 = .ok (.iconst 1, 1) := by decide +kernel
theorem d_Model_yearGoes_6 : decode M_Model_yearGoes.2.1 6 = .ok (.iadd, 1) := by decide +kernel
theorem d_Model_yearGoes_7 : decode M_Model_yearGoes.2.1 7 = .ok (.putfield 286, 3) := by decide +kernel
theorem d_Model_yearGoes_10 : decode M_Model_yearGoes.2.1 10 = .ok (.iconst 0, 1) := by decide +kernel
theorem d_Model_yearGoes_11 : decode M_Model_yearGoes.2.1 11 = .ok (.istore_n 1, 1) := by decide +kernel
theorem d_Model_yearGoes_12 : decode M_Model_yearGoes.2.1 12 = .ok (.iload_n 1, 1) := by decide +kernel
theorem d_Model_yearGoes_13 : decode M_Model_yearGoes.2.1 13 = .ok (.aload_n 0, 1) := by decide +kernel
theorem d_Model_yearGoes_14 : decode M_Model_yearGoes.2.1 14 = .ok (.getfield 51, 3) := by decide +kernel
theorem d_Model_yearGoes_17 : decode M_Model_yearGoes.2.1 17 = .ok (.iconst 0, 1) := by decide +kernel
theorem d_Model_yearGoes_18 : decode M_Model_yearGoes.2.1 18 = .ok (.iaload, 1) := by decide +kernel
theorem d_Model_yearGoes_19 : decode M_Model_yearGoes.2.1 19 = .ok (.if_icmp .ge 52, 3) := by decide +kernel
theorem d_Model_yearGoes_22 : decode M_Model_yearGoes.2.1 22 = .ok (.aload_n 0, 1) := by decide +kernel
theorem d_Model_yearGoes_23 : decode M_Model_yearGoes.2.1 23 = .ok (.getfield 289, 3) := by decide +kernel
theorem d_Model_yearGoes_26 : decode M_Model_yearGoes.2.1 26 = .ok (.iload_n 1, 1) := by decide +kernel
theorem d_Model_yearGoes_27 : decode M_Model_yearGoes.2.1 27 = .ok (.invokestatic 308, 3) := by decide +kernel
theorem d_Model_yearGoes_30 : decode M_Model_yearGoes.2.1 30 = .ok (.ifCond .ne 35, 3) := by decide +kernel
theorem d_Model_yearGoes_33 : decode M_Model_yearGoes.2.1 33 = .ok (.aload_n 0, 1) := by decide +kernel
theorem d_Model_yearGoes_34 : decode M_Model_yearGoes.2.1 34 = .ok (.getfield 59, 3) := by decide +kernel
theorem d_Model_yearGoes_37 : decode M_Model_yearGoes.2.1 37 = .ok (.iload_n 1, 1) := by decide +kernel
theorem d_Model_yearGoes_38 : decode M_Model_yearGoes.2.1 38 = .ok (.aload_n 0, 1) := by decide +kernel
theorem d_Model_yearGoes_39 : decode M_Model_yearGoes.2.1 39 = .ok (.getfield 59, 3) := by decide +kernel
theorem d_Model_yearGoes_42 : decode M_Model_yearGoes.2.1 42 = .ok (.iload_n 1, 1) := by decide +kernel
theorem d_Model_yearGoes_43 : decode M_Model_yearGoes.2.1 43 = .ok (.iaload, 1) := by decide +kernel
theorem d_Model_yearGoes_44 : decode M_Model_yearGoes.2.1 44 = .ok (.iconst 1, 1) := by decide +kernel
theorem d_Model_yearGoes_45 : decode M_Model_yearGoes.2.1 45 = .ok (.iadd, 1) := by decide +kernel
theorem d_Model_yearGoes_46 : decode M_Model_yearGoes.2.1 46 = .ok (.aload_n 0, 1) := by decide +kernel
theorem d_Model_yearGoes_47 : decode M_Model_yearGoes.2.1 47 = .ok (.getfield 55, 3) := by decide +kernel
theorem d_Model_yearGoes_50 : decode M_Model_yearGoes.2.1 50 = .ok (.iload_n 1, 1) := by decide +kernel
theorem d_Model_yearGoes_51 : decode M_Model_yearGoes.2.1 51 = .ok (.iaload, 1) := by decide +kernel
theorem d_Model_yearGoes_52 : decode M_Model_yearGoes.2.1 52 = .ok (.aload_n 0, 1) := by decide +kernel
theorem d_Model_yearGoes_53 : decode M_Model_yearGoes.2.1 53 = .ok (.getfield 51, 3) := by decide +kernel
theorem d_Model_yearGoes_56 : decode M_Model_yearGoes.2.1 56 = .ok (.iconst 1, 1) := by decide +kernel
theorem d_Model_yearGoes_57 : decode M_Model_yearGoes.2.1 57 = .ok (.iaload, 1) := by decide +kernel
theorem d_Model_yearGoes_58 : decode M_Model_yearGoes.2.1 58 = .ok (.invokestatic 239, 3) := by decide +kernel
theorem d_Model_yearGoes_61 : decode M_Model_yearGoes.2.1 61 = .ok (.invokestatic 156, 3) := by decide +kernel
theorem d_Model_yearGoes_64 : decode M_Model_yearGoes.2.1 64 = .ok (.iastore, 1) := by decide +kernel
theorem d_Model_yearGoes_65 : decode M_Model_yearGoes.2.1 65 = .ok (.iinc 1 1, 3) := by decide +kernel
theorem d_Model_yearGoes_68 : decode M_Model_yearGoes.2.1 68 = .ok (.goto (-56), 3) := by decide +kernel
theorem d_Model_yearGoes_71 : decode M_Model_yearGoes.2.1 71 = .ok (.aload_n 0, 1) := by decide +kernel
theorem d_Model_yearGoes_72 : decode M_Model_yearGoes.2.1 72 = .ok (.invokevirtual 292, 3) := by decide +kernel
theorem d_Model_yearGoes_75 : decode M_Model_yearGoes.2.1 75 = .ok (.pop, 1) := by decide +kernel
theorem d_Model_yearGoes_76 : decode M_Model_yearGoes.2.1 76 = .ok (.return_, 1) := by decide +kernel
theorem d_Model_mothsEat_0 : decode M_Model_mothsEat.2.1 0 = .ok (.iconst 0, 1) := by decide +kernel
theorem d_Model_mothsEat_1 : decode M_Model_mothsEat.2.1 1 = .ok (.istore 4, 2) := by decide +kernel
theorem d_Model_mothsEat_3 : decode M_Model_mothsEat.2.1 3 = .ok (.iconst 0, 1) := by decide +kernel
theorem d_Model_mothsEat_4 : decode M_Model_mothsEat.2.1 4 = .ok (.istore 5, 2) := by decide +kernel
theorem d_Model_mothsEat_6 : decode M_Model_mothsEat.2.1 6 = .ok (.iload 5, 2) := by decide +kernel
theorem d_Model_mothsEat_8 : decode M_Model_mothsEat.2.1 8 = .ok (.aload_n 0, 1) := by decide +kernel
theorem d_Model_mothsEat_9 : decode M_Model_mothsEat.2.1 9 = .ok (.getfield 121, 3) := by decide +kernel
theorem d_Model_mothsEat_12 : decode M_Model_mothsEat.2.1 12 = .ok (.if_icmp .ge 83, 3) := by decide +kernel
theorem d_Model_mothsEat_15 : decode M_Model_mothsEat.2.1 15 = .ok (.aload_n 0, 1) := by decide +kernel
theorem d_Model_mothsEat_16 : decode M_Model_mothsEat.2.1 16 = .ok (.iload 5, 2) := by decide +kernel
theorem d_Model_mothsEat_18 : decode M_Model_mothsEat.2.1 18 = .ok (.invokevirtual 315, 3) := by decide +kernel
theorem d_Model_mothsEat_21 : decode M_Model_mothsEat.2.1 21 = .ok (.ifCond .eq 68, 3) := by decide +kernel
theorem d_Model_mothsEat_24 : decode M_Model_mothsEat.2.1 24 = .ok (.aload_n 0, 1) := by decide +kernel
theorem d_Model_mothsEat_25 : decode M_Model_mothsEat.2.1 25 = .ok (.iload 5, 2) := by decide +kernel
theorem d_Model_mothsEat_27 : decode M_Model_mothsEat.2.1 27 = .ok (.iconst 1, 1) := by decide +kernel
theorem d_Model_mothsEat_28 : decode M_Model_mothsEat.2.1 28 = .ok (.invokevirtual 305, 3) := by decide +kernel
theorem d_Model_mothsEat_31 : decode M_Model_mothsEat.2.1 31 = .ok (.iload_n 1, 1) := by decide +kernel
theorem d_Model_mothsEat_32 : decode M_Model_mothsEat.2.1 32 = .ok (.if_icmp .ne 57, 3) := by decide +kernel
theorem d_Model_mothsEat_35 : decode M_Model_mothsEat.2.1 35 = .ok (.aload_n 0, 1) := by decide +kernel
theorem d_Model_mothsEat_36 : decode M_Model_mothsEat.2.1 36 = .ok (.getfield 55, 3) := by decide +kernel
theorem d_Model_mothsEat_39 : decode M_Model_mothsEat.2.1 39 = .ok (.iload_n 1, 1) := by decide +kernel
theorem d_Model_mothsEat_40 : decode M_Model_mothsEat.2.1 40 = .ok (.iaload, 1) := by decide +kernel
theorem d_Model_mothsEat_41 : decode M_Model_mothsEat.2.1 41 = .ok (.iconst 3, 1) := by decide +kernel
theorem d_Model_mothsEat_42 : decode M_Model_mothsEat.2.1 42 = .ok (.if_icmp .eq 47, 3) := by decide +kernel
theorem d_Model_mothsEat_45 : decode M_Model_mothsEat.2.1 45 = .ok (.aload_n 0, 1) := by decide +kernel
theorem d_Model_mothsEat_46 : decode M_Model_mothsEat.2.1 46 = .ok (.iload 5, 2) := by decide +kernel
theorem d_Model_mothsEat_48 : decode M_Model_mothsEat.2.1 48 = .ok (.bipush 6, 2) := by decide +kernel
theorem d_Model_mothsEat_50 : decode M_Model_mothsEat.2.1 50 = .ok (.invokevirtual 305, 3) := by decide +kernel
theorem d_Model_mothsEat_53 : decode M_Model_mothsEat.2.1 53 = .ok (.iconst 1, 1) := by decide +kernel
theorem d_Model_mothsEat_54 : decode M_Model_mothsEat.2.1 54 = .ok (.if_icmp .eq 35, 3) := by decide +kernel
theorem d_Model_mothsEat_57 : decode M_Model_mothsEat.2.1 57 = .ok (.aload_n 0, 1) := by decide +kernel
theorem d_Model_mothsEat_58 : decode M_Model_mothsEat.2.1 58 = .ok (.iload 5, 2) := by decide +kernel
theorem d_Model_mothsEat_60 : decode M_Model_mothsEat.2.1 60 = .ok (.invokevirtual 318, 3) := by decide +kernel
theorem d_Model_mothsEat_63 : decode M_Model_mothsEat.2.1 63 = .ok (.iload_n 2, 1) := by decide +kernel
theorem d_Model_mothsEat_64 : decode M_Model_mothsEat.2.1 64 = .ok (.if_icmp .lt 25, 3) := by decide +kernel
theorem d_Model_mothsEat_67 : decode M_Model_mothsEat.2.1 67 = .ok (.aload_n 0, 1) := by decide +kernel
theorem d_Model_mothsEat_68 : decode M_Model_mothsEat.2.1 68 = .ok (.iload 5, 2) := by decide +kernel
theorem d_Model_mothsEat_70 : decode M_Model_mothsEat.2.1 70 = .ok (.invokevirtual 318, 3) := by decide +kernel
theorem d_Model_mothsEat_73 : decode M_Model_mothsEat.2.1 73 = .ok (.iload_n 3, 1) := by decide +kernel
theorem d_Model_mothsEat_74 : decode M_Model_mothsEat.2.1 74 = .ok (.if_icmp .le 6, 3) := by decide +kernel
theorem d_Model_mothsEat_77 : decode M_Model_mothsEat.2.1 77 = .ok (.goto 12, 3) := by decide +kernel
theorem d_Model_mothsEat_80 : decode M_Model_mothsEat.2.1 80 = .ok (.aload_n 0, 1) := by decide +kernel
theorem d_Model_mothsEat_81 : decode M_Model_mothsEat.2.1 81 = .ok (.iload 5, 2) := by decide +kernel
theorem d_Model_mothsEat_83 : decode M_Model_mothsEat.2.1 83 = .ok (.invokevirtual 320, 3) := by decide +kernel
theorem d_Model_mothsEat_86 : decode M_Model_mothsEat.2.1 86 = .ok (.iinc 4 1, 3) := by decide +kernel
theorem d_Model_mothsEat_89 : decode M_Model_mothsEat.2.1 89 = .ok (.iinc 5 1, 3) := by decide +kernel
theorem d_Model_mothsEat_92 : decode M_Model_mothsEat.2.1 92 = .ok (.goto (-86), 3) := by decide +kernel
theorem d_Model_mothsEat_95 : decode M_Model_mothsEat.2.1 95 = .ok (.iload 4, 2) := by decide +kernel
theorem d_Model_mothsEat_97 : decode M_Model_mothsEat.2.1 97 = .ok (.ireturn, 1) := by decide +kernel
theorem d_Model_holdersOf_0 : decode M_Model_holdersOf.2.1 0 = .ok (.iconst 0, 1) := by decide +kernel
theorem d_Model_holdersOf_1 : decode M_Model_holdersOf.2.1 1 = .ok (.istore_n 2, 1) := by decide +kernel
theorem d_Model_holdersOf_2 : decode M_Model_holdersOf.2.1 2 = .ok (.iconst 0, 1) := by decide +kernel
theorem d_Model_holdersOf_3 : decode M_Model_holdersOf.2.1 3 = .ok (.istore_n 3, 1) := by decide +kernel
theorem d_Model_holdersOf_4 : decode M_Model_holdersOf.2.1 4 = .ok (.iload_n 3, 1) := by decide +kernel
theorem d_Model_holdersOf_5 : decode M_Model_holdersOf.2.1 5 = .ok (.aload_n 0, 1) := by decide +kernel
theorem d_Model_holdersOf_6 : decode M_Model_holdersOf.2.1 6 = .ok (.getfield 121, 3) := by decide +kernel
theorem d_Model_holdersOf_9 : decode M_Model_holdersOf.2.1 9 = .ok (.if_icmp .ge 39, 3) := by decide +kernel
theorem d_Model_holdersOf_12 : decode M_Model_holdersOf.2.1 12 = .ok (.aload_n 0, 1) := by decide +kernel
theorem d_Model_holdersOf_13 : decode M_Model_holdersOf.2.1 13 = .ok (.iload_n 3, 1) := by decide +kernel
theorem d_Model_holdersOf_14 : decode M_Model_holdersOf.2.1 14 = .ok (.invokevirtual 315, 3) := by decide +kernel
theorem d_Model_holdersOf_17 : decode M_Model_holdersOf.2.1 17 = .ok (.ifCond .eq 25, 3) := by decide +kernel
theorem d_Model_holdersOf_20 : decode M_Model_holdersOf.2.1 20 = .ok (.aload_n 0, 1) := by decide +kernel
theorem d_Model_holdersOf_21 : decode M_Model_holdersOf.2.1 21 = .ok (.iload_n 3, 1) := by decide +kernel
theorem d_Model_holdersOf_22 : decode M_Model_holdersOf.2.1 22 = .ok (.bipush 7, 2) := by decide +kernel
theorem d_Model_holdersOf_24 : decode M_Model_holdersOf.2.1 24 = .ok (.invokevirtual 305, 3) := by decide +kernel
theorem d_Model_holdersOf_27 : decode M_Model_holdersOf.2.1 27 = .ok (.iload_n 1, 1) := by decide +kernel
theorem d_Model_holdersOf_28 : decode M_Model_holdersOf.2.1 28 = .ok (.if_icmp .ne 14, 3) := by decide +kernel
theorem d_Model_holdersOf_31 : decode M_Model_holdersOf.2.1 31 = .ok (.iload_n 2, 1) := by decide +kernel
theorem d_Model_holdersOf_32 : decode M_Model_holdersOf.2.1 32 = .ok (.iconst 1, 1) := by decide +kernel
theorem d_Model_holdersOf_33 : decode M_Model_holdersOf.2.1 33 = .ok (.aload_n 0, 1) := by decide +kernel
theorem d_Model_holdersOf_34 : decode M_Model_holdersOf.2.1 34 = .ok (.iload_n 3, 1) := by decide +kernel
theorem d_Model_holdersOf_35 : decode M_Model_holdersOf.2.1 35 = .ok (.iconst 1, 1) := by decide +kernel
theorem d_Model_holdersOf_36 : decode M_Model_holdersOf.2.1 36 = .ok (.invokevirtual 305, 3) := by decide +kernel
theorem d_Model_holdersOf_39 : decode M_Model_holdersOf.2.1 39 = .ok (.ishl, 1) := by decide +kernel
theorem d_Model_holdersOf_40 : decode M_Model_holdersOf.2.1 40 = .ok (.ior, 1) := by decide +kernel
theorem d_Model_holdersOf_41 : decode M_Model_holdersOf.2.1 41 = .ok (.istore_n 2, 1) := by decide +kernel
theorem d_Model_holdersOf_42 : decode M_Model_holdersOf.2.1 42 = .ok (.iinc 3 1, 3) := by decide +kernel
theorem d_Model_holdersOf_45 : decode M_Model_holdersOf.2.1 45 = .ok (.goto (-41), 3) := by decide +kernel
theorem d_Model_holdersOf_48 : decode M_Model_holdersOf.2.1 48 = .ok (.iload_n 2, 1) := by decide +kernel
theorem d_Model_holdersOf_49 : decode M_Model_holdersOf.2.1 49 = .ok (.ireturn, 1) := by decide +kernel
theorem d_Model_records_0 : decode M_Model_records.2.1 0 = .ok (.iconst 0, 1) := by decide +kernel
theorem d_Model_records_1 : decode M_Model_records.2.1 1 = .ok (.istore_n 1, 1) := by decide +kernel
theorem d_Model_records_2 : decode M_Model_records.2.1 2 = .ok (.iconst 0, 1) := by decide +kernel
theorem d_Model_records_3 : decode M_Model_records.2.1 3 = .ok (.istore_n 2, 1) := by decide +kernel
theorem d_Model_records_4 : decode M_Model_records.2.1 4 = .ok (.iload_n 2, 1) := by decide +kernel
theorem d_Model_records_5 : decode M_Model_records.2.1 5 = .ok (.aload_n 0, 1) := by decide +kernel
theorem d_Model_records_6 : decode M_Model_records.2.1 6 = .ok (.getfield 121, 3) := by decide +kernel
theorem d_Model_records_9 : decode M_Model_records.2.1 9 = .ok (.if_icmp .ge 29, 3) := by decide +kernel
theorem d_Model_records_12 : decode M_Model_records.2.1 12 = .ok (.aload_n 0, 1) := by decide +kernel
theorem d_Model_records_13 : decode M_Model_records.2.1 13 = .ok (.iload_n 2, 1) := by decide +kernel
theorem d_Model_records_14 : decode M_Model_records.2.1 14 = .ok (.invokevirtual 315, 3) := by decide +kernel
theorem d_Model_records_17 : decode M_Model_records.2.1 17 = .ok (.ifCond .eq 15, 3) := by decide +kernel
theorem d_Model_records_20 : decode M_Model_records.2.1 20 = .ok (.iload_n 1, 1) := by decide +kernel
theorem d_Model_records_21 : decode M_Model_records.2.1 21 = .ok (.iconst 1, 1) := by decide +kernel
theorem d_Model_records_22 : decode M_Model_records.2.1 22 = .ok (.aload_n 0, 1) := by decide +kernel
theorem d_Model_records_23 : decode M_Model_records.2.1 23 = .ok (.iload_n 2, 1) := by decide +kernel
theorem d_Model_records_24 : decode M_Model_records.2.1 24 = .ok (.bipush 7, 2) := by decide +kernel
theorem d_Model_records_26 : decode M_Model_records.2.1 26 = .ok (.invokevirtual 305, 3) := by decide +kernel
theorem d_Model_records_29 : decode M_Model_records.2.1 29 = .ok (.ishl, 1) := by decide +kernel
theorem d_Model_records_30 : decode M_Model_records.2.1 30 = .ok (.ior, 1) := by decide +kernel
theorem d_Model_records_31 : decode M_Model_records.2.1 31 = .ok (.istore_n 1, 1) := by decide +kernel
theorem d_Model_records_32 : decode M_Model_records.2.1 32 = .ok (.iinc 2 1, 3) := by decide +kernel
theorem d_Model_records_35 : decode M_Model_records.2.1 35 = .ok (.goto (-31), 3) := by decide +kernel
theorem d_Model_records_38 : decode M_Model_records.2.1 38 = .ok (.iload_n 1, 1) := by decide +kernel
theorem d_Model_records_39 : decode M_Model_records.2.1 39 = .ok (.ireturn, 1) := by decide +kernel
theorem d_Model_bitsOf_0 : decode M_Model_bitsOf.2.1 0 = .ok (.iconst 0, 1) := by decide +kernel
theorem d_Model_bitsOf_1 : decode M_Model_bitsOf.2.1 1 = .ok (.istore_n 1, 1) := by decide +kernel
theorem d_Model_bitsOf_2 : decode M_Model_bitsOf.2.1 2 = .ok (.iload_n 0, 1) := by decide +kernel
theorem d_Model_bitsOf_3 : decode M_Model_bitsOf.2.1 3 = .ok (.istore_n 2, 1) := by decide +kernel
theorem d_Model_bitsOf_4 : decode M_Model_bitsOf.2.1 4 = .ok (.iload_n 2, 1) := by decide +kernel
theorem d_Model_bitsOf_5 : decode M_Model_bitsOf.2.1 5 = .ok (.ifCond .eq 15, 3) := by decide +kernel
theorem d_Model_bitsOf_8 : decode M_Model_bitsOf.2.1 8 = .ok (.iinc 1 1, 3) := by decide +kernel
theorem d_Model_bitsOf_11 : decode M_Model_bitsOf.2.1 11 = .ok (.iload_n 2, 1) := by decide +kernel
theorem d_Model_bitsOf_12 : decode M_Model_bitsOf.2.1 12 = .ok (.iload_n 2, 1) := by decide +kernel
theorem d_Model_bitsOf_13 : decode M_Model_bitsOf.2.1 13 = .ok (.iconst 1, 1) := by decide +kernel
theorem d_Model_bitsOf_14 : decode M_Model_bitsOf.2.1 14 = .ok (.isub, 1) := by decide +kernel
theorem d_Model_bitsOf_15 : decode M_Model_bitsOf.2.1 15 = .ok (.iand, 1) := by decide +kernel
theorem d_Model_bitsOf_16 : decode M_Model_bitsOf.2.1 16 = .ok (.istore_n 2, 1) := by decide +kernel
theorem d_Model_bitsOf_17 : decode M_Model_bitsOf.2.1 17 = .ok (.goto (-13), 3) := by decide +kernel
theorem d_Model_bitsOf_20 : decode M_Model_bitsOf.2.1 20 = .ok (.iload_n 1, 1) := by decide +kernel
theorem d_Model_bitsOf_21 : decode M_Model_bitsOf.2.1 21 = .ok (.ireturn, 1) := by decide +kernel
theorem d_Model_ageOf_0 : decode M_Model_ageOf.2.1 0 = .ok (.aload_n 0, 1) := by decide +kernel
theorem d_Model_ageOf_1 : decode M_Model_ageOf.2.1 1 = .ok (.getfield 57, 3) := by decide +kernel
theorem d_Model_ageOf_4 : decode M_Model_ageOf.2.1 4 = .ok (.iload_n 1, 1) := by decide +kernel
theorem d_Model_ageOf_5 : decode M_Model_ageOf.2.1 5 = .ok (.iaload, 1) := by decide +kernel
theorem d_Model_ageOf_6 : decode M_Model_ageOf.2.1 6 = .ok (.aload_n 0, 1) := by decide +kernel
theorem d_Model_ageOf_7 : decode M_Model_ageOf.2.1 7 = .ok (.iload_n 1, 1) := by decide +kernel
theorem d_Model_ageOf_8 : decode M_Model_ageOf.2.1 8 = .ok (.invokevirtual 312, 3) := by decide +kernel
theorem d_Model_ageOf_11 : decode M_Model_ageOf.2.1 11 = .ok (.iadd, 1) := by decide +kernel
theorem d_Model_ageOf_12 : decode M_Model_ageOf.2.1 12 = .ok (.ireturn, 1) := by decide +kernel
theorem d_Model_isGrey_0 : decode M_Model_isGrey.2.1 0 = .ok (.aload_n 0, 1) := by decide +kernel
theorem d_Model_isGrey_1 : decode M_Model_isGrey.2.1 1 = .ok (.iload_n 1, 1) := by decide +kernel
theorem d_Model_isGrey_2 : decode M_Model_isGrey.2.1 2 = .ok (.invokevirtual 323, 3) := by decide +kernel
theorem d_Model_isGrey_5 : decode M_Model_isGrey.2.1 5 = .ok (.aload_n 0, 1) := by decide +kernel
theorem d_Model_isGrey_6 : decode M_Model_isGrey.2.1 6 = .ok (.getfield 51, 3) := by decide +kernel
theorem d_Model_isGrey_9 : decode M_Model_isGrey.2.1 9 = .ok (.iconst 2, 1) := by decide +kernel
theorem d_Model_isGrey_10 : decode M_Model_isGrey.2.1 10 = .ok (.iaload, 1) := by decide +kernel
theorem d_Model_isGrey_11 : decode M_Model_isGrey.2.1 11 = .ok (.if_icmp .lt 7, 3) := by decide +kernel
theorem d_Model_isGrey_14 : decode M_Model_isGrey.2.1 14 = .ok (.iconst 1, 1) := by decide +kernel
theorem d_Model_isGrey_15 : decode M_Model_isGrey.2.1 15 = .ok (.goto 4, 3) := by decide +kernel
theorem d_Model_isGrey_18 : decode M_Model_isGrey.2.1 18 = .ok (.iconst 0, 1) := by decide +kernel
theorem d_Model_isGrey_19 : decode M_Model_isGrey.2.1 19 = .ok (.ireturn, 1) := by decide +kernel
theorem d_Model_thereMany_0 : decode M_Model_thereMany.2.1 0 = .ok (.iconst 0, 1) := by decide +kernel
theorem d_Model_thereMany_1 : decode M_Model_thereMany.2.1 1 = .ok (.istore_n 1, 1) := by decide +kernel
theorem d_Model_thereMany_2 : decode M_Model_thereMany.2.1 2 = .ok (.iconst 0, 1) := by decide +kernel
theorem d_Model_thereMany_3 : decode M_Model_thereMany.2.1 3 = .ok (.istore_n 2, 1) := by decide +kernel
theorem d_Model_thereMany_4 : decode M_Model_thereMany.2.1 4 = .ok (.iload_n 2, 1) := by decide +kernel
theorem d_Model_thereMany_5 : decode M_Model_thereMany.2.1 5 = .ok (.aload_n 0, 1) := by decide +kernel
theorem d_Model_thereMany_6 : decode M_Model_thereMany.2.1 6 = .ok (.getfield 121, 3) := by decide +kernel
theorem d_Model_thereMany_9 : decode M_Model_thereMany.2.1 9 = .ok (.if_icmp .ge 25, 3) := by decide +kernel
theorem d_Model_thereMany_12 : decode M_Model_thereMany.2.1 12 = .ok (.iload_n 1, 1) := by decide +kernel
theorem d_Model_thereMany_13 : decode M_Model_thereMany.2.1 13 = .ok (.aload_n 0, 1) := by decide +kernel
theorem d_Model_thereMany_14 : decode M_Model_thereMany.2.1 14 = .ok (.iload_n 2, 1) := by decide +kernel
theorem d_Model_thereMany_15 : decode M_Model_thereMany.2.1 15 = .ok (.invokevirtual 315, 3) := by decide +kernel
theorem d_Model_thereMany_18 : decode M_Model_thereMany.2.1 18 = .ok (.ifCond .eq 7, 3) := by decide +kernel
theorem d_Model_thereMany_21 : decode M_Model_thereMany.2.1 21 = .ok (.iconst 1, 1) := by decide +kernel
theorem d_Model_thereMany_22 : decode M_Model_thereMany.2.1 22 = .ok (.goto 4, 3) := by decide +kernel
theorem d_Model_thereMany_25 : decode M_Model_thereMany.2.1 25 = .ok (.iconst 0, 1) := by decide +kernel
theorem d_Model_thereMany_26 : decode M_Model_thereMany.2.1 26 = .ok (.iadd, 1) := by decide +kernel
theorem d_Model_thereMany_27 : decode M_Model_thereMany.2.1 27 = .ok (.istore_n 1, 1) := by decide +kernel
theorem d_Model_thereMany_28 : decode M_Model_thereMany.2.1 28 = .ok (.iinc 2 1, 3) := by decide +kernel
theorem d_Model_thereMany_31 : decode M_Model_thereMany.2.1 31 = .ok (.goto (-27), 3) := by decide +kernel
theorem d_Model_thereMany_34 : decode M_Model_thereMany.2.1 34 = .ok (.iload_n 1, 1) := by decide +kernel
theorem d_Model_thereMany_35 : decode M_Model_thereMany.2.1 35 = .ok (.ireturn, 1) := by decide +kernel
theorem d_Model_count_0 : decode M_Model_count.2.1 0 = .ok (.aload_n 0, 1) := by decide +kernel
theorem d_Model_count_1 : decode M_Model_count.2.1 1 = .ok (.iconst 0, 1) := by decide +kernel
theorem d_Model_count_2 : decode M_Model_count.2.1 2 = .ok (.putfield 114, 3) := by decide +kernel
theorem d_Model_count_5 : decode M_Model_count.2.1 5 = .ok (.iload_n 1, 1) := by decide +kernel
theorem d_Model_count_6 : decode M_Model_count.2.1 6 = .ok (.tableswitch 144 0 14 #[74, 91, 74, 74, 74, 96, 101, 106, 114, 119, 124, 129, 134, 134, 134], 74) := by decide +kernel
theorem d_Model_count_80 : decode M_Model_count.2.1 80 = .ok (.aload_n 0, 1) := by decide +kernel
theorem d_Model_count_81 : decode M_Model_count.2.1 81 = .ok (.getfield 51, 3) := by decide +kernel
theorem d_Model_count_84 : decode M_Model_count.2.1 84 = .ok (.iload_n 1, 1) := by decide +kernel
theorem d_Model_count_85 : decode M_Model_count.2.1 85 = .ok (.ifCond .ne 7, 3) := by decide +kernel
theorem d_Model_count_88 : decode M_Model_count.2.1 88 = .ok (.iconst 0, 1) := by decide +kernel
theorem d_Model_count_89 : decode M_Model_count.2.1 89 = .ok (.goto 6, 3) := by decide +kernel
theorem d_Model_count_92 : decode M_Model_count.2.1 92 = .ok (.iload_n 1, 1) := by decide +kernel
theorem d_Model_count_93 : decode M_Model_count.2.1 93 = .ok (.iconst 1, 1) := by decide +kernel
theorem d_Model_count_94 : decode M_Model_count.2.1 94 = .ok (.isub, 1) := by decide +kernel
theorem d_Model_count_95 : decode M_Model_count.2.1 95 = .ok (.iaload, 1) := by decide +kernel
theorem d_Model_count_96 : decode M_Model_count.2.1 96 = .ok (.ireturn, 1) := by decide +kernel
theorem d_Model_count_97 : decode M_Model_count.2.1 97 = .ok (.aload_n 0, 1) := by decide +kernel
theorem d_Model_count_98 : decode M_Model_count.2.1 98 = .ok (.getfield 121, 3) := by decide +kernel
theorem d_Model_count_101 : decode M_Model_count.2.1 101 = .ok (.ireturn, 1) := by decide +kernel
theorem d_Model_count_102 : decode M_Model_count.2.1 102 = .ok (.aload_n 0, 1) := by decide +kernel
theorem d_Model_count_103 : decode M_Model_count.2.1 103 = .ok (.getfield 286, 3) := by decide +kernel
theorem d_Model_count_106 : decode M_Model_count.2.1 106 = .ok (.ireturn, 1) := by decide +kernel
theorem d_Model_count_107 : decode M_Model_count.2.1 107 = .ok (.aload_n 0, 1) := by decide +kernel
theorem d_Model_count_108 : decode M_Model_count.2.1 108 = .ok (.invokevirtual 326, 3) := by decide +kernel
theorem d_Model_count_111 : decode M_Model_count.2.1 111 = .ok (.ireturn, 1) := by decide +kernel
theorem d_Model_count_112 : decode M_Model_count.2.1 112 = .ok (.aload_n 0, 1) := by decide +kernel
theorem d_Model_count_113 : decode M_Model_count.2.1 113 = .ok (.invokevirtual 329, 3) := by decide +kernel
theorem d_Model_count_116 : decode M_Model_count.2.1 116 = .ok (.invokestatic 332, 3) := by decide +kernel
theorem d_Model_count_119 : decode M_Model_count.2.1 119 = .ok (.ireturn, 1) := by decide +kernel
theorem d_Model_count_120 : decode M_Model_count.2.1 120 = .ok (.aload_n 0, 1) := by decide +kernel
theorem d_Model_count_121 : decode M_Model_count.2.1 121 = .ok (.getfield 289, 3) := by decide +kernel
theorem d_Model_count_124 : decode M_Model_count.2.1 124 = .ok (.ireturn, 1) := by decide +kernel
theorem d_Model_count_125 : decode M_Model_count.2.1 125 = .ok (.aload_n 0, 1) := by decide +kernel
theorem d_Model_count_126 : decode M_Model_count.2.1 126 = .ok (.getfield 295, 3) := by decide +kernel
theorem d_Model_count_129 : decode M_Model_count.2.1 129 = .ok (.ireturn, 1) := by decide +kernel
theorem d_Model_count_130 : decode M_Model_count.2.1 130 = .ok (.aload_n 0, 1) := by decide +kernel
theorem d_Model_count_131 : decode M_Model_count.2.1 131 = .ok (.getfield 298, 3) := by decide +kernel
theorem d_Model_count_134 : decode M_Model_count.2.1 134 = .ok (.ireturn, 1) := by decide +kernel
theorem d_Model_count_135 : decode M_Model_count.2.1 135 = .ok (.aload_n 0, 1) := by decide +kernel
theorem d_Model_count_136 : decode M_Model_count.2.1 136 = .ok (.getfield 126, 3) := by decide +kernel
theorem d_Model_count_139 : decode M_Model_count.2.1 139 = .ok (.ireturn, 1) := by decide +kernel
theorem d_Model_count_140 : decode M_Model_count.2.1 140 = .ok (.aload_n 0, 1) := by decide +kernel
theorem d_Model_count_141 : decode M_Model_count.2.1 141 = .ok (.getfield 68, 3) := by decide +kernel
theorem d_Model_count_144 : decode M_Model_count.2.1 144 = .ok (.iload_n 1, 1) := by decide +kernel
theorem d_Model_count_145 : decode M_Model_count.2.1 145 = .ok (.bipush 12, 2) := by decide +kernel
theorem d_Model_count_147 : decode M_Model_count.2.1 147 = .ok (.isub, 1) := by decide +kernel
theorem d_Model_count_148 : decode M_Model_count.2.1 148 = .ok (.iaload, 1) := by decide +kernel
theorem d_Model_count_149 : decode M_Model_count.2.1 149 = .ok (.ireturn, 1) := by decide +kernel
theorem d_Model_count_150 : decode M_Model_count.2.1 150 = .ok (.aload_n 0, 1) := by decide +kernel
theorem d_Model_count_151 : decode M_Model_count.2.1 151 = .ok (.iconst 1, 1) := by decide +kernel
theorem d_Model_count_152 : decode M_Model_count.2.1 152 = .ok (.invokevirtual 273, 3) := by decide +kernel
theorem d_Model_count_155 : decode M_Model_count.2.1 155 = .ok (.ireturn, 1) := by decide +kernel
theorem d_Model_monk_0 : decode M_Model_monk.2.1 0 = .ok (.aload_n 0, 1) := by decide +kernel
theorem d_Model_monk_1 : decode M_Model_monk.2.1 1 = .ok (.iconst 0, 1) := by decide +kernel
theorem d_Model_monk_2 : decode M_Model_monk.2.1 2 = .ok (.putfield 114, 3) := by decide +kernel
theorem d_Model_monk_5 : decode M_Model_monk.2.1 5 = .ok (.aload_n 0, 1) := by decide +kernel
theorem d_Model_monk_6 : decode M_Model_monk.2.1 6 = .ok (.iload_n 1, 1) := by decide +kernel
theorem d_Model_monk_7 : decode M_Model_monk.2.1 7 = .ok (.invokevirtual 335, 3) := by decide +kernel
theorem d_Model_monk_10 : decode M_Model_monk.2.1 10 = .ok (.ifCond .ne 9, 3) := by decide +kernel
theorem d_Model_monk_13 : decode M_Model_monk.2.1 13 = .ok (.aload_n 0, 1) := by decide +kernel
theorem d_Model_monk_14 : decode M_Model_monk.2.1 14 = .ok (.iconst 1, 1) := by decide +kernel
theorem d_Model_monk_15 : decode M_Model_monk.2.1 15 = .ok (.invokevirtual 273, 3) := by decide +kernel
theorem d_Model_monk_18 : decode M_Model_monk.2.1 18 = .ok (.ireturn, 1) := by decide +kernel
theorem d_Model_monk_19 : decode M_Model_monk.2.1 19 = .ok (.iload_n 2, 1) := by decide +kernel
theorem d_Model_monk_20 : decode M_Model_monk.2.1 20 = .ok (.tableswitch 140 0 5 #[40, 47, 53, 60, 76, 90], 40) := by decide +kernel
theorem d_Model_monk_60 : decode M_Model_monk.2.1 60 = .ok (.aload_n 0, 1) := by decide +kernel
theorem d_Model_monk_61 : decode M_Model_monk.2.1 61 = .ok (.getfield 55, 3) := by decide +kernel
theorem d_Model_monk_64 : decode M_Model_monk.2.1 64 = .ok (.iload_n 1, 1) := by decide +kernel
theorem d_Model_monk_65 : decode M_Model_monk.2.1 65 = .ok (.iaload, 1) := by decide +kernel
theorem d_Model_monk_66 : decode M_Model_monk.2.1 66 = .ok (.ireturn, 1) := by decide +kernel
theorem d_Model_monk_67 : decode M_Model_monk.2.1 67 = .ok (.aload_n 0, 1) := by decide +kernel
theorem d_Model_monk_68 : decode M_Model_monk.2.1 68 = .ok (.iload_n 1, 1) := by decide +kernel
theorem d_Model_monk_69 : decode M_Model_monk.2.1 69 = .ok (.invokevirtual 323, 3) := by decide +kernel
theorem d_Model_monk_72 : decode M_Model_monk.2.1 72 = .ok (.ireturn, 1) := by decide +kernel
theorem d_Model_monk_73 : decode M_Model_monk.2.1 73 = .ok (.aload_n 0, 1) := by decide +kernel
theorem d_Model_monk_74 : decode M_Model_monk.2.1 74 = .ok (.getfield 59, 3) := by decide +kernel
theorem d_Model_monk_77 : decode M_Model_monk.2.1 77 = .ok (.iload_n 1, 1) := by decide +kernel
theorem d_Model_monk_78 : decode M_Model_monk.2.1 78 = .ok (.iaload, 1) := by decide +kernel
theorem d_Model_monk_79 : decode M_Model_monk.2.1 79 = .ok (.ireturn, 1) := by decide +kernel
theorem d_Model_monk_80 : decode M_Model_monk.2.1 80 = .ok (.aload_n 0, 1) := by decide +kernel
theorem d_Model_monk_81 : decode M_Model_monk.2.1 81 = .ok (.getfield 55, 3) := by decide +kernel
theorem d_Model_monk_84 : decode M_Model_monk.2.1 84 = .ok (.iload_n 1, 1) := by decide +kernel
theorem d_Model_monk_85 : decode M_Model_monk.2.1 85 = .ok (.iaload, 1) := by decide +kernel
theorem d_Model_monk_86 : decode M_Model_monk.2.1 86 = .ok (.aload_n 0, 1) := by decide +kernel
theorem d_Model_monk_87 : decode M_Model_monk.2.1 87 = .ok (.getfield 51, 3) := by decide +kernel
theorem d_Model_monk_90 : decode M_Model_monk.2.1 90 = .ok (.iconst 1, 1) := by decide +kernel
theorem d_Model_monk_91 : decode M_Model_monk.2.1 91 = .ok (.iaload, 1) := by decide +kernel
theorem d_Model_monk_92 : decode M_Model_monk.2.1 92 = .ok (.invokestatic 239, 3) := by decide +kernel
theorem d_Model_monk_95 : decode M_Model_monk.2.1 95 = .ok (.ireturn, 1) := by decide +kernel
theorem d_Model_monk_96 : decode M_Model_monk.2.1 96 = .ok (.aload_n 0, 1) := by decide +kernel
theorem d_Model_monk_97 : decode M_Model_monk.2.1 97 = .ok (.iload_n 1, 1) := by decide +kernel
theorem d_Model_monk_98 : decode M_Model_monk.2.1 98 = .ok (.invokevirtual 338, 3) := by decide +kernel
theorem d_Model_monk_101 : decode M_Model_monk.2.1 101 = .ok (.ifCond .eq 7, 3) := by decide +kernel
theorem d_Model_monk_104 : decode M_Model_monk.2.1 104 = .ok (.iconst 1, 1) := by decide +kernel
theorem d_Model_monk_105 : decode M_Model_monk.2.1 105 = .ok (.goto 4, 3) := by decide +kernel
theorem d_Model_monk_108 : decode M_Model_monk.2.1 108 = .ok (.iconst 0, 1) := by decide +kernel
theorem d_Model_monk_109 : decode M_Model_monk.2.1 109 = .ok (.ireturn, 1) := by decide +kernel
theorem d_Model_monk_110 : decode M_Model_monk.2.1 110 = .ok (.iconst 0, 1) := by decide +kernel
theorem d_Model_monk_111 : decode M_Model_monk.2.1 111 = .ok (.istore_n 3, 1) := by decide +kernel
theorem d_Model_monk_112 : decode M_Model_monk.2.1 112 = .ok (.iconst 0, 1) := by decide +kernel
theorem d_Model_monk_113 : decode M_Model_monk.2.1 113 = .ok (.istore 4, 2) := by decide +kernel
theorem d_Model_monk_115 : decode M_Model_monk.2.1 115 = .ok (.iload 4, 2) := by decide +kernel
theorem d_Model_monk_117 : decode M_Model_monk.2.1 117 = .ok (.aload_n 0, 1) := by decide +kernel
theorem d_Model_monk_118 : decode M_Model_monk.2.1 118 = .ok (.getfield 121, 3) := by decide +kernel
theorem d_Model_monk_121 : decode M_Model_monk.2.1 121 = .ok (.if_icmp .ge 37, 3) := by decide +kernel
theorem d_Model_monk_124 : decode M_Model_monk.2.1 124 = .ok (.iload_n 3, 1) := by decide +kernel
theorem d_Model_monk_125 : decode M_Model_monk.2.1 125 = .ok (.aload_n 0, 1) := by decide +kernel
theorem d_Model_monk_126 : decode M_Model_monk.2.1 126 = .ok (.iload 4, 2) := by decide +kernel
theorem d_Model_monk_128 : decode M_Model_monk.2.1 128 = .ok (.invokevirtual 315, 3) := by decide +kernel
theorem d_Model_monk_131 : decode M_Model_monk.2.1 131 = .ok (.ifCond .eq 18, 3) := by decide +kernel
theorem d_Model_monk_134 : decode M_Model_monk.2.1 134 = .ok (.aload_n 0, 1) := by decide +kernel
theorem d_Model_monk_135 : decode M_Model_monk.2.1 135 = .ok (.iload 4, 2) := by decide +kernel
theorem d_Model_monk_137 : decode M_Model_monk.2.1 137 = .ok (.iconst 1, 1) := by decide +kernel
theorem d_Model_monk_138 : decode M_Model_monk.2.1 138 = .ok (.invokevirtual 305, 3) := by decide +kernel
theorem d_Model_monk_141 : decode M_Model_monk.2.1 141 = .ok (.iload_n 1, 1) := by decide +kernel
theorem d_Model_monk_142 : decode M_Model_monk.2.1 142 = .ok (.if_icmp .ne 7, 3) := by decide +kernel
theorem d_Model_monk_145 : decode M_Model_monk.2.1 145 = .ok (.iconst 1, 1) := by decide +kernel
theorem d_Model_monk_146 : decode M_Model_monk.2.1 146 = .ok (.goto 4, 3) := by decide +kernel
theorem d_Model_monk_149 : decode M_Model_monk.2.1 149 = .ok (.iconst 0, 1) := by decide +kernel
theorem d_Model_monk_150 : decode M_Model_monk.2.1 150 = .ok (.iadd, 1) := by decide +kernel
theorem d_Model_monk_151 : decode M_Model_monk.2.1 151 = .ok (.istore_n 3, 1) := by decide +kernel
theorem d_Model_monk_152 : decode M_Model_monk.2.1 152 = .ok (.iinc 4 1, 3) := by decide +kernel
theorem d_Model_monk_155 : decode M_Model_monk.2.1 155 = .ok (.goto (-40), 3) := by decide +kernel
theorem d_Model_monk_158 : decode M_Model_monk.2.1 158 = .ok (.iload_n 3, 1) := by decide +kernel
theorem d_Model_monk_159 : decode M_Model_monk.2.1 159 = .ok (.ireturn, 1) := by decide +kernel
theorem d_Model_monk_160 : decode M_Model_monk.2.1 160 = .ok (.aload_n 0, 1) := by decide +kernel
theorem d_Model_monk_161 : decode M_Model_monk.2.1 161 = .ok (.iconst 1, 1) := by decide +kernel
theorem d_Model_monk_162 : decode M_Model_monk.2.1 162 = .ok (.invokevirtual 273, 3) := by decide +kernel
theorem d_Model_monk_165 : decode M_Model_monk.2.1 165 = .ok (.ireturn, 1) := by decide +kernel
theorem d_Model_entry_0 : decode M_Model_entry.2.1 0 = .ok (.aload_n 0, 1) := by decide +kernel
theorem d_Model_entry_1 : decode M_Model_entry.2.1 1 = .ok (.iconst 0, 1) := by decide +kernel
theorem d_Model_entry_2 : decode M_Model_entry.2.1 2 = .ok (.putfield 114, 3) := by decide +kernel
theorem d_Model_entry_5 : decode M_Model_entry.2.1 5 = .ok (.aload_n 0, 1) := by decide +kernel
theorem d_Model_entry_6 : decode M_Model_entry.2.1 6 = .ok (.iload_n 1, 1) := by decide +kernel
theorem d_Model_entry_7 : decode M_Model_entry.2.1 7 = .ok (.invokevirtual 341, 3) := by decide +kernel
theorem d_Model_entry_10 : decode M_Model_entry.2.1 10 = .ok (.ifCond .eq 15, 3) := by decide +kernel
theorem d_Model_entry_13 : decode M_Model_entry.2.1 13 = .ok (.iload_n 2, 1) := by decide +kernel
theorem d_Model_entry_14 : decode M_Model_entry.2.1 14 = .ok (.i2l, 1) := by decide +kernel
theorem d_Model_entry_15 : decode M_Model_entry.2.1 15 = .ok (.lconst 0, 1) := by decide +kernel
theorem d_Model_entry_16 : decode M_Model_entry.2.1 16 = .ok (.ldc2_w 344, 3) := by decide +kernel
theorem d_Model_entry_19 : decode M_Model_entry.2.1 19 = .ok (.invokestatic 117, 3) := by decide +kernel
theorem d_Model_entry_22 : decode M_Model_entry.2.1 22 = .ok (.ifCond .ne 9, 3) := by decide +kernel
theorem d_Model_entry_25 : decode M_Model_entry.2.1 25 = .ok (.aload_n 0, 1) := by decide +kernel
theorem d_Model_entry_26 : decode M_Model_entry.2.1 26 = .ok (.iconst 1, 1) := by decide +kernel
theorem d_Model_entry_27 : decode M_Model_entry.2.1 27 = .ok (.invokevirtual 273, 3) := by decide +kernel
theorem d_Model_entry_30 : decode M_Model_entry.2.1 30 = .ok (.ireturn, 1) := by decide +kernel
theorem d_Model_entry_31 : decode M_Model_entry.2.1 31 = .ok (.iload_n 2, 1) := by decide +kernel
theorem d_Model_entry_32 : decode M_Model_entry.2.1 32 = .ok (.bipush 8, 2) := by decide +kernel
theorem d_Model_entry_34 : decode M_Model_entry.2.1 34 = .ok (.if_icmp .ge 12, 3) := by decide +kernel
theorem d_Model_entry_37 : decode M_Model_entry.2.1 37 = .ok (.aload_n 0, 1) := by decide +kernel
theorem d_Model_entry_38 : decode M_Model_entry.2.1 38 = .ok (.iload_n 1, 1) := by decide +kernel
theorem d_Model_entry_39 : decode M_Model_entry.2.1 39 = .ok (.iload_n 2, 1) := by decide +kernel
theorem d_Model_entry_40 : decode M_Model_entry.2.1 40 = .ok (.invokevirtual 305, 3) := by decide +kernel
theorem d_Model_entry_43 : decode M_Model_entry.2.1 43 = .ok (.goto 30, 3) := by decide +kernel
theorem d_Model_entry_46 : decode M_Model_entry.2.1 46 = .ok (.iload_n 2, 1) := by decide +kernel
theorem d_Model_entry_47 : decode M_Model_entry.2.1 47 = .ok (.bipush 9, 2) := by decide +kernel
theorem d_Model_entry_49 : decode M_Model_entry.2.1 49 = .ok (.if_icmp .ne 11, 3) := by decide +kernel
theorem d_Model_entry_52 : decode M_Model_entry.2.1 52 = .ok (.aload_n 0, 1) := by decide +kernel
theorem d_Model_entry_53 : decode M_Model_entry.2.1 53 = .ok (.iload_n 1, 1) := by decide +kernel
theorem d_Model_entry_54 : decode M_Model_entry.2.1 54 = .ok (.invokevirtual 318, 3) := by decide +kernel
theorem d_Model_entry_57 : decode M_Model_entry.2.1 57 = .ok (.goto 16, 3) := by decide +kernel
theorem d_Model_entry_60 : decode M_Model_entry.2.1 60 = .ok (.aload_n 0, 1) := by decide +kernel
theorem d_Model_entry_61 : decode M_Model_entry.2.1 61 = .ok (.iload_n 1, 1) := by decide +kernel
theorem d_Model_entry_62 : decode M_Model_entry.2.1 62 = .ok (.invokevirtual 315, 3) := by decide +kernel
theorem d_Model_entry_65 : decode M_Model_entry.2.1 65 = .ok (.ifCond .eq 7, 3) := by decide +kernel
theorem d_Model_entry_68 : decode M_Model_entry.2.1 68 = .ok (.iconst 1, 1) := by decide +kernel
theorem d_Model_entry_69 : decode M_Model_entry.2.1 69 = .ok (.goto 4, 3) := by decide +kernel
theorem d_Model_entry_72 : decode M_Model_entry.2.1 72 = .ok (.iconst 0, 1) := by decide +kernel
theorem d_Model_entry_73 : decode M_Model_entry.2.1 73 = .ok (.ireturn, 1) := by decide +kernel
theorem d_Model_holders_0 : decode M_Model_holders.2.1 0 = .ok (.aload_n 0, 1) := by decide +kernel
theorem d_Model_holders_1 : decode M_Model_holders.2.1 1 = .ok (.iconst 0, 1) := by decide +kernel
theorem d_Model_holders_2 : decode M_Model_holders.2.1 2 = .ok (.putfield 114, 3) := by decide +kernel
theorem d_Model_holders_5 : decode M_Model_holders.2.1 5 = .ok (.aload_n 0, 1) := by decide +kernel
theorem d_Model_holders_6 : decode M_Model_holders.2.1 6 = .ok (.iload_n 1, 1) := by decide +kernel
theorem d_Model_holders_7 : decode M_Model_holders.2.1 7 = .ok (.invokevirtual 341, 3) := by decide +kernel
theorem d_Model_holders_10 : decode M_Model_holders.2.1 10 = .ok (.ifCond .eq 17, 3) := by decide +kernel
theorem d_Model_holders_13 : decode M_Model_holders.2.1 13 = .ok (.aload_n 0, 1) := by decide +kernel
theorem d_Model_holders_14 : decode M_Model_holders.2.1 14 = .ok (.aload_n 0, 1) := by decide +kernel
theorem d_Model_holders_15 : decode M_Model_holders.2.1 15 = .ok (.iload_n 1, 1) := by decide +kernel
theorem d_Model_holders_16 : decode M_Model_holders.2.1 16 = .ok (.bipush 7, 2) := by decide +kernel
theorem d_Model_holders_18 : decode M_Model_holders.2.1 18 = .ok (.invokevirtual 305, 3) := by decide +kernel
theorem d_Model_holders_21 : decode M_Model_holders.2.1 21 = .ok (.invokevirtual 346, 3) := by decide +kernel
theorem d_Model_holders_24 : decode M_Model_holders.2.1 24 = .ok (.goto 8, 3) := by decide +kernel
theorem d_Model_holders_27 : decode M_Model_holders.2.1 27 = .ok (.aload_n 0, 1) := by decide +kernel
theorem d_Model_holders_28 : decode M_Model_holders.2.1 28 = .ok (.iconst 1, 1) := by decide +kernel
theorem d_Model_holders_29 : decode M_Model_holders.2.1 29 = .ok (.invokevirtual 273, 3) := by decide +kernel
theorem d_Model_holders_32 : decode M_Model_holders.2.1 32 = .ok (.ireturn, 1) := by decide +kernel
theorem d_Model_reckon_0 : decode M_Model_reckon.2.1 0 = .ok (.iload_n 0, 1) := by decide +kernel
theorem d_Model_reckon_1 : decode M_Model_reckon.2.1 1 = .ok (.tableswitch 103 (-26) (-20) #[89, 78, 67, 55, 51, 47, 43], 43) := by decide +kernel
theorem d_Model_reckon_44 : decode M_Model_reckon.2.1 44 = .ok (.iload_n 1, 1) := by decide +kernel
theorem d_Model_reckon_45 : decode M_Model_reckon.2.1 45 = .ok (.iload_n 2, 1) := by decide +kernel
theorem d_Model_reckon_46 : decode M_Model_reckon.2.1 46 = .ok (.iadd, 1) := by decide +kernel
theorem d_Model_reckon_47 : decode M_Model_reckon.2.1 47 = .ok (.ireturn, 1) := by decide +kernel
theorem d_Model_reckon_48 : decode M_Model_reckon.2.1 48 = .ok (.iload_n 1, 1) := by decide +kernel
theorem d_Model_reckon_49 : decode M_Model_reckon.2.1 49 = .ok (.iload_n 2, 1) := by decide +kernel
theorem d_Model_reckon_50 : decode M_Model_reckon.2.1 50 = .ok (.isub, 1) := by decide +kernel
theorem d_Model_reckon_51 : decode M_Model_reckon.2.1 51 = .ok (.ireturn, 1) := by decide +kernel
theorem d_Model_reckon_52 : decode M_Model_reckon.2.1 52 = .ok (.iload_n 1, 1) := by decide +kernel
theorem d_Model_reckon_53 : decode M_Model_reckon.2.1 53 = .ok (.iload_n 2, 1) := by decide +kernel
theorem d_Model_reckon_54 : decode M_Model_reckon.2.1 54 = .ok (.imul, 1) := by decide +kernel
theorem d_Model_reckon_55 : decode M_Model_reckon.2.1 55 = .ok (.ireturn, 1) := by decide +kernel
theorem d_Model_reckon_56 : decode M_Model_reckon.2.1 56 = .ok (.iload_n 2, 1) := by decide +kernel
theorem d_Model_reckon_57 : decode M_Model_reckon.2.1 57 = .ok (.ifCond .ne 7, 3) := by decide +kernel
theorem d_Model_reckon_60 : decode M_Model_reckon.2.1 60 = .ok (.iconst 0, 1) := by decide +kernel
theorem d_Model_reckon_61 : decode M_Model_reckon.2.1 61 = .ok (.goto 6, 3) := by decide +kernel
theorem d_Model_reckon_64 : decode M_Model_reckon.2.1 64 = .ok (.iload_n 1, 1) := by decide +kernel
theorem d_Model_reckon_65 : decode M_Model_reckon.2.1 65 = .ok (.iload_n 2, 1) := by decide +kernel
theorem d_Model_reckon_66 : decode M_Model_reckon.2.1 66 = .ok (.idiv, 1) := by decide +kernel
theorem d_Model_reckon_67 : decode M_Model_reckon.2.1 67 = .ok (.ireturn, 1) := by decide +kernel
theorem d_Model_reckon_68 : decode M_Model_reckon.2.1 68 = .ok (.iload_n 1, 1) := by decide +kernel
theorem d_Model_reckon_69 : decode M_Model_reckon.2.1 69 = .ok (.iload_n 2, 1) := by decide +kernel
theorem d_Model_reckon_70 : decode M_Model_reckon.2.1 70 = .ok (.if_icmp .ge 7, 3) := by decide +kernel
theorem d_Model_reckon_73 : decode M_Model_reckon.2.1 73 = .ok (.iconst 1, 1) := by decide +kernel
theorem d_Model_reckon_74 : decode M_Model_reckon.2.1 74 = .ok (.goto 4, 3) := by decide +kernel
theorem d_Model_reckon_77 : decode M_Model_reckon.2.1 77 = .ok (.iconst 0, 1) := by decide +kernel
theorem d_Model_reckon_78 : decode M_Model_reckon.2.1 78 = .ok (.ireturn, 1) := by decide +kernel
theorem d_Model_reckon_79 : decode M_Model_reckon.2.1 79 = .ok (.iload_n 1, 1) := by decide +kernel
theorem d_Model_reckon_80 : decode M_Model_reckon.2.1 80 = .ok (.iload_n 2, 1) := by decide +kernel
theorem d_Model_reckon_81 : decode M_Model_reckon.2.1 81 = .ok (.if_icmp .ne 7, 3) := by decide +kernel
theorem d_Model_reckon_84 : decode M_Model_reckon.2.1 84 = .ok (.iconst 1, 1) := by decide +kernel
theorem d_Model_reckon_85 : decode M_Model_reckon.2.1 85 = .ok (.goto 4, 3) := by decide +kernel
theorem d_Model_reckon_88 : decode M_Model_reckon.2.1 88 = .ok (.iconst 0, 1) := by decide +kernel
theorem d_Model_reckon_89 : decode M_Model_reckon.2.1 89 = .ok (.ireturn, 1) := by decide +kernel
theorem d_Model_reckon_90 : decode M_Model_reckon.2.1 90 = .ok (.iload_n 1, 1) := by decide +kernel
theorem d_Model_reckon_91 : decode M_Model_reckon.2.1 91 = .ok (.ifCond .eq 11, 3) := by decide +kernel
theorem d_Model_reckon_94 : decode M_Model_reckon.2.1 94 = .ok (.iload_n 2, 1) := by decide +kernel
theorem d_Model_reckon_95 : decode M_Model_reckon.2.1 95 = .ok (.ifCond .eq 7, 3) := by decide +kernel
theorem d_Model_reckon_98 : decode M_Model_reckon.2.1 98 = .ok (.iconst 1, 1) := by decide +kernel
theorem d_Model_reckon_99 : decode M_Model_reckon.2.1 99 = .ok (.goto 4, 3) := by decide +kernel
theorem d_Model_reckon_102 : decode M_Model_reckon.2.1 102 = .ok (.iconst 0, 1) := by decide +kernel
theorem d_Model_reckon_103 : decode M_Model_reckon.2.1 103 = .ok (.ireturn, 1) := by decide +kernel
theorem d_Model_reckon_104 : decode M_Model_reckon.2.1 104 = .ok (.iload_n 1, 1) := by decide +kernel
theorem d_Model_reckon_105 : decode M_Model_reckon.2.1 105 = .ok (.ifCond .ne 7, 3) := by decide +kernel
theorem d_Model_reckon_108 : decode M_Model_reckon.2.1 108 = .ok (.iload_n 2, 1) := by decide +kernel
theorem d_Model_reckon_109 : decode M_Model_reckon.2.1 109 = .ok (.ifCond .eq 7, 3) := by decide +kernel
theorem d_Model_reckon_112 : decode M_Model_reckon.2.1 112 = .ok (.iconst 1, 1) := by decide +kernel
theorem d_Model_reckon_113 : decode M_Model_reckon.2.1 113 = .ok (.goto 4, 3) := by decide +kernel
theorem d_Model_reckon_116 : decode M_Model_reckon.2.1 116 = .ok (.iconst 0, 1) := by decide +kernel
theorem d_Model_reckon_117 : decode M_Model_reckon.2.1 117 = .ok (.ireturn, 1) := by decide +kernel
theorem d_Model_valueNow_0 : decode M_Model_valueNow.2.1 0 = .ok (.iconst 0, 1) := by decide +kernel
theorem d_Model_valueNow_1 : decode M_Model_valueNow.2.1 1 = .ok (.istore_n 1, 1) := by decide +kernel
theorem d_Model_valueNow_2 : decode M_Model_valueNow.2.1 2 = .ok (.iconst 0, 1) := by decide +kernel
theorem d_Model_valueNow_3 : decode M_Model_valueNow.2.1 3 = .ok (.istore_n 2, 1) := by decide +kernel
theorem d_Model_valueNow_4 : decode M_Model_valueNow.2.1 4 = .ok (.iload_n 2, 1) := by decide +kernel
theorem d_Model_valueNow_5 : decode M_Model_valueNow.2.1 5 = .ok (.aload_n 0, 1) := by decide +kernel
theorem d_Model_valueNow_6 : decode M_Model_valueNow.2.1 6 = .ok (.getfield 51, 3) := by decide +kernel
theorem d_Model_valueNow_9 : decode M_Model_valueNow.2.1 9 = .ok (.iconst 5, 1) := by decide +kernel
theorem d_Model_valueNow_10 : decode M_Model_valueNow.2.1 10 = .ok (.iaload, 1) := by decide +kernel
theorem d_Model_valueNow_11 : decode M_Model_valueNow.2.1 11 = .ok (.if_icmp .ge 112, 3) := by decide +kernel
theorem d_Model_valueNow_14 : decode M_Model_valueNow.2.1 14 = .ok (.aload_n 0, 1) := by decide +kernel
theorem d_Model_valueNow_15 : decode M_Model_valueNow.2.1 15 = .ok (.getfield 65, 3) := by decide +kernel
theorem d_Model_valueNow_18 : decode M_Model_valueNow.2.1 18 = .ok (.iload_n 2, 1) := by decide +kernel
theorem d_Model_valueNow_19 : decode M_Model_valueNow.2.1 19 = .ok (.iaload, 1) := by decide +kernel
theorem d_Model_valueNow_20 : decode M_Model_valueNow.2.1 20 = .ok (.istore_n 3, 1) := by decide +kernel
theorem d_Model_valueNow_21 : decode M_Model_valueNow.2.1 21 = .ok (.iload_n 3, 1) := by decide +kernel
theorem d_Model_valueNow_22 : decode M_Model_valueNow.2.1 22 = .ok (.bipush (-20), 2) := by decide +kernel
theorem d_Model_valueNow_24 : decode M_Model_valueNow.2.1 24 = .ok (.if_icmp .le 31, 3) := by decide +kernel
theorem d_Model_valueNow_27 : decode M_Model_valueNow.2.1 27 = .ok (.aload_n 0, 1) := by decide +kernel
theorem d_Model_valueNow_28 : decode M_Model_valueNow.2.1 28 = .ok (.getfield 87, 3) := by decide +kernel
theorem d_Model_valueNow_31 : decode M_Model_valueNow.2.1 31 = .ok (.iload_n 1, 1) := by decide +kernel
theorem d_Model_valueNow_32 : decode M_Model_valueNow.2.1 32 = .ok (.iload_n 3, 1) := by decide +kernel
theorem d_Model_valueNow_33 : decode M_Model_valueNow.2.1 33 = .ok (.ifCond .lt 7, 3) := by decide +kernel
theorem d_Model_valueNow_36 : decode M_Model_valueNow.2.1 36 = .ok (.iload_n 3, 1) := by decide +kernel
theorem d_Model_valueNow_37 : decode M_Model_valueNow.2.1 37 = .ok (.goto 11, 3) := by decide +kernel
theorem d_Model_valueNow_40 : decode M_Model_valueNow.2.1 40 = .ok (.aload_n 0, 1) := by decide +kernel
theorem d_Model_valueNow_41 : decode M_Model_valueNow.2.1 41 = .ok (.getfield 84, 3) := by decide +kernel
theorem d_Model_valueNow_44 : decode M_Model_valueNow.2.1 44 = .ok (.iconst (-1), 1) := by decide +kernel
theorem d_Model_valueNow_45 : decode M_Model_valueNow.2.1 45 = .ok (.iload_n 3, 1) := by decide +kernel
theorem d_Model_valueNow_46 : decode M_Model_valueNow.2.1 46 = .ok (.isub, 1) := by decide +kernel
theorem d_Model_valueNow_47 : decode M_Model_valueNow.2.1 47 = .ok (.iaload, 1) := by decide +kernel
theorem d_Model_valueNow_48 : decode M_Model_valueNow.2.1 48 = .ok (.iastore, 1) := by decide +kernel
theorem d_Model_valueNow_49 : decode M_Model_valueNow.2.1 49 = .ok (.iinc 1 1, 3) := by decide +kernel
theorem d_Model_valueNow_52 : decode M_Model_valueNow.2.1 52 = .ok (.goto 65, 3) := by decide +kernel
theorem d_Model_valueNow_55 : decode M_Model_valueNow.2.1 55 = .ok (.iload_n 3, 1) := by decide +kernel
theorem d_Model_valueNow_56 : decode M_Model_valueNow.2.1 56 = .ok (.bipush (-28), 2) := by decide +kernel
theorem d_Model_valueNow_58 : decode M_Model_valueNow.2.1 58 = .ok (.if_icmp .ne 30, 3) := by decide +kernel
theorem d_Model_valueNow_61 : decode M_Model_valueNow.2.1 61 = .ok (.aload_n 0, 1) := by decide +kernel
theorem d_Model_valueNow_62 : decode M_Model_valueNow.2.1 62 = .ok (.getfield 87, 3) := by decide +kernel
theorem d_Model_valueNow_65 : decode M_Model_valueNow.2.1 65 = .ok (.iload_n 1, 1) := by decide +kernel
theorem d_Model_valueNow_66 : decode M_Model_valueNow.2.1 66 = .ok (.iconst 1, 1) := by decide +kernel
theorem d_Model_valueNow_67 : decode M_Model_valueNow.2.1 67 = .ok (.isub, 1) := by decide +kernel
theorem d_Model_valueNow_68 : decode M_Model_valueNow.2.1 68 = .ok (.aload_n 0, 1) := by decide +kernel
theorem d_Model_valueNow_69 : decode M_Model_valueNow.2.1 69 = .ok (.getfield 87, 3) := by decide +kernel
theorem d_Model_valueNow_72 : decode M_Model_valueNow.2.1 72 = .ok (.iload_n 1, 1) := by decide +kernel
theorem d_Model_valueNow_73 : decode M_Model_valueNow.2.1 73 = .ok (.iconst 1, 1) := by decide +kernel
theorem d_Model_valueNow_74 : decode M_Model_valueNow.2.1 74 = .ok (.isub, 1) := by decide +kernel
theorem d_Model_valueNow_75 : decode M_Model_valueNow.2.1 75 = .ok (.iaload, 1) := by decide +kernel
theorem d_Model_valueNow_76 : decode M_Model_valueNow.2.1 76 = .ok (.ifCond .eq 7, 3) := by decide +kernel
theorem d_Model_valueNow_79 : decode M_Model_valueNow.2.1 79 = .ok (.iconst 0, 1) := by decide +kernel
theorem d_Model_valueNow_80 : decode M_Model_valueNow.2.1 80 = .ok (.goto 4, 3) := by decide +kernel
theorem d_Model_valueNow_83 : decode M_Model_valueNow.2.1 83 = .ok (.iconst 1, 1) := by decide +kernel
theorem d_Model_valueNow_84 : decode M_Model_valueNow.2.1 84 = .ok (.iastore, 1) := by decide +kernel
theorem d_Model_valueNow_85 : decode M_Model_valueNow.2.1 85 = .ok (.goto 32, 3) := by decide +kernel
theorem d_Model_valueNow_88 : decode M_Model_valueNow.2.1 88 = .ok (.iinc 1 (-1), 3) := by decide +kernel
theorem d_Model_valueNow_91 : decode M_Model_valueNow.2.1 91 = .ok (.aload_n 0, 1) := by decide +kernel
theorem d_Model_valueNow_92 : decode M_Model_valueNow.2.1 92 = .ok (.getfield 87, 3) := by decide +kernel
theorem d_Model_valueNow_95 : decode M_Model_valueNow.2.1 95 = .ok (.iload_n 1, 1) := by decide +kernel
theorem d_Model_valueNow_96 : decode M_Model_valueNow.2.1 96 = .ok (.iconst 1, 1) := by decide +kernel
theorem d_Model_valueNow_97 : decode M_Model_valueNow.2.1 97 = .ok (.isub, 1) := by decide +kernel
theorem d_Model_valueNow_98 : decode M_Model_valueNow.2.1 98 = .ok (.iload_n 3, 1) := by decide +kernel
theorem d_Model_valueNow_99 : decode M_Model_valueNow.2.1 99 = .ok (.aload_n 0, 1) := by decide +kernel
theorem d_Model_valueNow_100 : decode M_Model_valueNow.2.1 100 = .ok (.getfield 87, 3) := by decide +kernel
theorem d_Model_valueNow_103 : decode M_Model_valueNow.2.1 103 = .ok (.iload_n 1, 1) := by decide +kernel
theorem d_Model_valueNow_104 : decode M_Model_valueNow.2.1 104 = .ok (.iconst 1, 1) := by decide +kernel
theorem d_Model_valueNow_105 : decode M_Model_valueNow.2.1 105 = .ok (.isub, 1) := by decide +kernel
theorem d_Model_valueNow_106 : decode M_Model_valueNow.2.1 106 = .ok (.iaload, 1) := by decide +kernel
theorem d_Model_valueNow_107 : decode M_Model_valueNow.2.1 107 = .ok (.aload_n 0, 1) := by decide +kernel
theorem d_Model_valueNow_108 : decode M_Model_valueNow.2.1 108 = .ok (.getfield 87, 3) := by decide +kernel
theorem d_Model_valueNow_111 : decode M_Model_valueNow.2.1 111 = .ok (.iload_n 1, 1) := by decide +kernel
theorem d_Model_valueNow_112 : decode M_Model_valueNow.2.1 112 = .ok (.iaload, 1) := by decide +kernel
theorem d_Model_valueNow_113 : decode M_Model_valueNow.2.1 113 = .ok (.invokestatic 349, 3) := by decide +kernel
theorem d_Model_valueNow_116 : decode M_Model_valueNow.2.1 116 = .ok (.iastore, 1) := by decide +kernel
theorem d_Model_valueNow_117 : decode M_Model_valueNow.2.1 117 = .ok (.iinc 2 1, 3) := by decide +kernel
theorem d_Model_valueNow_120 : decode M_Model_valueNow.2.1 120 = .ok (.goto (-116), 3) := by decide +kernel
theorem d_Model_valueNow_123 : decode M_Model_valueNow.2.1 123 = .ok (.aload_n 0, 1) := by decide +kernel
theorem d_Model_valueNow_124 : decode M_Model_valueNow.2.1 124 = .ok (.getfield 87, 3) := by decide +kernel
theorem d_Model_valueNow_127 : decode M_Model_valueNow.2.1 127 = .ok (.iconst 0, 1) := by decide +kernel
theorem d_Model_valueNow_128 : decode M_Model_valueNow.2.1 128 = .ok (.iaload, 1) := by decide +kernel
theorem d_Model_valueNow_129 : decode M_Model_valueNow.2.1 129 = .ok (.ireturn, 1) := by decide +kernel
theorem d_Model_may_0 : decode M_Model_may.2.1 0 = .ok (.aload_n 0, 1) := by decide +kernel
theorem d_Model_may_1 : decode M_Model_may.2.1 1 = .ok (.iconst 0, 1) := by decide +kernel
theorem d_Model_may_2 : decode M_Model_may.2.1 2 = .ok (.putfield 114, 3) := by decide +kernel
theorem d_Model_may_5 : decode M_Model_may.2.1 5 = .ok (.aload_n 0, 1) := by decide +kernel
theorem d_Model_may_6 : decode M_Model_may.2.1 6 = .ok (.iload_n 1, 1) := by decide +kernel
theorem d_Model_may_7 : decode M_Model_may.2.1 7 = .ok (.invokevirtual 335, 3) := by decide +kernel
theorem d_Model_may_10 : decode M_Model_may.2.1 10 = .ok (.ifCond .eq 11, 3) := by decide +kernel
theorem d_Model_may_13 : decode M_Model_may.2.1 13 = .ok (.aload_n 0, 1) := by decide +kernel
theorem d_Model_may_14 : decode M_Model_may.2.1 14 = .ok (.iload_n 2, 1) := by decide +kernel
theorem d_Model_may_15 : decode M_Model_may.2.1 15 = .ok (.invokevirtual 341, 3) := by decide +kernel
theorem d_Model_may_18 : decode M_Model_may.2.1 18 = .ok (.ifCond .ne 9, 3) := by decide +kernel
theorem d_Model_may_21 : decode M_Model_may.2.1 21 = .ok (.aload_n 0, 1) := by decide +kernel
theorem d_Model_may_22 : decode M_Model_may.2.1 22 = .ok (.iconst 1, 1) := by decide +kernel
theorem d_Model_may_23 : decode M_Model_may.2.1 23 = .ok (.invokevirtual 353, 3) := by decide +kernel
theorem d_Model_may_26 : decode M_Model_may.2.1 26 = .ok (.ireturn, 1) := by decide +kernel
theorem d_Model_may_27 : decode M_Model_may.2.1 27 = .ok (.aload_n 0, 1) := by decide +kernel
theorem d_Model_may_28 : decode M_Model_may.2.1 28 = .ok (.iload_n 2, 1) := by decide +kernel
theorem d_Model_may_29 : decode M_Model_may.2.1 29 = .ok (.iconst 1, 1) := by decide +kernel
theorem d_Model_may_30 : decode M_Model_may.2.1 30 = .ok (.invokevirtual 305, 3) := by decide +kernel
theorem d_Model_may_33 : decode M_Model_may.2.1 33 = .ok (.istore_n 3, 1) := by decide +kernel
theorem d_Model_may_34 : decode M_Model_may.2.1 34 = .ok (.aload_n 0, 1) := by decide +kernel
theorem d_Model_may_35 : decode M_Model_may.2.1 35 = .ok (.iload_n 2, 1) := by decide +kernel
theorem d_Model_may_36 : decode M_Model_may.2.1 36 = .ok (.invokevirtual 315, 3) := by decide +kernel
theorem d_Model_may_39 : decode M_Model_may.2.1 39 = .ok (.ifCond .eq 13, 3) := by decide +kernel
theorem d_Model_may_42 : decode M_Model_may.2.1 42 = .ok (.aload_n 0, 1) := by decide +kernel
theorem d_Model_may_43 : decode M_Model_may.2.1 43 = .ok (.getfield 55, 3) := by decide +kernel
theorem d_Model_may_46 : decode M_Model_may.2.1 46 = .ok (.iload_n 3, 1) := by decide +kernel
theorem d_Model_may_47 : decode M_Model_may.2.1 47 = .ok (.iaload, 1) := by decide +kernel
theorem d_Model_may_48 : decode M_Model_may.2.1 48 = .ok (.iconst 3, 1) := by decide +kernel
theorem d_Model_may_49 : decode M_Model_may.2.1 49 = .ok (.if_icmp .ne 22, 3) := by decide +kernel
theorem d_Model_may_52 : decode M_Model_may.2.1 52 = .ok (.aload_n 0, 1) := by decide +kernel
theorem d_Model_may_53 : decode M_Model_may.2.1 53 = .ok (.iload_n 2, 1) := by decide +kernel
theorem d_Model_may_54 : decode M_Model_may.2.1 54 = .ok (.invokevirtual 315, 3) := by decide +kernel
theorem d_Model_may_57 : decode M_Model_may.2.1 57 = .ok (.ifCond .eq 12, 3) := by decide +kernel
theorem d_Model_may_60 : decode M_Model_may.2.1 60 = .ok (.iload_n 3, 1) := by decide +kernel
theorem d_Model_may_61 : decode M_Model_may.2.1 61 = .ok (.iload_n 1, 1) := by decide +kernel
theorem d_Model_may_62 : decode M_Model_may.2.1 62 = .ok (.if_icmp .ne 7, 3) := by decide +kernel
theorem d_Model_may_65 : decode M_Model_may.2.1 65 = .ok (.iconst 1, 1) := by decide +kernel
theorem d_Model_may_66 : decode M_Model_may.2.1 66 = .ok (.goto 4, 3) := by decide +kernel
theorem d_Model_may_69 : decode M_Model_may.2.1 69 = .ok (.iconst 0, 1) := by decide +kernel
theorem d_Model_may_70 : decode M_Model_may.2.1 70 = .ok (.ireturn, 1) := by decide +kernel
theorem d_Model_may_71 : decode M_Model_may.2.1 71 = .ok (.aload_n 0, 1) := by decide +kernel
theorem d_Model_may_72 : decode M_Model_may.2.1 72 = .ok (.getfield 51, 3) := by decide +kernel
theorem d_Model_may_75 : decode M_Model_may.2.1 75 = .ok (.iconst 5, 1) := by decide +kernel
theorem d_Model_may_76 : decode M_Model_may.2.1 76 = .ok (.iaload, 1) := by decide +kernel
theorem d_Model_may_77 : decode M_Model_may.2.1 77 = .ok (.ifCond .ne 22, 3) := by decide +kernel
theorem d_Model_may_80 : decode M_Model_may.2.1 80 = .ok (.iload_n 3, 1) := by decide +kernel
theorem d_Model_may_81 : decode M_Model_may.2.1 81 = .ok (.iload_n 1, 1) := by decide +kernel
theorem d_Model_may_82 : decode M_Model_may.2.1 82 = .ok (.if_icmp .eq 11, 3) := by decide +kernel
theorem d_Model_may_85 : decode M_Model_may.2.1 85 = .ok (.aload_n 0, 1) := by decide +kernel
theorem d_Model_may_86 : decode M_Model_may.2.1 86 = .ok (.iload_n 3, 1) := by decide +kernel
theorem d_Model_may_87 : decode M_Model_may.2.1 87 = .ok (.invokevirtual 338, 3) := by decide +kernel
theorem d_Model_may_90 : decode M_Model_may.2.1 90 = .ok (.ifCond .ne 7, 3) := by decide +kernel
theorem d_Model_may_93 : decode M_Model_may.2.1 93 = .ok (.iconst 1, 1) := by decide +kernel
theorem d_Model_may_94 : decode M_Model_may.2.1 94 = .ok (.goto 4, 3) := by decide +kernel
theorem d_Model_may_97 : decode M_Model_may.2.1 97 = .ok (.iconst 0, 1) := by decide +kernel
theorem d_Model_may_98 : decode M_Model_may.2.1 98 = .ok (.ireturn, 1) := by decide +kernel
theorem d_Model_may_99 : decode M_Model_may.2.1 99 = .ok (.aload_n 0, 1) := by decide +kernel
theorem d_Model_may_100 : decode M_Model_may.2.1 100 = .ok (.getfield 84, 3) := by decide +kernel
theorem d_Model_may_103 : decode M_Model_may.2.1 103 = .ok (.iconst 0, 1) := by decide +kernel
theorem d_Model_may_104 : decode M_Model_may.2.1 104 = .ok (.aload_n 0, 1) := by decide +kernel
theorem d_Model_may_105 : decode M_Model_may.2.1 105 = .ok (.iload_n 2, 1) := by decide +kernel
theorem d_Model_may_106 : decode M_Model_may.2.1 106 = .ok (.iconst 0, 1) := by decide +kernel
theorem d_Model_may_107 : decode M_Model_may.2.1 107 = .ok (.invokevirtual 305, 3) := by decide +kernel
theorem d_Model_may_110 : decode M_Model_may.2.1 110 = .ok (.iastore, 1) := by decide +kernel
theorem d_Model_may_111 : decode M_Model_may.2.1 111 = .ok (.aload_n 0, 1) := by decide +kernel
theorem d_Model_may_112 : decode M_Model_may.2.1 112 = .ok (.getfield 84, 3) := by decide +kernel
theorem d_Model_may_115 : decode M_Model_may.2.1 115 = .ok (.iconst 1, 1) := by decide +kernel
theorem d_Model_may_116 : decode M_Model_may.2.1 116 = .ok (.aload_n 0, 1) := by decide +kernel
theorem d_Model_may_117 : decode M_Model_may.2.1 117 = .ok (.iload_n 2, 1) := by decide +kernel
theorem d_Model_may_118 : decode M_Model_may.2.1 118 = .ok (.iconst 5, 1) := by decide +kernel
theorem d_Model_may_119 : decode M_Model_may.2.1 119 = .ok (.invokevirtual 305, 3) := by decide +kernel
theorem d_Model_may_122 : decode M_Model_may.2.1 122 = .ok (.iastore, 1) := by decide +kernel
theorem d_Model_may_123 : decode M_Model_may.2.1 123 = .ok (.aload_n 0, 1) := by decide +kernel
theorem d_Model_may_124 : decode M_Model_may.2.1 124 = .ok (.getfield 84, 3) := by decide +kernel
theorem d_Model_may_127 : decode M_Model_may.2.1 127 = .ok (.iconst 2, 1) := by decide +kernel
theorem d_Model_may_128 : decode M_Model_may.2.1 128 = .ok (.aload_n 0, 1) := by decide +kernel
theorem d_Model_may_129 : decode M_Model_may.2.1 129 = .ok (.iload_n 2, 1) := by decide +kernel
theorem d_Model_may_130 : decode M_Model_may.2.1 130 = .ok (.iconst 3, 1) := by decide +kernel
theorem d_Model_may_131 : decode M_Model_may.2.1 131 = .ok (.invokevirtual 305, 3) := by decide +kernel
theorem d_Model_may_134 : decode M_Model_may.2.1 134 = .ok (.iastore, 1) := by decide +kernel
theorem d_Model_may_135 : decode M_Model_may.2.1 135 = .ok (.aload_n 0, 1) := by decide +kernel
theorem d_Model_may_136 : decode M_Model_may.2.1 136 = .ok (.getfield 84, 3) := by decide +kernel
theorem d_Model_may_139 : decode M_Model_may.2.1 139 = .ok (.iconst 3, 1) := by decide +kernel
theorem d_Model_may_140 : decode M_Model_may.2.1 140 = .ok (.aload_n 0, 1) := by decide +kernel
theorem d_Model_may_141 : decode M_Model_may.2.1 141 = .ok (.iload_n 2, 1) := by decide +kernel
theorem d_Model_may_142 : decode M_Model_may.2.1 142 = .ok (.invokevirtual 318, 3) := by decide +kernel
theorem d_Model_may_145 : decode M_Model_may.2.1 145 = .ok (.iastore, 1) := by decide +kernel
theorem d_Model_may_146 : decode M_Model_may.2.1 146 = .ok (.aload_n 0, 1) := by decide +kernel
theorem d_Model_may_147 : decode M_Model_may.2.1 147 = .ok (.getfield 84, 3) := by decide +kernel
theorem d_Model_may_150 : decode M_Model_may.2.1 150 = .ok (.iconst 4, 1) := by decide +kernel
theorem d_Model_may_151 : decode M_Model_may.2.1 151 = .ok (.aload_n 0, 1) := by decide +kernel
theorem d_Model_may_152 : decode M_Model_may.2.1 152 = .ok (.iload_n 3, 1) := by decide +kernel
theorem d_Model_may_153 : decode M_Model_may.2.1 153 = .ok (.invokevirtual 338, 3) := by decide +kernel
theorem d_Model_may_156 : decode M_Model_may.2.1 156 = .ok (.ifCond .eq 7, 3) := by decide +kernel
theorem d_Model_may_159 : decode M_Model_may.2.1 159 = .ok (.iconst 1, 1) := by decide +kernel
theorem d_Model_may_160 : decode M_Model_may.2.1 160 = .ok (.goto 4, 3) := by decide +kernel
theorem d_Model_may_163 : decode M_Model_may.2.1 163 = .ok (.iconst 0, 1) := by decide +kernel
theorem d_Model_may_164 : decode M_Model_may.2.1 164 = .ok (.iastore, 1) := by decide +kernel
theorem d_Model_may_165 : decode M_Model_may.2.1 165 = .ok (.aload_n 0, 1) := by decide +kernel
theorem d_Model_may_166 : decode M_Model_may.2.1 166 = .ok (.getfield 84, 3) := by decide +kernel
theorem d_Model_may_169 : decode M_Model_may.2.1 169 = .ok (.iconst 5, 1) := by decide +kernel
theorem d_Model_may_170 : decode M_Model_may.2.1 170 = .ok (.iload_n 3, 1) := by decide +kernel
theorem d_Model_may_171 : decode M_Model_may.2.1 171 = .ok (.iload_n 1, 1) := by decide +kernel
theorem d_Model_may_172 : decode M_Model_may.2.1 172 = .ok (.if_icmp .ne 7, 3) := by decide +kernel
theorem d_Model_may_175 : decode M_Model_may.2.1 175 = .ok (.iconst 1, 1) := by decide +kernel
theorem d_Model_may_176 : decode M_Model_may.2.1 176 = .ok (.goto 4, 3) := by decide +kernel
theorem d_Model_may_179 : decode M_Model_may.2.1 179 = .ok (.iconst 0, 1) := by decide +kernel
theorem d_Model_may_180 : decode M_Model_may.2.1 180 = .ok (.iastore, 1) := by decide +kernel
theorem d_Model_may_181 : decode M_Model_may.2.1 181 = .ok (.aload_n 0, 1) := by decide +kernel
theorem d_Model_may_182 : decode M_Model_may.2.1 182 = .ok (.getfield 84, 3) := by decide +kernel
theorem d_Model_may_185 : decode M_Model_may.2.1 185 = .ok (.bipush 6, 2) := by decide +kernel
theorem d_Model_may_187 : decode M_Model_may.2.1 187 = .ok (.aload_n 0, 1) := by decide +kernel
theorem d_Model_may_188 : decode M_Model_may.2.1 188 = .ok (.iload_n 1, 1) := by decide +kernel
theorem d_Model_may_189 : decode M_Model_may.2.1 189 = .ok (.invokevirtual 323, 3) := by decide +kernel
theorem d_Model_may_192 : decode M_Model_may.2.1 192 = .ok (.iastore, 1) := by decide +kernel
theorem d_Model_may_193 : decode M_Model_may.2.1 193 = .ok (.aload_n 0, 1) := by decide +kernel
theorem d_Model_may_194 : decode M_Model_may.2.1 194 = .ok (.invokevirtual 356, 3) := by decide +kernel
theorem d_Model_may_197 : decode M_Model_may.2.1 197 = .ok (.ifCond .eq 7, 3) := by decide +kernel
theorem d_Model_may_200 : decode M_Model_may.2.1 200 = .ok (.iconst 1, 1) := by decide +kernel
theorem d_Model_may_201 : decode M_Model_may.2.1 201 = .ok (.goto 4, 3) := by decide +kernel
theorem d_Model_may_204 : decode M_Model_may.2.1 204 = .ok (.iconst 0, 1) := by decide +kernel
theorem d_Model_may_205 : decode M_Model_may.2.1 205 = .ok (.ireturn, 1) := by decide +kernel
theorem d_Model_refuse_0 : decode M_Model_refuse.2.1 0 = .ok (.aload_n 0, 1) := by decide +kernel
theorem d_Model_refuse_1 : decode M_Model_refuse.2.1 1 = .ok (.getfield 68, 3) := by decide +kernel
theorem d_Model_refuse_4 : decode M_Model_refuse.2.1 4 = .ok (.iload_n 1, 1) := by decide +kernel
theorem d_Model_refuse_5 : decode M_Model_refuse.2.1 5 = .ok (.dup2, 1) := by decide +kernel
theorem d_Model_refuse_6 : decode M_Model_refuse.2.1 6 = .ok (.iaload, 1) := by decide +kernel
theorem d_Model_refuse_7 : decode M_Model_refuse.2.1 7 = .ok (.iconst 1, 1) := by decide +kernel
theorem d_Model_refuse_8 : decode M_Model_refuse.2.1 8 = .ok (.iadd, 1) := by decide +kernel
theorem d_Model_refuse_9 : decode M_Model_refuse.2.1 9 = .ok (.iastore, 1) := by decide +kernel
theorem d_Model_refuse_10 : decode M_Model_refuse.2.1 10 = .ok (.iconst (-1), 1) := by decide +kernel
theorem d_Model_refuse_11 : decode M_Model_refuse.2.1 11 = .ok (.ireturn, 1) := by decide +kernel
theorem d_Model_keep_0 : decode M_Model_keep.2.1 0 = .ok (.aload_n 0, 1) := by decide +kernel
theorem d_Model_keep_1 : decode M_Model_keep.2.1 1 = .ok (.getfield 295, 3) := by decide +kernel
theorem d_Model_keep_4 : decode M_Model_keep.2.1 4 = .ok (.bipush 40, 2) := by decide +kernel
theorem d_Model_keep_6 : decode M_Model_keep.2.1 6 = .ok (.if_icmp .ne 48, 3) := by decide +kernel
theorem d_Model_keep_9 : decode M_Model_keep.2.1 9 = .ok (.sipush 231, 3) := by decide +kernel
theorem d_Model_keep_12 : decode M_Model_keep.2.1 12 = .ok (.istore_n 1, 1) := by decide +kernel
theorem d_Model_keep_13 : decode M_Model_keep.2.1 13 = .ok (.iload_n 1, 1) := by decide +kernel
theorem d_Model_keep_14 : decode M_Model_keep.2.1 14 = .ok (.aload_n 0, 1) := by decide +kernel
theorem d_Model_keep_15 : decode M_Model_keep.2.1 15 = .ok (.getfield 81, 3) := by decide +kernel
theorem d_Model_keep_18 : decode M_Model_keep.2.1 18 = .ok (.arraylength, 1) := by decide +kernel
theorem d_Model_keep_19 : decode M_Model_keep.2.1 19 = .ok (.if_icmp .ge 25, 3) := by decide +kernel
theorem d_Model_keep_22 : decode M_Model_keep.2.1 22 = .ok (.aload_n 0, 1) := by decide +kernel
theorem d_Model_keep_23 : decode M_Model_keep.2.1 23 = .ok (.getfield 81, 3) := by decide +kernel
theorem d_Model_keep_26 : decode M_Model_keep.2.1 26 = .ok (.iload_n 1, 1) := by decide +kernel
theorem d_Model_keep_27 : decode M_Model_keep.2.1 27 = .ok (.sipush 231, 3) := by decide +kernel
theorem d_Model_keep_30 : decode M_Model_keep.2.1 30 = .ok (.isub, 1) := by decide +kernel
theorem d_Model_keep_31 : decode M_Model_keep.2.1 31 = .ok (.aload_n 0, 1) := by decide +kernel
theorem d_Model_keep_32 : decode M_Model_keep.2.1 32 = .ok (.getfield 81, 3) := by decide +kernel
theorem d_Model_keep_35 : decode M_Model_keep.2.1 35 = .ok (.iload_n 1, 1) := by decide +kernel
theorem d_Model_keep_36 : decode M_Model_keep.2.1 36 = .ok (.iaload, 1) := by decide +kernel
theorem d_Model_keep_37 : decode M_Model_keep.2.1 37 = .ok (.iastore, 1) := by decide +kernel
theorem d_Model_keep_38 : decode M_Model_keep.2.1 38 = .ok (.iinc 1 1, 3) := by decide +kernel
theorem d_Model_keep_41 : decode M_Model_keep.2.1 41 = .ok (.goto (-28), 3) := by decide +kernel
theorem d_Model_keep_44 : decode M_Model_keep.2.1 44 = .ok (.aload_n 0, 1) := by decide +kernel
theorem d_Model_keep_45 : decode M_Model_keep.2.1 45 = .ok (.dup, 1) := by decide +kernel
theorem d_Model_keep_46 : decode M_Model_keep.2.1 46 = .ok (.getfield 295, 3) := by decide +kernel
theorem d_Model_keep_49 : decode M_Model_keep.2.1 49 = .ok (.iconst 1, 1) := by decide +kernel
theorem d_Model_keep_50 : decode M_Model_keep.2.1 50 = .ok (.isub, 1) := by decide +kernel
theorem d_Model_keep_51 : decode M_Model_keep.2.1 51 = .ok (.putfield 295, 3) := by decide +kernel
theorem d_Model_keep_54 : decode M_Model_keep.2.1 54 = .ok (.aload_n 0, 1) := by decide +kernel
theorem d_Model_keep_55 : decode M_Model_keep.2.1 55 = .ok (.aload_n 0, 1) := by decide +kernel
theorem d_Model_keep_56 : decode M_Model_keep.2.1 56 = .ok (.getfield 81, 3) := by decide +kernel
theorem d_Model_keep_59 : decode M_Model_keep.2.1 59 = .ok (.sipush 231, 3) := by decide +kernel
theorem d_Model_keep_62 : decode M_Model_keep.2.1 62 = .ok (.aload_n 0, 1) := by decide +kernel
theorem d_Model_keep_63 : decode M_Model_keep.2.1 63 = .ok (.getfield 295, 3) := by decide +kernel
theorem d_Model_keep_66 : decode M_Model_keep.2.1 66 = .ok (.imul, 1) := by decide +kernel
theorem d_Model_keep_67 : decode M_Model_keep.2.1 67 = .ok (.invokevirtual 359, 3) := by decide +kernel
theorem d_Model_keep_70 : decode M_Model_keep.2.1 70 = .ok (.aload_n 0, 1) := by decide +kernel
theorem d_Model_keep_71 : decode M_Model_keep.2.1 71 = .ok (.dup, 1) := by decide +kernel
theorem d_Model_keep_72 : decode M_Model_keep.2.1 72 = .ok (.getfield 295, 3) := by decide +kernel
theorem d_Model_keep_75 : decode M_Model_keep.2.1 75 = .ok (.iconst 1, 1) := by decide +kernel
theorem d_Model_keep_76 : decode M_Model_keep.2.1 76 = .ok (.iadd, 1) := by decide +kernel
theorem d_Model_keep_77 : decode M_Model_keep.2.1 77 = .ok (.putfield 295, 3) := by decide +kernel
theorem d_Model_keep_80 : decode M_Model_keep.2.1 80 = .ok (.return_, 1) := by decide +kernel
theorem d_Model_years_0 : decode M_Model_years.2.1 0 = .ok (.aload_n 0, 1) := by decide +kernel
theorem d_Model_years_1 : decode M_Model_years.2.1 1 = .ok (.iconst 0, 1) := by decide +kernel
theorem d_Model_years_2 : decode M_Model_years.2.1 2 = .ok (.putfield 114, 3) := by decide +kernel
theorem d_Model_years_5 : decode M_Model_years.2.1 5 = .ok (.iload_n 1, 1) := by decide +kernel
theorem d_Model_years_6 : decode M_Model_years.2.1 6 = .ok (.i2l, 1) := by decide +kernel
theorem d_Model_years_7 : decode M_Model_years.2.1 7 = .ok (.lconst 1, 1) := by decide +kernel
theorem d_Model_years_8 : decode M_Model_years.2.1 8 = .ok (.ldc2_w 363, 3) := by decide +kernel
theorem d_Model_years_11 : decode M_Model_years.2.1 11 = .ok (.invokestatic 117, 3) := by decide +kernel
theorem d_Model_years_14 : decode M_Model_years.2.1 14 = .ok (.ifCond .eq 15, 3) := by decide +kernel
theorem d_Model_years_17 : decode M_Model_years.2.1 17 = .ok (.aload_n 0, 1) := by decide +kernel
theorem d_Model_years_18 : decode M_Model_years.2.1 18 = .ok (.getfield 286, 3) := by decide +kernel
theorem d_Model_years_21 : decode M_Model_years.2.1 21 = .ok (.iload_n 1, 1) := by decide +kernel
theorem d_Model_years_22 : decode M_Model_years.2.1 22 = .ok (.iadd, 1) := by decide +kernel
theorem d_Model_years_23 : decode M_Model_years.2.1 23 = .ok (.sipush 999, 3) := by decide +kernel
theorem d_Model_years_26 : decode M_Model_years.2.1 26 = .ok (.if_icmp .le 9, 3) := by decide +kernel
theorem d_Model_years_29 : decode M_Model_years.2.1 29 = .ok (.aload_n 0, 1) := by decide +kernel
theorem d_Model_years_30 : decode M_Model_years.2.1 30 = .ok (.iconst 1, 1) := by decide +kernel
theorem d_Model_years_31 : decode M_Model_years.2.1 31 = .ok (.invokevirtual 365, 3) := by decide +kernel
theorem d_Model_years_34 : decode M_Model_years.2.1 34 = .ok (.ireturn, 1) := by decide +kernel
theorem d_Model_years_35 : decode M_Model_years.2.1 35 = .ok (.aload_n 0, 1) := by decide +kernel
theorem d_Model_years_36 : decode M_Model_years.2.1 36 = .ok (.invokevirtual 368, 3) := by decide +kernel
theorem d_Model_years_39 : decode M_Model_years.2.1 39 = .ok (.iconst 0, 1) := by decide +kernel
theorem d_Model_years_40 : decode M_Model_years.2.1 40 = .ok (.istore_n 2, 1) := by decide +kernel
theorem d_Model_years_41 : decode M_Model_years.2.1 41 = .ok (.iload_n 2, 1) := by decide +kernel
theorem d_Model_years_42 : decode M_Model_years.2.1 42 = .ok (.iload_n 1, 1) := by decide +kernel
theorem d_Model_years_43 : decode M_Model_years.2.1 43 = .ok (.if_icmp .ge 13, 3) := by decide +kernel
theorem d_Model_years_46 : decode M_Model_years.2.1 46 = .ok (.aload_n 0, 1) := by decide +kernel
theorem d_Model_years_47 : decode M_Model_years.2.1 47 = .ok (.invokevirtual 371, 3) := by decide +kernel
theorem d_Model_years_50 : decode M_Model_years.2.1 50 = .ok (.iinc 2 1, 3) := by decide +kernel
theorem d_Model_years_53 : decode M_Model_years.2.1 53 = .ok (.goto (-12), 3) := by decide +kernel
theorem d_Model_years_56 : decode M_Model_years.2.1 56 = .ok (.aload_n 0, 1) := by decide +kernel
theorem d_Model_years_57 : decode M_Model_years.2.1 57 = .ok (.getfield 286, 3) := by decide +kernel
theorem d_Model_years_60 : decode M_Model_years.2.1 60 = .ok (.ireturn, 1) := by decide +kernel
theorem d_Model_putEntry_0 : decode M_Model_putEntry.2.1 0 = .ok (.bipush 9, 2) := by decide +kernel
theorem d_Model_putEntry_2 : decode M_Model_putEntry.2.1 2 = .ok (.aload_n 0, 1) := by decide +kernel
theorem d_Model_putEntry_3 : decode M_Model_putEntry.2.1 3 = .ok (.getfield 121, 3) := by decide +kernel
theorem d_Model_putEntry_6 : decode M_Model_putEntry.2.1 6 = .ok (.imul, 1) := by decide +kernel
theorem d_Model_putEntry_7 : decode M_Model_putEntry.2.1 7 = .ok (.istore 7, 2) := by decide +kernel
theorem d_Model_putEntry_9 : decode M_Model_putEntry.2.1 9 = .ok (.aload_n 0, 1) := by decide +kernel
theorem d_Model_putEntry_10 : decode M_Model_putEntry.2.1 10 = .ok (.getfield 62, 3) := by decide +kernel
theorem d_Model_putEntry_13 : decode M_Model_putEntry.2.1 13 = .ok (.iload 7, 2) := by decide +kernel
theorem d_Model_putEntry_15 : decode M_Model_putEntry.2.1 15 = .ok (.iconst 0, 1) := by decide +kernel
theorem d_Model_putEntry_16 : decode M_Model_putEntry.2.1 16 = .ok (.iadd, 1) := by decide +kernel
theorem d_Model_putEntry_17 : decode M_Model_putEntry.2.1 17 = .ok (.iload_n 1, 1) := by decide +kernel
theorem d_Model_putEntry_18 : decode M_Model_putEntry.2.1 18 = .ok (.iastore, 1) := by decide +kernel
theorem d_Model_putEntry_19 : decode M_Model_putEntry.2.1 19 = .ok (.aload_n 0, 1) := by decide +kernel
theorem d_Model_putEntry_20 : decode M_Model_putEntry.2.1 20 = .ok (.getfield 62, 3) := by decide +kernel
theorem d_Model_putEntry_23 : decode M_Model_putEntry.2.1 23 = .ok (.iload 7, 2) := by decide +kernel
theorem d_Model_putEntry_25 : decode M_Model_putEntry.2.1 25 = .ok (.iconst 1, 1) := by decide +kernel
theorem d_Model_putEntry_26 : decode M_Model_putEntry.2.1 26 = .ok (.iadd, 1) := by decide +kernel
theorem d_Model_putEntry_27 : decode M_Model_putEntry.2.1 27 = .ok (.iload_n 2, 1) := by decide +kernel
theorem d_Model_putEntry_28 : decode M_Model_putEntry.2.1 28 = .ok (.iastore, 1) := by decide +kernel
theorem d_Model_putEntry_29 : decode M_Model_putEntry.2.1 29 = .ok (.aload_n 0, 1) := by decide +kernel
theorem d_Model_putEntry_30 : decode M_Model_putEntry.2.1 30 = .ok (.getfield 62, 3) := by decide +kernel
theorem d_Model_putEntry_33 : decode M_Model_putEntry.2.1 33 = .ok (.iload 7, 2) := by decide +kernel
theorem d_Model_putEntry_35 : decode M_Model_putEntry.2.1 35 = .ok (.iconst 2, 1) := by decide +kernel
theorem d_Model_putEntry_36 : decode M_Model_putEntry.2.1 36 = .ok (.iadd, 1) := by decide +kernel
theorem d_Model_putEntry_37 : decode M_Model_putEntry.2.1 37 = .ok (.aload_n 0, 1) := by decide +kernel
theorem d_Model_putEntry_38 : decode M_Model_putEntry.2.1 38 = .ok (.getfield 286, 3) := by decide +kernel
theorem d_Model_putEntry_41 : decode M_Model_putEntry.2.1 41 = .ok (.iastore, 1) := by decide +kernel
theorem d_Model_putEntry_42 : decode M_Model_putEntry.2.1 42 = .ok (.aload_n 0, 1) := by decide +kernel
theorem d_Model_putEntry_43 : decode M_Model_putEntry.2.1 43 = .ok (.getfield 62, 3) := by decide +kernel
theorem d_Model_putEntry_46 : decode M_Model_putEntry.2.1 46 = .ok (.iload 7, 2) := by decide +kernel
theorem d_Model_putEntry_48 : decode M_Model_putEntry.2.1 48 = .ok (.iconst 3, 1) := by decide +kernel
theorem d_Model_putEntry_49 : decode M_Model_putEntry.2.1 49 = .ok (.iadd, 1) := by decide +kernel
theorem d_Model_putEntry_50 : decode M_Model_putEntry.2.1 50 = .ok (.iload_n 3, 1) := by decide +kernel
theorem d_Model_putEntry_51 : decode M_Model_putEntry.2.1 51 = .ok (.iastore, 1) := by decide +kernel
theorem d_Model_putEntry_52 : decode M_Model_putEntry.2.1 52 = .ok (.aload_n 0, 1) := by decide +kernel
theorem d_Model_putEntry_53 : decode M_Model_putEntry.2.1 53 = .ok (.getfield 62, 3) := by decide +kernel
theorem d_Model_putEntry_56 : decode M_Model_putEntry.2.1 56 = .ok (.iload 7, 2) := by decide +kernel
theorem d_Model_putEntry_58 : decode M_Model_putEntry.2.1 58 = .ok (.iconst 4, 1) := by decide +kernel
theorem d_Model_putEntry_59 : decode M_Model_putEntry.2.1 59 = .ok (.iadd, 1) := by decide +kernel
theorem d_Model_putEntry_60 : decode M_Model_putEntry.2.1 60 = .ok (.iload 4, 2) := by decide +kernel
theorem d_Model_putEntry_62 : decode M_Model_putEntry.2.1 62 = .ok (.iastore, 1) := by decide +kernel
theorem d_Model_putEntry_63 : decode M_Model_putEntry.2.1 63 = .ok (.aload_n 0, 1) := by decide +kernel
theorem d_Model_putEntry_64 : decode M_Model_putEntry.2.1 64 = .ok (.getfield 62, 3) := by decide +kernel
theorem d_Model_putEntry_67 : decode M_Model_putEntry.2.1 67 = .ok (.iload 7, 2) := by decide +kernel
theorem d_Model_putEntry_69 : decode M_Model_putEntry.2.1 69 = .ok (.iconst 5, 1) := by decide +kernel
theorem d_Model_putEntry_70 : decode M_Model_putEntry.2.1 70 = .ok (.iadd, 1) := by decide +kernel
theorem d_Model_putEntry_71 : decode M_Model_putEntry.2.1 71 = .ok (.iload 5, 2) := by decide +kernel
theorem d_Model_putEntry_73 : decode M_Model_putEntry.2.1 73 = .ok (.iastore, 1) := by decide +kernel
theorem d_Model_putEntry_74 : decode M_Model_putEntry.2.1 74 = .ok (.aload_n 0, 1) := by decide +kernel
theorem d_Model_putEntry_75 : decode M_Model_putEntry.2.1 75 = .ok (.getfield 62, 3) := by decide +kernel
theorem d_Model_putEntry_78 : decode M_Model_putEntry.2.1 78 = .ok (.iload 7, 2) := by decide +kernel
theorem d_Model_putEntry_80 : decode M_Model_putEntry.2.1 80 = .ok (.bipush 6, 2) := by decide +kernel
theorem d_Model_putEntry_82 : decode M_Model_putEntry.2.1 82 = .ok (.iadd, 1) := by decide +kernel
theorem d_Model_putEntry_83 : decode M_Model_putEntry.2.1 83 = .ok (.iconst 0, 1) := by decide +kernel
theorem d_Model_putEntry_84 : decode M_Model_putEntry.2.1 84 = .ok (.iastore, 1) := by decide +kernel
theorem d_Model_putEntry_85 : decode M_Model_putEntry.2.1 85 = .ok (.aload_n 0, 1) := by decide +kernel
theorem d_Model_putEntry_86 : decode M_Model_putEntry.2.1 86 = .ok (.getfield 62, 3) := by decide +kernel
theorem d_Model_putEntry_89 : decode M_Model_putEntry.2.1 89 = .ok (.iload 7, 2) := by decide +kernel
theorem d_Model_putEntry_91 : decode M_Model_putEntry.2.1 91 = .ok (.bipush 7, 2) := by decide +kernel
theorem d_Model_putEntry_93 : decode M_Model_putEntry.2.1 93 = .ok (.iadd, 1) := by decide +kernel
theorem d_Model_putEntry_94 : decode M_Model_putEntry.2.1 94 = .ok (.iload 6, 2) := by decide +kernel
theorem d_Model_putEntry_96 : decode M_Model_putEntry.2.1 96 = .ok (.iastore, 1) := by decide +kernel
theorem d_Model_putEntry_97 : decode M_Model_putEntry.2.1 97 = .ok (.aload_n 0, 1) := by decide +kernel
theorem d_Model_putEntry_98 : decode M_Model_putEntry.2.1 98 = .ok (.getfield 62, 3) := by decide +kernel
theorem d_Model_putEntry_101 : decode M_Model_putEntry.2.1 101 = .ok (.iload 7, 2) := by decide +kernel
theorem d_Model_putEntry_103 : decode M_Model_putEntry.2.1 103 = .ok (.bipush 8, 2) := by decide +kernel
theorem d_Model_putEntry_105 : decode M_Model_putEntry.2.1 105 = .ok (.iadd, 1) := by decide +kernel
theorem d_Model_putEntry_106 : decode M_Model_putEntry.2.1 106 = .ok (.iconst 0, 1) := by decide +kernel
theorem d_Model_putEntry_107 : decode M_Model_putEntry.2.1 107 = .ok (.iastore, 1) := by decide +kernel
theorem d_Model_putEntry_108 : decode M_Model_putEntry.2.1 108 = .ok (.aload_n 0, 1) := by decide +kernel
theorem d_Model_putEntry_109 : decode M_Model_putEntry.2.1 109 = .ok (.dup, 1) := by decide +kernel
theorem d_Model_putEntry_110 : decode M_Model_putEntry.2.1 110 = .ok (.getfield 121, 3) := by decide +kernel
theorem d_Model_putEntry_113 : decode M_Model_putEntry.2.1 113 = .ok (.iconst 1, 1) := by decide +kernel
theorem d_Model_putEntry_114 : decode M_Model_putEntry.2.1 114 = .ok (.iadd, 1) := by decide +kernel
theorem d_Model_putEntry_115 : decode M_Model_putEntry.2.1 115 = .ok (.putfield 121, 3) := by decide +kernel
theorem d_Model_putEntry_118 : decode M_Model_putEntry.2.1 118 = .ok (.aload_n 0, 1) := by decide +kernel
theorem d_Model_putEntry_119 : decode M_Model_putEntry.2.1 119 = .ok (.getfield 121, 3) := by decide +kernel
theorem d_Model_putEntry_122 : decode M_Model_putEntry.2.1 122 = .ok (.iconst 1, 1) := by decide +kernel
theorem d_Model_putEntry_123 : decode M_Model_putEntry.2.1 123 = .ok (.isub, 1) := by decide +kernel
theorem d_Model_putEntry_124 : decode M_Model_putEntry.2.1 124 = .ok (.ireturn, 1) := by decide +kernel
theorem d_Model_braid_0 : decode M_Model_braid.2.1 0 = .ok (.aload_n 0, 1) := by decide +kernel
theorem d_Model_braid_1 : decode M_Model_braid.2.1 1 = .ok (.iconst 0, 1) := by decide +kernel
theorem d_Model_braid_2 : decode M_Model_braid.2.1 2 = .ok (.putfield 114, 3) := by decide +kernel
theorem d_Model_braid_5 : decode M_Model_braid.2.1 5 = .ok (.aload_n 0, 1) := by decide +kernel
theorem d_Model_braid_6 : decode M_Model_braid.2.1 6 = .ok (.iload_n 1, 1) := by decide +kernel
theorem d_Model_braid_7 : decode M_Model_braid.2.1 7 = .ok (.invokevirtual 335, 3) := by decide +kernel
theorem d_Model_braid_10 : decode M_Model_braid.2.1 10 = .ok (.ifCond .ne 9, 3) := by decide +kernel
theorem d_Model_braid_13 : decode M_Model_braid.2.1 13 = .ok (.aload_n 0, 1) := by decide +kernel
theorem d_Model_braid_14 : decode M_Model_braid.2.1 14 = .ok (.iconst 1, 1) := by decide +kernel
theorem d_Model_braid_15 : decode M_Model_braid.2.1 15 = .ok (.invokevirtual 273, 3) := by decide +kernel
theorem d_Model_braid_18 : decode M_Model_braid.2.1 18 = .ok (.ireturn, 1) := by decide +kernel
theorem d_Model_braid_19 : decode M_Model_braid.2.1 19 = .ok (.aload_n 0, 1) := by decide +kernel
theorem d_Model_braid_20 : decode M_Model_braid.2.1 20 = .ok (.getfield 121, 3) := by decide +kernel
theorem d_Model_braid_23 : decode M_Model_braid.2.1 23 = .ok (.bipush 24, 2) := by decide +kernel
theorem d_Model_braid_25 : decode M_Model_braid.2.1 25 = .ok (.if_icmp .eq 46, 3) := by decide +kernel
theorem d_Model_braid_28 : decode M_Model_braid.2.1 28 = .ok (.aload_n 0, 1) := by decide +kernel
theorem d_Model_braid_29 : decode M_Model_braid.2.1 29 = .ok (.getfield 289, 3) := by decide +kernel
theorem d_Model_braid_32 : decode M_Model_braid.2.1 32 = .ok (.iload_n 1, 1) := by decide +kernel
theorem d_Model_braid_33 : decode M_Model_braid.2.1 33 = .ok (.invokestatic 308, 3) := by decide +kernel
theorem d_Model_braid_36 : decode M_Model_braid.2.1 36 = .ok (.ifCond .ne 35, 3) := by decide +kernel
theorem d_Model_braid_39 : decode M_Model_braid.2.1 39 = .ok (.iload_n 2, 1) := by decide +kernel
theorem d_Model_braid_40 : decode M_Model_braid.2.1 40 = .ok (.i2l, 1) := by decide +kernel
theorem d_Model_braid_41 : decode M_Model_braid.2.1 41 = .ok (.lconst 0, 1) := by decide +kernel
theorem d_Model_braid_42 : decode M_Model_braid.2.1 42 = .ok (.ldc2_w 374, 3) := by decide +kernel
theorem d_Model_braid_45 : decode M_Model_braid.2.1 45 = .ok (.invokestatic 117, 3) := by decide +kernel
theorem d_Model_braid_48 : decode M_Model_braid.2.1 48 = .ok (.ifCond .eq 23, 3) := by decide +kernel
theorem d_Model_braid_51 : decode M_Model_braid.2.1 51 = .ok (.iload_n 3, 1) := by decide +kernel
theorem d_Model_braid_52 : decode M_Model_braid.2.1 52 = .ok (.invokestatic 376, 3) := by decide +kernel
theorem d_Model_braid_55 : decode M_Model_braid.2.1 55 = .ok (.ifCond .eq 16, 3) := by decide +kernel
theorem d_Model_braid_58 : decode M_Model_braid.2.1 58 = .ok (.iload 4, 2) := by decide +kernel
theorem d_Model_braid_60 : decode M_Model_braid.2.1 60 = .ok (.i2l, 1) := by decide +kernel
theorem d_Model_braid_61 : decode M_Model_braid.2.1 61 = .ok (.lconst 0, 1) := by decide +kernel
theorem d_Model_braid_62 : decode M_Model_braid.2.1 62 = .ok (.ldc2_w 379, 3) := by decide +kernel
theorem d_Model_braid_65 : decode M_Model_braid.2.1 65 = .ok (.invokestatic 117, 3) := by decide +kernel
theorem d_Model_braid_68 : decode M_Model_braid.2.1 68 = .ok (.ifCond .ne 9, 3) := by decide +kernel
theorem d_Model_braid_71 : decode M_Model_braid.2.1 71 = .ok (.aload_n 0, 1) := by decide +kernel
theorem d_Model_braid_72 : decode M_Model_braid.2.1 72 = .ok (.iconst 1, 1) := by decide +kernel
theorem d_Model_braid_73 : decode M_Model_braid.2.1 73 = .ok (.invokevirtual 365, 3) := by decide +kernel
theorem d_Model_braid_76 : decode M_Model_braid.2.1 76 = .ok (.ireturn, 1) := by decide +kernel
theorem d_Model_braid_77 : decode M_Model_braid.2.1 77 = .ok (.aload_n 0, 1) := by decide +kernel
theorem d_Model_braid_78 : decode M_Model_braid.2.1 78 = .ok (.invokevirtual 368, 3) := by decide +kernel
theorem d_Model_braid_81 : decode M_Model_braid.2.1 81 = .ok (.aload_n 0, 1) := by decide +kernel
theorem d_Model_braid_82 : decode M_Model_braid.2.1 82 = .ok (.iload_n 2, 1) := by decide +kernel
theorem d_Model_braid_83 : decode M_Model_braid.2.1 83 = .ok (.iload_n 1, 1) := by decide +kernel
theorem d_Model_braid_84 : decode M_Model_braid.2.1 84 = .ok (.iload_n 3, 1) := by decide +kernel
theorem d_Model_braid_85 : decode M_Model_braid.2.1 85 = .ok (.iload 4, 2) := by decide +kernel
theorem d_Model_braid_87 : decode M_Model_braid.2.1 87 = .ok (.iconst 0, 1) := by decide +kernel
theorem d_Model_braid_88 : decode M_Model_braid.2.1 88 = .ok (.aload_n 0, 1) := by decide +kernel
theorem d_Model_braid_89 : decode M_Model_braid.2.1 89 = .ok (.getfield 121, 3) := by decide +kernel
theorem d_Model_braid_92 : decode M_Model_braid.2.1 92 = .ok (.invokevirtual 381, 3) := by decide +kernel
theorem d_Model_braid_95 : decode M_Model_braid.2.1 95 = .ok (.ireturn, 1) := by decide +kernel
theorem d_Model_copy_0 : decode M_Model_copy.2.1 0 = .ok (.aload_n 0, 1) := by decide +kernel
theorem d_Model_copy_1 : decode M_Model_copy.2.1 1 = .ok (.iconst 0, 1) := by decide +kernel
theorem d_Model_copy_2 : decode M_Model_copy.2.1 2 = .ok (.putfield 114, 3) := by decide +kernel
theorem d_Model_copy_5 : decode M_Model_copy.2.1 5 = .ok (.aload_n 0, 1) := by decide +kernel
theorem d_Model_copy_6 : decode M_Model_copy.2.1 6 = .ok (.iload_n 1, 1) := by decide +kernel
theorem d_Model_copy_7 : decode M_Model_copy.2.1 7 = .ok (.invokevirtual 341, 3) := by decide +kernel
theorem d_Model_copy_10 : decode M_Model_copy.2.1 10 = .ok (.ifCond .eq 11, 3) := by decide +kernel
theorem d_Model_copy_13 : decode M_Model_copy.2.1 13 = .ok (.aload_n 0, 1) := by decide +kernel
theorem d_Model_copy_14 : decode M_Model_copy.2.1 14 = .ok (.iload_n 2, 1) := by decide +kernel
theorem d_Model_copy_15 : decode M_Model_copy.2.1 15 = .ok (.invokevirtual 335, 3) := by decide +kernel
theorem d_Model_copy_18 : decode M_Model_copy.2.1 18 = .ok (.ifCond .ne 9, 3) := by decide +kernel
theorem d_Model_copy_21 : decode M_Model_copy.2.1 21 = .ok (.aload_n 0, 1) := by decide +kernel
theorem d_Model_copy_22 : decode M_Model_copy.2.1 22 = .ok (.iconst 1, 1) := by decide +kernel
theorem d_Model_copy_23 : decode M_Model_copy.2.1 23 = .ok (.invokevirtual 273, 3) := by decide +kernel
theorem d_Model_copy_26 : decode M_Model_copy.2.1 26 = .ok (.ireturn, 1) := by decide +kernel
theorem d_Model_copy_27 : decode M_Model_copy.2.1 27 = .ok (.aload_n 0, 1) := by decide +kernel
theorem d_Model_copy_28 : decode M_Model_copy.2.1 28 = .ok (.getfield 121, 3) := by decide +kernel
theorem d_Model_copy_31 : decode M_Model_copy.2.1 31 = .ok (.bipush 24, 2) := by decide +kernel
theorem d_Model_copy_33 : decode M_Model_copy.2.1 33 = .ok (.if_icmp .eq 40, 3) := by decide +kernel
theorem d_Model_copy_36 : decode M_Model_copy.2.1 36 = .ok (.aload_n 0, 1) := by decide +kernel
theorem d_Model_copy_37 : decode M_Model_copy.2.1 37 = .ok (.iload_n 1, 1) := by decide +kernel
theorem d_Model_copy_38 : decode M_Model_copy.2.1 38 = .ok (.invokevirtual 315, 3) := by decide +kernel
theorem d_Model_copy_41 : decode M_Model_copy.2.1 41 = .ok (.ifCond .eq 32, 3) := by decide +kernel
theorem d_Model_copy_44 : decode M_Model_copy.2.1 44 = .ok (.aload_n 0, 1) := by decide +kernel
theorem d_Model_copy_45 : decode M_Model_copy.2.1 45 = .ok (.getfield 289, 3) := by decide +kernel
theorem d_Model_copy_48 : decode M_Model_copy.2.1 48 = .ok (.iload_n 2, 1) := by decide +kernel
theorem d_Model_copy_49 : decode M_Model_copy.2.1 49 = .ok (.invokestatic 308, 3) := by decide +kernel
theorem d_Model_copy_52 : decode M_Model_copy.2.1 52 = .ok (.ifCond .ne 21, 3) := by decide +kernel
theorem d_Model_copy_55 : decode M_Model_copy.2.1 55 = .ok (.aload_n 0, 1) := by decide +kernel
theorem d_Model_copy_56 : decode M_Model_copy.2.1 56 = .ok (.aload_n 0, 1) := by decide +kernel
theorem d_Model_copy_57 : decode M_Model_copy.2.1 57 = .ok (.iload_n 1, 1) := by decide +kernel
theorem d_Model_copy_58 : decode M_Model_copy.2.1 58 = .ok (.bipush 7, 2) := by decide +kernel
theorem d_Model_copy_60 : decode M_Model_copy.2.1 60 = .ok (.invokevirtual 305, 3) := by decide +kernel
theorem d_Model_copy_63 : decode M_Model_copy.2.1 63 = .ok (.invokevirtual 346, 3) := by decide +kernel
theorem d_Model_copy_66 : decode M_Model_copy.2.1 66 = .ok (.iload_n 2, 1) := by decide +kernel
theorem d_Model_copy_67 : decode M_Model_copy.2.1 67 = .ok (.invokestatic 308, 3) := by decide +kernel
theorem d_Model_copy_70 : decode M_Model_copy.2.1 70 = .ok (.ifCond .eq 9, 3) := by decide +kernel
theorem d_Model_copy_73 : decode M_Model_copy.2.1 73 = .ok (.aload_n 0, 1) := by decide +kernel
theorem d_Model_copy_74 : decode M_Model_copy.2.1 74 = .ok (.iconst 1, 1) := by decide +kernel
theorem d_Model_copy_75 : decode M_Model_copy.2.1 75 = .ok (.invokevirtual 365, 3) := by decide +kernel
theorem d_Model_copy_78 : decode M_Model_copy.2.1 78 = .ok (.ireturn, 1) := by decide +kernel
theorem d_Model_copy_79 : decode M_Model_copy.2.1 79 = .ok (.aload_n 0, 1) := by decide +kernel
theorem d_Model_copy_80 : decode M_Model_copy.2.1 80 = .ok (.invokevirtual 368, 3) := by decide +kernel
theorem d_Model_copy_83 : decode M_Model_copy.2.1 83 = .ok (.aload_n 0, 1) := by decide +kernel
theorem d_Model_copy_84 : decode M_Model_copy.2.1 84 = .ok (.aload_n 0, 1) := by decide +kernel
theorem d_Model_copy_85 : decode M_Model_copy.2.1 85 = .ok (.iload_n 1, 1) := by decide +kernel
theorem d_Model_copy_86 : decode M_Model_copy.2.1 86 = .ok (.iconst 0, 1) := by decide +kernel
theorem d_Model_copy_87 : decode M_Model_copy.2.1 87 = .ok (.invokevirtual 305, 3) := by decide +kernel
theorem d_Model_copy_90 : decode M_Model_copy.2.1 90 = .ok (.iload_n 2, 1) := by decide +kernel
theorem d_Model_copy_91 : decode M_Model_copy.2.1 91 = .ok (.aload_n 0, 1) := by decide +kernel
theorem d_Model_copy_92 : decode M_Model_copy.2.1 92 = .ok (.iload_n 1, 1) := by decide +kernel
theorem d_Model_copy_93 : decode M_Model_copy.2.1 93 = .ok (.iconst 3, 1) := by decide +kernel
theorem d_Model_copy_94 : decode M_Model_copy.2.1 94 = .ok (.invokevirtual 305, 3) := by decide +kernel
theorem d_Model_copy_97 : decode M_Model_copy.2.1 97 = .ok (.aload_n 0, 1) := by decide +kernel
theorem d_Model_copy_98 : decode M_Model_copy.2.1 98 = .ok (.iload_n 1, 1) := by decide +kernel
theorem d_Model_copy_99 : decode M_Model_copy.2.1 99 = .ok (.iconst 4, 1) := by decide +kernel
theorem d_Model_copy_100 : decode M_Model_copy.2.1 100 = .ok (.invokevirtual 305, 3) := by decide +kernel
theorem d_Model_copy_103 : decode M_Model_copy.2.1 103 = .ok (.aload_n 0, 1) := by decide +kernel
theorem d_Model_copy_104 : decode M_Model_copy.2.1 104 = .ok (.iload_n 1, 1) := by decide +kernel
theorem d_Model_copy_105 : decode M_Model_copy.2.1 105 = .ok (.iconst 5, 1) := by decide +kernel
theorem d_Model_copy_106 : decode M_Model_copy.2.1 106 = .ok (.invokevirtual 305, 3) := by decide +kernel
theorem d_Model_copy_109 : decode M_Model_copy.2.1 109 = .ok (.aload_n 0, 1) := by decide +kernel
theorem d_Model_copy_110 : decode M_Model_copy.2.1 110 = .ok (.iload_n 1, 1) := by decide +kernel
theorem d_Model_copy_111 : decode M_Model_copy.2.1 111 = .ok (.bipush 7, 2) := by decide +kernel
theorem d_Model_copy_113 : decode M_Model_copy.2.1 113 = .ok (.invokevirtual 305, 3) := by decide +kernel
theorem d_Model_copy_116 : decode M_Model_copy.2.1 116 = .ok (.invokevirtual 381, 3) := by decide +kernel
theorem d_Model_copy_119 : decode M_Model_copy.2.1 119 = .ok (.ireturn, 1) := by decide +kernel
theorem d_Model_isLoose_0 : decode M_Model_isLoose.2.1 0 = .ok (.aload_n 0, 1) := by decide +kernel
theorem d_Model_isLoose_1 : decode M_Model_isLoose.2.1 1 = .ok (.iload_n 1, 1) := by decide +kernel
theorem d_Model_isLoose_2 : decode M_Model_isLoose.2.1 2 = .ok (.invokevirtual 341, 3) := by decide +kernel
theorem d_Model_isLoose_5 : decode M_Model_isLoose.2.1 5 = .ok (.ifCond .ne 9, 3) := by decide +kernel
theorem d_Model_isLoose_8 : decode M_Model_isLoose.2.1 8 = .ok (.aload_n 0, 1) := by decide +kernel
theorem d_Model_isLoose_9 : decode M_Model_isLoose.2.1 9 = .ok (.iconst 1, 1) := by decide +kernel
theorem d_Model_isLoose_10 : decode M_Model_isLoose.2.1 10 = .ok (.invokevirtual 353, 3) := by decide +kernel
theorem d_Model_isLoose_13 : decode M_Model_isLoose.2.1 13 = .ok (.ireturn, 1) := by decide +kernel
theorem d_Model_isLoose_14 : decode M_Model_isLoose.2.1 14 = .ok (.aload_n 0, 1) := by decide +kernel
theorem d_Model_isLoose_15 : decode M_Model_isLoose.2.1 15 = .ok (.iload_n 1, 1) := by decide +kernel
theorem d_Model_isLoose_16 : decode M_Model_isLoose.2.1 16 = .ok (.invokevirtual 315, 3) := by decide +kernel
theorem d_Model_isLoose_19 : decode M_Model_isLoose.2.1 19 = .ok (.ifCond .eq 31, 3) := by decide +kernel
theorem d_Model_isLoose_22 : decode M_Model_isLoose.2.1 22 = .ok (.aload_n 0, 1) := by decide +kernel
theorem d_Model_isLoose_23 : decode M_Model_isLoose.2.1 23 = .ok (.iload_n 1, 1) := by decide +kernel
theorem d_Model_isLoose_24 : decode M_Model_isLoose.2.1 24 = .ok (.bipush 6, 2) := by decide +kernel
theorem d_Model_isLoose_26 : decode M_Model_isLoose.2.1 26 = .ok (.invokevirtual 305, 3) := by decide +kernel
theorem d_Model_isLoose_29 : decode M_Model_isLoose.2.1 29 = .ok (.ifCond .ne 21, 3) := by decide +kernel
theorem d_Model_isLoose_32 : decode M_Model_isLoose.2.1 32 = .ok (.aload_n 0, 1) := by decide +kernel
theorem d_Model_isLoose_33 : decode M_Model_isLoose.2.1 33 = .ok (.getfield 289, 3) := by decide +kernel
theorem d_Model_isLoose_36 : decode M_Model_isLoose.2.1 36 = .ok (.aload_n 0, 1) := by decide +kernel
theorem d_Model_isLoose_37 : decode M_Model_isLoose.2.1 37 = .ok (.iload_n 1, 1) := by decide +kernel
theorem d_Model_isLoose_38 : decode M_Model_isLoose.2.1 38 = .ok (.iconst 1, 1) := by decide +kernel
theorem d_Model_isLoose_39 : decode M_Model_isLoose.2.1 39 = .ok (.invokevirtual 305, 3) := by decide +kernel
theorem d_Model_isLoose_42 : decode M_Model_isLoose.2.1 42 = .ok (.invokestatic 308, 3) := by decide +kernel
theorem d_Model_isLoose_45 : decode M_Model_isLoose.2.1 45 = .ok (.ifCond .ne 5, 3) := by decide +kernel
theorem d_Model_isLoose_48 : decode M_Model_isLoose.2.1 48 = .ok (.iconst 1, 1) := by decide +kernel
theorem d_Model_isLoose_49 : decode M_Model_isLoose.2.1 49 = .ok (.ireturn, 1) := by decide +kernel
theorem d_Model_isLoose_50 : decode M_Model_isLoose.2.1 50 = .ok (.aload_n 0, 1) := by decide +kernel
theorem d_Model_isLoose_51 : decode M_Model_isLoose.2.1 51 = .ok (.getfield 68, 3) := by decide +kernel
theorem d_Model_isLoose_54 : decode M_Model_isLoose.2.1 54 = .ok (.iconst 1, 1) := by decide +kernel
theorem d_Model_isLoose_55 : decode M_Model_isLoose.2.1 55 = .ok (.dup2, 1) := by decide +kernel
theorem d_Model_isLoose_56 : decode M_Model_isLoose.2.1 56 = .ok (.iaload, 1) := by decide +kernel
theorem d_Model_isLoose_57 : decode M_Model_isLoose.2.1 57 = .ok (.iconst 1, 1) := by decide +kernel
theorem d_Model_isLoose_58 : decode M_Model_isLoose.2.1 58 = .ok (.iadd, 1) := by decide +kernel
theorem d_Model_isLoose_59 : decode M_Model_isLoose.2.1 59 = .ok (.iastore, 1) := by decide +kernel
theorem d_Model_isLoose_60 : decode M_Model_isLoose.2.1 60 = .ok (.iconst 0, 1) := by decide +kernel
theorem d_Model_isLoose_61 : decode M_Model_isLoose.2.1 61 = .ok (.ireturn, 1) := by decide +kernel
theorem d_Model_knot_0 : decode M_Model_knot.2.1 0 = .ok (.aload_n 0, 1) := by decide +kernel
theorem d_Model_knot_1 : decode M_Model_knot.2.1 1 = .ok (.iconst 0, 1) := by decide +kernel
theorem d_Model_knot_2 : decode M_Model_knot.2.1 2 = .ok (.putfield 114, 3) := by decide +kernel
theorem d_Model_knot_5 : decode M_Model_knot.2.1 5 = .ok (.aload_n 0, 1) := by decide +kernel
theorem d_Model_knot_6 : decode M_Model_knot.2.1 6 = .ok (.iload_n 1, 1) := by decide +kernel
theorem d_Model_knot_7 : decode M_Model_knot.2.1 7 = .ok (.invokevirtual 385, 3) := by decide +kernel
theorem d_Model_knot_10 : decode M_Model_knot.2.1 10 = .ok (.ifCond .ne 5, 3) := by decide +kernel
theorem d_Model_knot_13 : decode M_Model_knot.2.1 13 = .ok (.iconst 0, 1) := by decide +kernel
theorem d_Model_knot_14 : decode M_Model_knot.2.1 14 = .ok (.ireturn, 1) := by decide +kernel
theorem d_Model_knot_15 : decode M_Model_knot.2.1 15 = .ok (.aload_n 0, 1) := by decide +kernel
theorem d_Model_knot_16 : decode M_Model_knot.2.1 16 = .ok (.invokevirtual 368, 3) := by decide +kernel
theorem d_Model_knot_19 : decode M_Model_knot.2.1 19 = .ok (.aload_n 0, 1) := by decide +kernel
theorem d_Model_knot_20 : decode M_Model_knot.2.1 20 = .ok (.getfield 62, 3) := by decide +kernel
theorem d_Model_knot_23 : decode M_Model_knot.2.1 23 = .ok (.bipush 9, 2) := by decide +kernel
theorem d_Model_knot_25 : decode M_Model_knot.2.1 25 = .ok (.iload_n 1, 1) := by decide +kernel
theorem d_Model_knot_26 : decode M_Model_knot.2.1 26 = .ok (.imul, 1) := by decide +kernel
theorem d_Model_knot_27 : decode M_Model_knot.2.1 27 = .ok (.bipush 6, 2) := by decide +kernel
theorem d_Model_knot_29 : decode M_Model_knot.2.1 29 = .ok (.iadd, 1) := by decide +kernel
theorem d_Model_knot_30 : decode M_Model_knot.2.1 30 = .ok (.iconst 1, 1) := by decide +kernel
theorem d_Model_knot_31 : decode M_Model_knot.2.1 31 = .ok (.iastore, 1) := by decide +kernel
theorem d_Model_knot_32 : decode M_Model_knot.2.1 32 = .ok (.iconst 1, 1) := by decide +kernel
theorem d_Model_knot_33 : decode M_Model_knot.2.1 33 = .ok (.ireturn, 1) := by decide +kernel
theorem d_Model_comb_0 : decode M_Model_comb.2.1 0 = .ok (.aload_n 0, 1) := by decide +kernel
theorem d_Model_comb_1 : decode M_Model_comb.2.1 1 = .ok (.iconst 0, 1) := by decide +kernel
theorem d_Model_comb_2 : decode M_Model_comb.2.1 2 = .ok (.putfield 114, 3) := by decide +kernel
theorem d_Model_comb_5 : decode M_Model_comb.2.1 5 = .ok (.aload_n 0, 1) := by decide +kernel
theorem d_Model_comb_6 : decode M_Model_comb.2.1 6 = .ok (.iload_n 1, 1) := by decide +kernel
theorem d_Model_comb_7 : decode M_Model_comb.2.1 7 = .ok (.invokevirtual 385, 3) := by decide +kernel
theorem d_Model_comb_10 : decode M_Model_comb.2.1 10 = .ok (.ifCond .ne 5, 3) := by decide +kernel
theorem d_Model_comb_13 : decode M_Model_comb.2.1 13 = .ok (.iconst 0, 1) := by decide +kernel
theorem d_Model_comb_14 : decode M_Model_comb.2.1 14 = .ok (.ireturn, 1) := by decide +kernel
theorem d_Model_comb_15 : decode M_Model_comb.2.1 15 = .ok (.aload_n 0, 1) := by decide +kernel
theorem d_Model_comb_16 : decode M_Model_comb.2.1 16 = .ok (.invokevirtual 368, 3) := by decide +kernel
theorem d_Model_comb_19 : decode M_Model_comb.2.1 19 = .ok (.aload_n 0, 1) := by decide +kernel
theorem d_Model_comb_20 : decode M_Model_comb.2.1 20 = .ok (.iload_n 1, 1) := by decide +kernel
theorem d_Model_comb_21 : decode M_Model_comb.2.1 21 = .ok (.invokevirtual 320, 3) := by decide +kernel
theorem d_Model_comb_24 : decode M_Model_comb.2.1 24 = .ok (.iconst 1, 1) := by decide +kernel
theorem d_Model_comb_25 : decode M_Model_comb.2.1 25 = .ok (.ireturn, 1) := by decide +kernel
theorem d_Model_shave_0 : decode M_Model_shave.2.1 0 = .ok (.aload_n 0, 1) := by decide +kernel
theorem d_Model_shave_1 : decode M_Model_shave.2.1 1 = .ok (.iconst 0, 1) := by decide +kernel
theorem d_Model_shave_2 : decode M_Model_shave.2.1 2 = .ok (.putfield 114, 3) := by decide +kernel
theorem d_Model_shave_5 : decode M_Model_shave.2.1 5 = .ok (.aload_n 0, 1) := by decide +kernel
theorem d_Model_shave_6 : decode M_Model_shave.2.1 6 = .ok (.iload_n 1, 1) := by decide +kernel
theorem d_Model_shave_7 : decode M_Model_shave.2.1 7 = .ok (.invokevirtual 335, 3) := by decide +kernel
theorem d_Model_shave_10 : decode M_Model_shave.2.1 10 = .ok (.ifCond .ne 9, 3) := by decide +kernel
theorem d_Model_shave_13 : decode M_Model_shave.2.1 13 = .ok (.aload_n 0, 1) := by decide +kernel
theorem d_Model_shave_14 : decode M_Model_shave.2.1 14 = .ok (.iconst 1, 1) := by decide +kernel
theorem d_Model_shave_15 : decode M_Model_shave.2.1 15 = .ok (.invokevirtual 273, 3) := by decide +kernel
theorem d_Model_shave_18 : decode M_Model_shave.2.1 18 = .ok (.ireturn, 1) := by decide +kernel
theorem d_Model_shave_19 : decode M_Model_shave.2.1 19 = .ok (.iload_n 2, 1) := by decide +kernel
theorem d_Model_shave_20 : decode M_Model_shave.2.1 20 = .ok (.ifCond .lt 13, 3) := by decide +kernel
theorem d_Model_shave_23 : decode M_Model_shave.2.1 23 = .ok (.iload_n 2, 1) := by decide +kernel
theorem d_Model_shave_24 : decode M_Model_shave.2.1 24 = .ok (.aload_n 0, 1) := by decide +kernel
theorem d_Model_shave_25 : decode M_Model_shave.2.1 25 = .ok (.getfield 59, 3) := by decide +kernel
theorem d_Model_shave_28 : decode M_Model_shave.2.1 28 = .ok (.iload_n 1, 1) := by decide +kernel
theorem d_Model_shave_29 : decode M_Model_shave.2.1 29 = .ok (.iaload, 1) := by decide +kernel
theorem d_Model_shave_30 : decode M_Model_shave.2.1 30 = .ok (.if_icmp .lt 9, 3) := by decide +kernel
theorem d_Model_shave_33 : decode M_Model_shave.2.1 33 = .ok (.aload_n 0, 1) := by decide +kernel
theorem d_Model_shave_34 : decode M_Model_shave.2.1 34 = .ok (.iconst 1, 1) := by decide +kernel
theorem d_Model_shave_35 : decode M_Model_shave.2.1 35 = .ok (.invokevirtual 365, 3) := by decide +kernel
theorem d_Model_shave_38 : decode M_Model_shave.2.1 38 = .ok (.ireturn, 1) := by decide +kernel
theorem d_Model_shave_39 : decode M_Model_shave.2.1 39 = .ok (.aload_n 0, 1) := by decide +kernel
theorem d_Model_shave_40 : decode M_Model_shave.2.1 40 = .ok (.invokevirtual 368, 3) := by decide +kernel
theorem d_Model_shave_43 : decode M_Model_shave.2.1 43 = .ok (.aload_n 0, 1) := by decide +kernel
theorem d_Model_shave_44 : decode M_Model_shave.2.1 44 = .ok (.getfield 59, 3) := by decide +kernel
theorem d_Model_shave_47 : decode M_Model_shave.2.1 47 = .ok (.iload_n 1, 1) := by decide +kernel
theorem d_Model_shave_48 : decode M_Model_shave.2.1 48 = .ok (.iload_n 2, 1) := by decide +kernel
theorem d_Model_shave_49 : decode M_Model_shave.2.1 49 = .ok (.iastore, 1) := by decide +kernel
theorem d_Model_shave_50 : decode M_Model_shave.2.1 50 = .ok (.aload_n 0, 1) := by decide +kernel
theorem d_Model_shave_51 : decode M_Model_shave.2.1 51 = .ok (.invokevirtual 292, 3) := by decide +kernel
theorem d_Model_shave_54 : decode M_Model_shave.2.1 54 = .ok (.ireturn, 1) := by decide +kernel
theorem d_Model_moths_0 : decode M_Model_moths.2.1 0 = .ok (.aload_n 0, 1) := by decide +kernel
theorem d_Model_moths_1 : decode M_Model_moths.2.1 1 = .ok (.iconst 0, 1) := by decide +kernel
theorem d_Model_moths_2 : decode M_Model_moths.2.1 2 = .ok (.putfield 114, 3) := by decide +kernel
theorem d_Model_moths_5 : decode M_Model_moths.2.1 5 = .ok (.aload_n 0, 1) := by decide +kernel
theorem d_Model_moths_6 : decode M_Model_moths.2.1 6 = .ok (.iload_n 1, 1) := by decide +kernel
theorem d_Model_moths_7 : decode M_Model_moths.2.1 7 = .ok (.invokevirtual 335, 3) := by decide +kernel
theorem d_Model_moths_10 : decode M_Model_moths.2.1 10 = .ok (.ifCond .ne 9, 3) := by decide +kernel
theorem d_Model_moths_13 : decode M_Model_moths.2.1 13 = .ok (.aload_n 0, 1) := by decide +kernel
theorem d_Model_moths_14 : decode M_Model_moths.2.1 14 = .ok (.iconst 1, 1) := by decide +kernel
theorem d_Model_moths_15 : decode M_Model_moths.2.1 15 = .ok (.invokevirtual 273, 3) := by decide +kernel
theorem d_Model_moths_18 : decode M_Model_moths.2.1 18 = .ok (.ireturn, 1) := by decide +kernel
theorem d_Model_moths_19 : decode M_Model_moths.2.1 19 = .ok (.iload_n 2, 1) := by decide +kernel
theorem d_Model_moths_20 : decode M_Model_moths.2.1 20 = .ok (.i2l, 1) := by decide +kernel
theorem d_Model_moths_21 : decode M_Model_moths.2.1 21 = .ok (.lconst 0, 1) := by decide +kernel
theorem d_Model_moths_22 : decode M_Model_moths.2.1 22 = .ok (.ldc2_w 388, 3) := by decide +kernel
theorem d_Model_moths_25 : decode M_Model_moths.2.1 25 = .ok (.invokestatic 117, 3) := by decide +kernel
theorem d_Model_moths_28 : decode M_Model_moths.2.1 28 = .ok (.ifCond .eq 16, 3) := by decide +kernel
theorem d_Model_moths_31 : decode M_Model_moths.2.1 31 = .ok (.iload_n 3, 1) := by decide +kernel
theorem d_Model_moths_32 : decode M_Model_moths.2.1 32 = .ok (.i2l, 1) := by decide +kernel
theorem d_Model_moths_33 : decode M_Model_moths.2.1 33 = .ok (.iload_n 2, 1) := by decide +kernel
theorem d_Model_moths_34 : decode M_Model_moths.2.1 34 = .ok (.i2l, 1) := by decide +kernel
theorem d_Model_moths_35 : decode M_Model_moths.2.1 35 = .ok (.ldc2_w 388, 3) := by decide +kernel
theorem d_Model_moths_38 : decode M_Model_moths.2.1 38 = .ok (.invokestatic 117, 3) := by decide +kernel
theorem d_Model_moths_41 : decode M_Model_moths.2.1 41 = .ok (.ifCond .ne 9, 3) := by decide +kernel
theorem d_Model_moths_44 : decode M_Model_moths.2.1 44 = .ok (.aload_n 0, 1) := by decide +kernel
theorem d_Model_moths_45 : decode M_Model_moths.2.1 45 = .ok (.iconst 1, 1) := by decide +kernel
theorem d_Model_moths_46 : decode M_Model_moths.2.1 46 = .ok (.invokevirtual 365, 3) := by decide +kernel
theorem d_Model_moths_49 : decode M_Model_moths.2.1 49 = .ok (.ireturn, 1) := by decide +kernel
theorem d_Model_moths_50 : decode M_Model_moths.2.1 50 = .ok (.aload_n 0, 1) := by decide +kernel
theorem d_Model_moths_51 : decode M_Model_moths.2.1 51 = .ok (.invokevirtual 368, 3) := by decide +kernel
theorem d_Model_moths_54 : decode M_Model_moths.2.1 54 = .ok (.aload_n 0, 1) := by decide +kernel
theorem d_Model_moths_55 : decode M_Model_moths.2.1 55 = .ok (.iload_n 1, 1) := by decide +kernel
theorem d_Model_moths_56 : decode M_Model_moths.2.1 56 = .ok (.iload_n 2, 1) := by decide +kernel
theorem d_Model_moths_57 : decode M_Model_moths.2.1 57 = .ok (.iload_n 3, 1) := by decide +kernel
theorem d_Model_moths_58 : decode M_Model_moths.2.1 58 = .ok (.invokevirtual 390, 3) := by decide +kernel
theorem d_Model_moths_61 : decode M_Model_moths.2.1 61 = .ok (.ireturn, 1) := by decide +kernel
theorem d_Model_die_0 : decode M_Model_die.2.1 0 = .ok (.aload_n 0, 1) := by decide +kernel
theorem d_Model_die_1 : decode M_Model_die.2.1 1 = .ok (.iconst 0, 1) := by decide +kernel
theorem d_Model_die_2 : decode M_Model_die.2.1 2 = .ok (.putfield 114, 3) := by decide +kernel
theorem d_Model_die_5 : decode M_Model_die.2.1 5 = .ok (.aload_n 0, 1) := by decide +kernel
theorem d_Model_die_6 : decode M_Model_die.2.1 6 = .ok (.iload_n 1, 1) := by decide +kernel
theorem d_Model_die_7 : decode M_Model_die.2.1 7 = .ok (.invokevirtual 335, 3) := by decide +kernel
theorem d_Model_die_10 : decode M_Model_die.2.1 10 = .ok (.ifCond .ne 9, 3) := by decide +kernel
theorem d_Model_die_13 : decode M_Model_die.2.1 13 = .ok (.aload_n 0, 1) := by decide +kernel
theorem d_Model_die_14 : decode M_Model_die.2.1 14 = .ok (.iconst 1, 1) := by decide +kernel
theorem d_Model_die_15 : decode M_Model_die.2.1 15 = .ok (.invokevirtual 353, 3) := by decide +kernel
theorem d_Model_die_18 : decode M_Model_die.2.1 18 = .ok (.ireturn, 1) := by decide +kernel
theorem d_Model_die_19 : decode M_Model_die.2.1 19 = .ok (.aload_n 0, 1) := by decide +kernel
theorem d_Model_die_20 : decode M_Model_die.2.1 20 = .ok (.getfield 289, 3) := by decide +kernel
theorem d_Model_die_23 : decode M_Model_die.2.1 23 = .ok (.iload_n 1, 1) := by decide +kernel
theorem d_Model_die_24 : decode M_Model_die.2.1 24 = .ok (.invokestatic 308, 3) := by decide +kernel
theorem d_Model_die_27 : decode M_Model_die.2.1 27 = .ok (.ifCond .eq 15, 3) := by decide +kernel
theorem d_Model_die_30 : decode M_Model_die.2.1 30 = .ok (.aload_n 0, 1) := by decide +kernel
theorem d_Model_die_31 : decode M_Model_die.2.1 31 = .ok (.getfield 68, 3) := by decide +kernel
theorem d_Model_die_34 : decode M_Model_die.2.1 34 = .ok (.iconst 1, 1) := by decide +kernel
theorem d_Model_die_35 : decode M_Model_die.2.1 35 = .ok (.dup2, 1) := by decide +kernel
theorem d_Model_die_36 : decode M_Model_die.2.1 36 = .ok (.iaload, 1) := by decide +kernel
theorem d_Model_die_37 : decode M_Model_die.2.1 37 = .ok (.iconst 1, 1) := by decide +kernel
theorem d_Model_die_38 : decode M_Model_die.2.1 38 = .ok (.iadd, 1) := by decide +kernel
theorem d_Model_die_39 : decode M_Model_die.2.1 39 = .ok (.iastore, 1) := by decide +kernel
theorem d_Model_die_40 : decode M_Model_die.2.1 40 = .ok (.iconst 0, 1) := by decide +kernel
theorem d_Model_die_41 : decode M_Model_die.2.1 41 = .ok (.ireturn, 1) := by decide +kernel
theorem d_Model_die_42 : decode M_Model_die.2.1 42 = .ok (.aload_n 0, 1) := by decide +kernel
theorem d_Model_die_43 : decode M_Model_die.2.1 43 = .ok (.invokevirtual 368, 3) := by decide +kernel
theorem d_Model_die_46 : decode M_Model_die.2.1 46 = .ok (.aload_n 0, 1) := by decide +kernel
theorem d_Model_die_47 : decode M_Model_die.2.1 47 = .ok (.dup, 1) := by decide +kernel
theorem d_Model_die_48 : decode M_Model_die.2.1 48 = .ok (.getfield 289, 3) := by decide +kernel
theorem d_Model_die_51 : decode M_Model_die.2.1 51 = .ok (.iconst 1, 1) := by decide +kernel
theorem d_Model_die_52 : decode M_Model_die.2.1 52 = .ok (.iload_n 1, 1) := by decide +kernel
theorem d_Model_die_53 : decode M_Model_die.2.1 53 = .ok (.ishl, 1) := by decide +kernel
theorem d_Model_die_54 : decode M_Model_die.2.1 54 = .ok (.ior, 1) := by decide +kernel
theorem d_Model_die_55 : decode M_Model_die.2.1 55 = .ok (.putfield 289, 3) := by decide +kernel
theorem d_Model_die_58 : decode M_Model_die.2.1 58 = .ok (.aload_n 0, 1) := by decide +kernel
theorem d_Model_die_59 : decode M_Model_die.2.1 59 = .ok (.getfield 78, 3) := by decide +kernel
theorem d_Model_die_62 : decode M_Model_die.2.1 62 = .ok (.iload_n 1, 1) := by decide +kernel
theorem d_Model_die_63 : decode M_Model_die.2.1 63 = .ok (.aload_n 0, 1) := by decide +kernel
theorem d_Model_die_64 : decode M_Model_die.2.1 64 = .ok (.getfield 286, 3) := by decide +kernel
theorem d_Model_die_67 : decode M_Model_die.2.1 67 = .ok (.iastore, 1) := by decide +kernel
theorem d_Model_die_68 : decode M_Model_die.2.1 68 = .ok (.iconst 1, 1) := by decide +kernel
theorem d_Model_die_69 : decode M_Model_die.2.1 69 = .ok (.ireturn, 1) := by decide +kernel
theorem d_Model_undo_0 : decode M_Model_undo.2.1 0 = .ok (.aload_n 0, 1) := by decide +kernel
theorem d_Model_undo_1 : decode M_Model_undo.2.1 1 = .ok (.iconst 0, 1) := by decide +kernel
theorem d_Model_undo_2 : decode M_Model_undo.2.1 2 = .ok (.putfield 114, 3) := by decide +kernel
theorem d_Model_undo_5 : decode M_Model_undo.2.1 5 = .ok (.aload_n 0, 1) := by decide +kernel
theorem d_Model_undo_6 : decode M_Model_undo.2.1 6 = .ok (.getfield 295, 3) := by decide +kernel
theorem d_Model_undo_9 : decode M_Model_undo.2.1 9 = .ok (.ifCond .ne 5, 3) := by decide +kernel
theorem d_Model_undo_12 : decode M_Model_undo.2.1 12 = .ok (.iconst (-1), 1) := by decide +kernel
theorem d_Model_undo_13 : decode M_Model_undo.2.1 13 = .ok (.ireturn, 1) := by decide +kernel
theorem d_Model_undo_14 : decode M_Model_undo.2.1 14 = .ok (.aload_n 0, 1) := by decide +kernel
theorem d_Model_undo_15 : decode M_Model_undo.2.1 15 = .ok (.dup, 1) := by decide +kernel
theorem d_Model_undo_16 : decode M_Model_undo.2.1 16 = .ok (.getfield 295, 3) := by decide +kernel
theorem d_Model_undo_19 : decode M_Model_undo.2.1 19 = .ok (.iconst 1, 1) := by decide +kernel
theorem d_Model_undo_20 : decode M_Model_undo.2.1 20 = .ok (.isub, 1) := by decide +kernel
theorem d_Model_undo_21 : decode M_Model_undo.2.1 21 = .ok (.putfield 295, 3) := by decide +kernel
theorem d_Model_undo_24 : decode M_Model_undo.2.1 24 = .ok (.aload_n 0, 1) := by decide +kernel
theorem d_Model_undo_25 : decode M_Model_undo.2.1 25 = .ok (.aload_n 0, 1) := by decide +kernel
theorem d_Model_undo_26 : decode M_Model_undo.2.1 26 = .ok (.getfield 81, 3) := by decide +kernel
theorem d_Model_undo_29 : decode M_Model_undo.2.1 29 = .ok (.sipush 231, 3) := by decide +kernel
theorem d_Model_undo_32 : decode M_Model_undo.2.1 32 = .ok (.aload_n 0, 1) := by decide +kernel
theorem d_Model_undo_33 : decode M_Model_undo.2.1 33 = .ok (.getfield 295, 3) := by decide +kernel
theorem d_Model_undo_36 : decode M_Model_undo.2.1 36 = .ok (.imul, 1) := by decide +kernel
theorem d_Model_undo_37 : decode M_Model_undo.2.1 37 = .ok (.invokevirtual 393, 3) := by decide +kernel
theorem d_Model_undo_40 : decode M_Model_undo.2.1 40 = .ok (.aload_n 0, 1) := by decide +kernel
theorem d_Model_undo_41 : decode M_Model_undo.2.1 41 = .ok (.getfield 295, 3) := by decide +kernel
theorem d_Model_undo_44 : decode M_Model_undo.2.1 44 = .ok (.ireturn, 1) := by decide +kernel
theorem d_Model_isOfKind_0 : decode M_Model_isOfKind.2.1 0 = .ok (.aload_n 0, 1) := by decide +kernel
theorem d_Model_isOfKind_1 : decode M_Model_isOfKind.2.1 1 = .ok (.iload_n 1, 1) := by decide +kernel
theorem d_Model_isOfKind_2 : decode M_Model_isOfKind.2.1 2 = .ok (.invokevirtual 315, 3) := by decide +kernel
theorem d_Model_isOfKind_5 : decode M_Model_isOfKind.2.1 5 = .ok (.ifCond .eq 27, 3) := by decide +kernel
theorem d_Model_isOfKind_8 : decode M_Model_isOfKind.2.1 8 = .ok (.aload_n 0, 1) := by decide +kernel
theorem d_Model_isOfKind_9 : decode M_Model_isOfKind.2.1 9 = .ok (.iload_n 1, 1) := by decide +kernel
theorem d_Model_isOfKind_10 : decode M_Model_isOfKind.2.1 10 = .ok (.iconst 0, 1) := by decide +kernel
theorem d_Model_isOfKind_11 : decode M_Model_isOfKind.2.1 11 = .ok (.invokevirtual 305, 3) := by decide +kernel
theorem d_Model_isOfKind_14 : decode M_Model_isOfKind.2.1 14 = .ok (.iload_n 2, 1) := by decide +kernel
theorem d_Model_isOfKind_15 : decode M_Model_isOfKind.2.1 15 = .ok (.if_icmp .ne 17, 3) := by decide +kernel
theorem d_Model_isOfKind_18 : decode M_Model_isOfKind.2.1 18 = .ok (.aload_n 0, 1) := by decide +kernel
theorem d_Model_isOfKind_19 : decode M_Model_isOfKind.2.1 19 = .ok (.iload_n 1, 1) := by decide +kernel
theorem d_Model_isOfKind_20 : decode M_Model_isOfKind.2.1 20 = .ok (.iconst 3, 1) := by decide +kernel
theorem d_Model_isOfKind_21 : decode M_Model_isOfKind.2.1 21 = .ok (.invokevirtual 305, 3) := by decide +kernel
theorem d_Model_isOfKind_24 : decode M_Model_isOfKind.2.1 24 = .ok (.iload_n 3, 1) := by decide +kernel
theorem d_Model_isOfKind_25 : decode M_Model_isOfKind.2.1 25 = .ok (.if_icmp .ne 7, 3) := by decide +kernel
theorem d_Model_isOfKind_28 : decode M_Model_isOfKind.2.1 28 = .ok (.iconst 1, 1) := by decide +kernel
theorem d_Model_isOfKind_29 : decode M_Model_isOfKind.2.1 29 = .ok (.goto 4, 3) := by decide +kernel
theorem d_Model_isOfKind_32 : decode M_Model_isOfKind.2.1 32 = .ok (.iconst 0, 1) := by decide +kernel
theorem d_Model_isOfKind_33 : decode M_Model_isOfKind.2.1 33 = .ok (.ireturn, 1) := by decide +kernel
theorem d_Model_law_0 : decode M_Model_law.2.1 0 = .ok (.aload_n 0, 1) := by decide +kernel
theorem d_Model_law_1 : decode M_Model_law.2.1 1 = .ok (.iconst 0, 1) := by decide +kernel
theorem d_Model_law_2 : decode M_Model_law.2.1 2 = .ok (.putfield 114, 3) := by decide +kernel
theorem d_Model_law_5 : decode M_Model_law.2.1 5 = .ok (.iload_n 1, 1) := by decide +kernel
theorem d_Model_law_6 : decode M_Model_law.2.1 6 = .ok (.invokestatic 376, 3) := by decide +kernel
theorem d_Model_law_9 : decode M_Model_law.2.1 9 = .ok (.ifCond .ne 9, 3) := by decide +kernel
theorem d_Model_law_12 : decode M_Model_law.2.1 12 = .ok (.aload_n 0, 1) := by decide +kernel
theorem d_Model_law_13 : decode M_Model_law.2.1 13 = .ok (.iconst 1, 1) := by decide +kernel
theorem d_Model_law_14 : decode M_Model_law.2.1 14 = .ok (.invokevirtual 273, 3) := by decide +kernel
theorem d_Model_law_17 : decode M_Model_law.2.1 17 = .ok (.ireturn, 1) := by decide +kernel
theorem d_Model_law_18 : decode M_Model_law.2.1 18 = .ok (.iconst (-1), 1) := by decide +kernel
theorem d_Model_law_19 : decode M_Model_law.2.1 19 = .ok (.istore_n 2, 1) := by decide +kernel
theorem d_Model_law_20 : decode M_Model_law.2.1 20 = .ok (.iconst 0, 1) := by decide +kernel
theorem d_Model_law_21 : decode M_Model_law.2.1 21 = .ok (.istore_n 3, 1) := by decide +kernel
theorem d_Model_law_22 : decode M_Model_law.2.1 22 = .ok (.iconst 0, 1) := by decide +kernel
theorem d_Model_law_23 : decode M_Model_law.2.1 23 = .ok (.istore 4, 2) := by decide +kernel
theorem d_Model_law_25 : decode M_Model_law.2.1 25 = .ok (.iload 4, 2) := by decide +kernel
theorem d_Model_law_27 : decode M_Model_law.2.1 27 = .ok (.aload_n 0, 1) := by decide +kernel
theorem d_Model_law_28 : decode M_Model_law.2.1 28 = .ok (.getfield 121, 3) := by decide +kernel
theorem d_Model_law_31 : decode M_Model_law.2.1 31 = .ok (.if_icmp .ge 106, 3) := by decide +kernel
theorem d_Model_law_34 : decode M_Model_law.2.1 34 = .ok (.aload_n 0, 1) := by decide +kernel
theorem d_Model_law_35 : decode M_Model_law.2.1 35 = .ok (.iload 4, 2) := by decide +kernel
theorem d_Model_law_37 : decode M_Model_law.2.1 37 = .ok (.iconst 0, 1) := by decide +kernel
theorem d_Model_law_38 : decode M_Model_law.2.1 38 = .ok (.iload_n 1, 1) := by decide +kernel
theorem d_Model_law_39 : decode M_Model_law.2.1 39 = .ok (.invokevirtual 396, 3) := by decide +kernel
theorem d_Model_law_42 : decode M_Model_law.2.1 42 = .ok (.ifCond .eq 89, 3) := by decide +kernel
theorem d_Model_law_45 : decode M_Model_law.2.1 45 = .ok (.iload_n 2, 1) := by decide +kernel
theorem d_Model_law_46 : decode M_Model_law.2.1 46 = .ok (.iconst (-1), 1) := by decide +kernel
theorem d_Model_law_47 : decode M_Model_law.2.1 47 = .ok (.if_icmp .eq 22, 3) := by decide +kernel
theorem d_Model_law_50 : decode M_Model_law.2.1 50 = .ok (.aload_n 0, 1) := by decide +kernel
theorem d_Model_law_51 : decode M_Model_law.2.1 51 = .ok (.iload 4, 2) := by decide +kernel
theorem d_Model_law_53 : decode M_Model_law.2.1 53 = .ok (.iconst 2, 1) := by decide +kernel
theorem d_Model_law_54 : decode M_Model_law.2.1 54 = .ok (.invokevirtual 305, 3) := by decide +kernel
theorem d_Model_law_57 : decode M_Model_law.2.1 57 = .ok (.aload_n 0, 1) := by decide +kernel
theorem d_Model_law_58 : decode M_Model_law.2.1 58 = .ok (.iload_n 2, 1) := by decide +kernel
theorem d_Model_law_59 : decode M_Model_law.2.1 59 = .ok (.iconst 2, 1) := by decide +kernel
theorem d_Model_law_60 : decode M_Model_law.2.1 60 = .ok (.invokevirtual 305, 3) := by decide +kernel
theorem d_Model_law_63 : decode M_Model_law.2.1 63 = .ok (.if_icmp .ge 6, 3) := by decide +kernel
theorem d_Model_law_66 : decode M_Model_law.2.1 66 = .ok (.goto 65, 3) := by decide +kernel
theorem d_Model_law_69 : decode M_Model_law.2.1 69 = .ok (.iload_n 2, 1) := by decide +kernel
theorem d_Model_law_70 : decode M_Model_law.2.1 70 = .ok (.iconst (-1), 1) := by decide +kernel
theorem d_Model_law_71 : decode M_Model_law.2.1 71 = .ok (.if_icmp .eq 23, 3) := by decide +kernel
theorem d_Model_law_74 : decode M_Model_law.2.1 74 = .ok (.aload_n 0, 1) := by decide +kernel
theorem d_Model_law_75 : decode M_Model_law.2.1 75 = .ok (.iload 4, 2) := by decide +kernel
theorem d_Model_law_77 : decode M_Model_law.2.1 77 = .ok (.iconst 2, 1) := by decide +kernel
theorem d_Model_law_78 : decode M_Model_law.2.1 78 = .ok (.invokevirtual 305, 3) := by decide +kernel
theorem d_Model_law_81 : decode M_Model_law.2.1 81 = .ok (.aload_n 0, 1) := by decide +kernel
theorem d_Model_law_82 : decode M_Model_law.2.1 82 = .ok (.iload_n 2, 1) := by decide +kernel
theorem d_Model_law_83 : decode M_Model_law.2.1 83 = .ok (.iconst 2, 1) := by decide +kernel
theorem d_Model_law_84 : decode M_Model_law.2.1 84 = .ok (.invokevirtual 305, 3) := by decide +kernel
theorem d_Model_law_87 : decode M_Model_law.2.1 87 = .ok (.if_icmp .ne 7, 3) := by decide +kernel
theorem d_Model_law_90 : decode M_Model_law.2.1 90 = .ok (.iconst 1, 1) := by decide +kernel
theorem d_Model_law_91 : decode M_Model_law.2.1 91 = .ok (.goto 4, 3) := by decide +kernel
theorem d_Model_law_94 : decode M_Model_law.2.1 94 = .ok (.iconst 0, 1) := by decide +kernel
theorem d_Model_law_95 : decode M_Model_law.2.1 95 = .ok (.istore 5, 2) := by decide +kernel
theorem d_Model_law_97 : decode M_Model_law.2.1 97 = .ok (.iload 5, 2) := by decide +kernel
theorem d_Model_law_99 : decode M_Model_law.2.1 99 = .ok (.ifCond .eq 27, 3) := by decide +kernel
theorem d_Model_law_102 : decode M_Model_law.2.1 102 = .ok (.iload_n 3, 1) := by decide +kernel
theorem d_Model_law_103 : decode M_Model_law.2.1 103 = .ok (.ifCond .ne 19, 3) := by decide +kernel
theorem d_Model_law_106 : decode M_Model_law.2.1 106 = .ok (.aload_n 0, 1) := by decide +kernel
theorem d_Model_law_107 : decode M_Model_law.2.1 107 = .ok (.iload 4, 2) := by decide +kernel
theorem d_Model_law_109 : decode M_Model_law.2.1 109 = .ok (.iconst 4, 1) := by decide +kernel
theorem d_Model_law_110 : decode M_Model_law.2.1 110 = .ok (.invokevirtual 305, 3) := by decide +kernel
theorem d_Model_law_113 : decode M_Model_law.2.1 113 = .ok (.aload_n 0, 1) := by decide +kernel
theorem d_Model_law_114 : decode M_Model_law.2.1 114 = .ok (.iload_n 2, 1) := by decide +kernel
theorem d_Model_law_115 : decode M_Model_law.2.1 115 = .ok (.iconst 4, 1) := by decide +kernel
theorem d_Model_law_116 : decode M_Model_law.2.1 116 = .ok (.invokevirtual 305, 3) := by decide +kernel
theorem d_Model_law_119 : decode M_Model_law.2.1 119 = .ok (.if_icmp .eq 7, 3) := by decide +kernel
theorem d_Model_law_122 : decode M_Model_law.2.1 122 = .ok (.iconst 1, 1) := by decide +kernel
theorem d_Model_law_123 : decode M_Model_law.2.1 123 = .ok (.goto 4, 3) := by decide +kernel
theorem d_Model_law_126 : decode M_Model_law.2.1 126 = .ok (.iconst 0, 1) := by decide +kernel
theorem d_Model_law_127 : decode M_Model_law.2.1 127 = .ok (.istore_n 3, 1) := by decide +kernel
theorem d_Model_law_128 : decode M_Model_law.2.1 128 = .ok (.iload 4, 2) := by decide +kernel
theorem d_Model_law_130 : decode M_Model_law.2.1 130 = .ok (.istore_n 2, 1) := by decide +kernel
theorem d_Model_law_131 : decode M_Model_law.2.1 131 = .ok (.iinc 4 1, 3) := by decide +kernel
theorem d_Model_law_134 : decode M_Model_law.2.1 134 = .ok (.goto (-109), 3) := by decide +kernel
theorem d_Model_law_137 : decode M_Model_law.2.1 137 = .ok (.iload_n 2, 1) := by decide +kernel
theorem d_Model_law_138 : decode M_Model_law.2.1 138 = .ok (.iconst (-1), 1) := by decide +kernel
theorem d_Model_law_139 : decode M_Model_law.2.1 139 = .ok (.if_icmp .ne 7, 3) := by decide +kernel
theorem d_Model_law_142 : decode M_Model_law.2.1 142 = .ok (.iconst (-1), 1) := by decide +kernel
theorem d_Model_law_143 : decode M_Model_law.2.1 143 = .ok (.goto 18, 3) := by decide +kernel
theorem d_Model_law_146 : decode M_Model_law.2.1 146 = .ok (.iload_n 3, 1) := by decide +kernel
theorem d_Model_law_147 : decode M_Model_law.2.1 147 = .ok (.ifCond .eq 8, 3) := by decide +kernel
theorem d_Model_law_150 : decode M_Model_law.2.1 150 = .ok (.bipush (-2), 2) := by decide +kernel
theorem d_Model_law_152 : decode M_Model_law.2.1 152 = .ok (.goto 9, 3) := by decide +kernel
theorem d_Model_law_155 : decode M_Model_law.2.1 155 = .ok (.aload_n 0, 1) := by decide +kernel
theorem d_Model_law_156 : decode M_Model_law.2.1 156 = .ok (.iload_n 2, 1) := by decide +kernel
theorem d_Model_law_157 : decode M_Model_law.2.1 157 = .ok (.iconst 4, 1) := by decide +kernel
theorem d_Model_law_158 : decode M_Model_law.2.1 158 = .ok (.invokevirtual 305, 3) := by decide +kernel
theorem d_Model_law_161 : decode M_Model_law.2.1 161 = .ok (.ireturn, 1) := by decide +kernel

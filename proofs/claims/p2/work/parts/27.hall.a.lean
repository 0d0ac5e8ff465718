/-! decode rows of 27.hall (by program) -/
theorem d_Hall_putBytes_0 : decode M_Hall_putBytes.2.1 0 = .ok (.bipush 24, 2) := by decide +kernel
theorem d_Hall_putBytes_2 : decode M_Hall_putBytes.2.1 2 = .ok (.istore_n 2, 1) := by decide +kernel
theorem d_Hall_putBytes_3 : decode M_Hall_putBytes.2.1 3 = .ok (.iload_n 2, 1) := by decide +kernel
theorem d_Hall_putBytes_4 : decode M_Hall_putBytes.2.1 4 = .ok (.ifCond .lt 42, 3) := by decide +kernel
theorem d_Hall_putBytes_7 : decode M_Hall_putBytes.2.1 7 = .ok (.aload_n 0, 1) := by decide +kernel
theorem d_Hall_putBytes_8 : decode M_Hall_putBytes.2.1 8 = .ok (.getfield 103, 3) := by decide +kernel
theorem d_Hall_putBytes_11 : decode M_Hall_putBytes.2.1 11 = .ok (.sipush 700, 3) := by decide +kernel
theorem d_Hall_putBytes_14 : decode M_Hall_putBytes.2.1 14 = .ok (.if_icmp .ge 26, 3) := by decide +kernel
theorem d_Hall_putBytes_17 : decode M_Hall_putBytes.2.1 17 = .ok (.aload_n 0, 1) := by decide +kernel
theorem d_Hall_putBytes_18 : decode M_Hall_putBytes.2.1 18 = .ok (.getfield 9, 3) := by decide +kernel
theorem d_Hall_putBytes_21 : decode M_Hall_putBytes.2.1 21 = .ok (.aload_n 0, 1) := by decide +kernel
theorem d_Hall_putBytes_22 : decode M_Hall_putBytes.2.1 22 = .ok (.getfield 103, 3) := by decide +kernel
theorem d_Hall_putBytes_25 : decode M_Hall_putBytes.2.1 25 = .ok (.iload_n 1, 1) := by decide +kernel
theorem d_Hall_putBytes_26 : decode M_Hall_putBytes.2.1 26 = .ok (.iload_n 2, 1) := by decide +kernel
theorem d_Hall_putBytes_27 : decode M_Hall_putBytes.2.1 27 = .ok (.iushr, 1) := by decide +kernel
theorem d_Hall_putBytes_28 : decode M_Hall_putBytes.2.1 28 = .ok (.i2b, 1) := by decide +kernel
theorem d_Hall_putBytes_29 : decode M_Hall_putBytes.2.1 29 = .ok (.bastore, 1) := by decide +kernel
theorem d_Hall_putBytes_30 : decode M_Hall_putBytes.2.1 30 = .ok (.aload_n 0, 1) := by decide +kernel
theorem d_Hall_putBytes_31 : decode M_Hall_putBytes.2.1 31 = .ok (.dup, 1) := by decide +kernel
theorem d_Hall_putBytes_32 : decode M_Hall_putBytes.2.1 32 = .ok (.getfield 103, 3) := by decide +kernel
theorem d_Hall_putBytes_35 : decode M_Hall_putBytes.2.1 35 = .ok (.iconst 1, 1) := by decide +kernel
theorem d_Hall_putBytes_36 : decode M_Hall_putBytes.2.1 36 = .ok (.iadd, 1) := by decide +kernel
theorem d_Hall_putBytes_37 : decode M_Hall_putBytes.2.1 37 = .ok (.putfield 103, 3) := by decide +kernel
theorem d_Hall_putBytes_40 : decode M_Hall_putBytes.2.1 40 = .ok (.iinc 2 (-8), 3) := by decide +kernel
theorem d_Hall_putBytes_43 : decode M_Hall_putBytes.2.1 43 = .ok (.goto (-40), 3) := by decide +kernel
theorem d_Hall_putBytes_46 : decode M_Hall_putBytes.2.1 46 = .ok (.return_, 1) := by decide +kernel
theorem d_Hall_feed_0 : decode M_Hall_feed.2.1 0 = .ok (.aload_n 0, 1) := by decide +kernel
theorem d_Hall_feed_1 : decode M_Hall_feed.2.1 1 = .ok (.getfield 103, 3) := by decide +kernel
theorem d_Hall_feed_4 : decode M_Hall_feed.2.1 4 = .ok (.bipush 20, 2) := by decide +kernel
theorem d_Hall_feed_6 : decode M_Hall_feed.2.1 6 = .ok (.iadd, 1) := by decide +kernel
theorem d_Hall_feed_7 : decode M_Hall_feed.2.1 7 = .ok (.sipush 700, 3) := by decide +kernel
theorem d_Hall_feed_10 : decode M_Hall_feed.2.1 10 = .ok (.if_icmp .le 5, 3) := by decide +kernel
theorem d_Hall_feed_13 : decode M_Hall_feed.2.1 13 = .ok (.iconst (-1), 1) := by decide +kernel
theorem d_Hall_feed_14 : decode M_Hall_feed.2.1 14 = .ok (.ireturn, 1) := by decide +kernel
theorem d_Hall_feed_15 : decode M_Hall_feed.2.1 15 = .ok (.aload_n 0, 1) := by decide +kernel
theorem d_Hall_feed_16 : decode M_Hall_feed.2.1 16 = .ok (.iload_n 1, 1) := by decide +kernel
theorem d_Hall_feed_17 : decode M_Hall_feed.2.1 17 = .ok (.invokevirtual 106, 3) := by decide +kernel
theorem d_Hall_feed_20 : decode M_Hall_feed.2.1 20 = .ok (.aload_n 0, 1) := by decide +kernel
theorem d_Hall_feed_21 : decode M_Hall_feed.2.1 21 = .ok (.iload_n 2, 1) := by decide +kernel
theorem d_Hall_feed_22 : decode M_Hall_feed.2.1 22 = .ok (.invokevirtual 106, 3) := by decide +kernel
theorem d_Hall_feed_25 : decode M_Hall_feed.2.1 25 = .ok (.aload_n 0, 1) := by decide +kernel
theorem d_Hall_feed_26 : decode M_Hall_feed.2.1 26 = .ok (.iload_n 3, 1) := by decide +kernel
theorem d_Hall_feed_27 : decode M_Hall_feed.2.1 27 = .ok (.invokevirtual 106, 3) := by decide +kernel
theorem d_Hall_feed_30 : decode M_Hall_feed.2.1 30 = .ok (.aload_n 0, 1) := by decide +kernel
theorem d_Hall_feed_31 : decode M_Hall_feed.2.1 31 = .ok (.iload 4, 2) := by decide +kernel
theorem d_Hall_feed_33 : decode M_Hall_feed.2.1 33 = .ok (.invokevirtual 106, 3) := by decide +kernel
theorem d_Hall_feed_36 : decode M_Hall_feed.2.1 36 = .ok (.aload_n 0, 1) := by decide +kernel
theorem d_Hall_feed_37 : decode M_Hall_feed.2.1 37 = .ok (.iload 5, 2) := by decide +kernel
theorem d_Hall_feed_39 : decode M_Hall_feed.2.1 39 = .ok (.invokevirtual 106, 3) := by decide +kernel
theorem d_Hall_feed_42 : decode M_Hall_feed.2.1 42 = .ok (.aload_n 0, 1) := by decide +kernel
theorem d_Hall_feed_43 : decode M_Hall_feed.2.1 43 = .ok (.getfield 103, 3) := by decide +kernel
theorem d_Hall_feed_46 : decode M_Hall_feed.2.1 46 = .ok (.ireturn, 1) := by decide +kernel
theorem d_Hall_archive_0 : decode M_Hall_archive.2.1 0 = .ok (.iload_n 1, 1) := by decide +kernel
theorem d_Hall_archive_1 : decode M_Hall_archive.2.1 1 = .ok (.ifCond .lt 11, 3) := by decide +kernel
theorem d_Hall_archive_4 : decode M_Hall_archive.2.1 4 = .ok (.iload_n 1, 1) := by decide +kernel
theorem d_Hall_archive_5 : decode M_Hall_archive.2.1 5 = .ok (.aload_n 0, 1) := by decide +kernel
theorem d_Hall_archive_6 : decode M_Hall_archive.2.1 6 = .ok (.getfield 103, 3) := by decide +kernel
theorem d_Hall_archive_9 : decode M_Hall_archive.2.1 9 = .ok (.if_icmp .le 13, 3) := by decide +kernel
theorem d_Hall_archive_12 : decode M_Hall_archive.2.1 12 = .ok (.new 110, 3) := by decide +kernel
theorem d_Hall_archive_15 : decode M_Hall_archive.2.1 15 = .ok (.dup, 1) := by decide +kernel
theorem d_Hall_archive_16 : decode M_Hall_archive.2.1 16 = .ok (.ldc 112, 2) := by decide +kernel
theorem d_Hall_archive_18 : decode M_Hall_archive.2.1 18 = .ok (.invokespecial 114, 3) := by decide +kernel
theorem d_Hall_archive_21 : decode M_Hall_archive.2.1 21 = .ok (.athrow, 1) := by decide +kernel
theorem d_Hall_archive_22 : decode M_Hall_archive.2.1 22 = .ok (.aload_n 0, 1) := by decide +kernel
theorem d_Hall_archive_23 : decode M_Hall_archive.2.1 23 = .ok (.iconst 0, 1) := by decide +kernel
theorem d_Hall_archive_24 : decode M_Hall_archive.2.1 24 = .ok (.putfield 103, 3) := by decide +kernel
theorem d_Hall_archive_27 : decode M_Hall_archive.2.1 27 = .ok (.aload_n 0, 1) := by decide +kernel
theorem d_Hall_archive_28 : decode M_Hall_archive.2.1 28 = .ok (.getfield 26, 3) := by decide +kernel
theorem d_Hall_archive_31 : decode M_Hall_archive.2.1 31 = .ok (.iload_n 1, 1) := by decide +kernel
theorem d_Hall_archive_32 : decode M_Hall_archive.2.1 32 = .ok (.invokevirtual 117, 3) := by decide +kernel
theorem d_Hall_archive_35 : decode M_Hall_archive.2.1 35 = .ok (.aload_n 0, 1) := by decide +kernel
theorem d_Hall_archive_36 : decode M_Hall_archive.2.1 36 = .ok (.getfield 26, 3) := by decide +kernel
theorem d_Hall_archive_39 : decode M_Hall_archive.2.1 39 = .ok (.getfield 120, 3) := by decide +kernel
theorem d_Hall_archive_42 : decode M_Hall_archive.2.1 42 = .ok (.ifCond .eq 32, 3) := by decide +kernel
theorem d_Hall_archive_45 : decode M_Hall_archive.2.1 45 = .ok (.aload_n 0, 1) := by decide +kernel
theorem d_Hall_archive_46 : decode M_Hall_archive.2.1 46 = .ok (.aload_n 0, 1) := by decide +kernel
theorem d_Hall_archive_47 : decode M_Hall_archive.2.1 47 = .ok (.getfield 26, 3) := by decide +kernel
theorem d_Hall_archive_50 : decode M_Hall_archive.2.1 50 = .ok (.getfield 123, 3) := by decide +kernel
theorem d_Hall_archive_53 : decode M_Hall_archive.2.1 53 = .ok (.putfield 13, 3) := by decide +kernel
theorem d_Hall_archive_56 : decode M_Hall_archive.2.1 56 = .ok (.aload_n 0, 1) := by decide +kernel
theorem d_Hall_archive_57 : decode M_Hall_archive.2.1 57 = .ok (.getfield 17, 3) := by decide +kernel
theorem d_Hall_archive_60 : decode M_Hall_archive.2.1 60 = .ok (.iconst 0, 1) := by decide +kernel
theorem d_Hall_archive_61 : decode M_Hall_archive.2.1 61 = .ok (.dup2, 1) := by decide +kernel
theorem d_Hall_archive_62 : decode M_Hall_archive.2.1 62 = .ok (.iaload, 1) := by decide +kernel
theorem d_Hall_archive_63 : decode M_Hall_archive.2.1 63 = .ok (.iconst 1, 1) := by decide +kernel
theorem d_Hall_archive_64 : decode M_Hall_archive.2.1 64 = .ok (.iadd, 1) := by decide +kernel
theorem d_Hall_archive_65 : decode M_Hall_archive.2.1 65 = .ok (.iastore, 1) := by decide +kernel
theorem d_Hall_archive_66 : decode M_Hall_archive.2.1 66 = .ok (.aload_n 0, 1) := by decide +kernel
theorem d_Hall_archive_67 : decode M_Hall_archive.2.1 67 = .ok (.getfield 26, 3) := by decide +kernel
theorem d_Hall_archive_70 : decode M_Hall_archive.2.1 70 = .ok (.getfield 120, 3) := by decide +kernel
theorem d_Hall_archive_73 : decode M_Hall_archive.2.1 73 = .ok (.ireturn, 1) := by decide +kernel
theorem d_Hall_archive_74 : decode M_Hall_archive.2.1 74 = .ok (.aload_n 0, 1) := by decide +kernel
theorem d_Hall_archive_75 : decode M_Hall_archive.2.1 75 = .ok (.iconst (-1), 1) := by decide +kernel
theorem d_Hall_archive_76 : decode M_Hall_archive.2.1 76 = .ok (.putfield 13, 3) := by decide +kernel
theorem d_Hall_archive_79 : decode M_Hall_archive.2.1 79 = .ok (.aload_n 0, 1) := by decide +kernel
theorem d_Hall_archive_80 : decode M_Hall_archive.2.1 80 = .ok (.getfield 33, 3) := by decide +kernel
theorem d_Hall_archive_83 : decode M_Hall_archive.2.1 83 = .ok (.aload_n 0, 1) := by decide +kernel
theorem d_Hall_archive_84 : decode M_Hall_archive.2.1 84 = .ok (.getfield 26, 3) := by decide +kernel
theorem d_Hall_archive_87 : decode M_Hall_archive.2.1 87 = .ok (.getfield 126, 3) := by decide +kernel
theorem d_Hall_archive_90 : decode M_Hall_archive.2.1 90 = .ok (.invokevirtual 127, 3) := by decide +kernel
theorem d_Hall_archive_93 : decode M_Hall_archive.2.1 93 = .ok (.aload_n 0, 1) := by decide +kernel
theorem d_Hall_archive_94 : decode M_Hall_archive.2.1 94 = .ok (.getfield 42, 3) := by decide +kernel
theorem d_Hall_archive_97 : decode M_Hall_archive.2.1 97 = .ok (.aload_n 0, 1) := by decide +kernel
theorem d_Hall_archive_98 : decode M_Hall_archive.2.1 98 = .ok (.getfield 26, 3) := by decide +kernel
theorem d_Hall_archive_101 : decode M_Hall_archive.2.1 101 = .ok (.getfield 130, 3) := by decide +kernel
theorem d_Hall_archive_104 : decode M_Hall_archive.2.1 104 = .ok (.invokevirtual 131, 3) := by decide +kernel
theorem d_Hall_archive_107 : decode M_Hall_archive.2.1 107 = .ok (.aload_n 0, 1) := by decide +kernel
theorem d_Hall_archive_108 : decode M_Hall_archive.2.1 108 = .ok (.getfield 49, 3) := by decide +kernel
theorem d_Hall_archive_111 : decode M_Hall_archive.2.1 111 = .ok (.iconst 0, 1) := by decide +kernel
theorem d_Hall_archive_112 : decode M_Hall_archive.2.1 112 = .ok (.putfield 133, 3) := by decide +kernel
theorem d_Hall_archive_115 : decode M_Hall_archive.2.1 115 = .ok (.aload_n 0, 1) := by decide +kernel
theorem d_Hall_archive_116 : decode M_Hall_archive.2.1 116 = .ok (.getfield 56, 3) := by decide +kernel
theorem d_Hall_archive_119 : decode M_Hall_archive.2.1 119 = .ok (.iconst 0, 1) := by decide +kernel
theorem d_Hall_archive_120 : decode M_Hall_archive.2.1 120 = .ok (.putfield 136, 3) := by decide +kernel
theorem d_Hall_archive_123 : decode M_Hall_archive.2.1 123 = .ok (.aload_n 0, 1) := by decide +kernel
theorem d_Hall_archive_124 : decode M_Hall_archive.2.1 124 = .ok (.getfield 63, 3) := by decide +kernel
theorem d_Hall_archive_127 : decode M_Hall_archive.2.1 127 = .ok (.iconst 0, 1) := by decide +kernel
theorem d_Hall_archive_128 : decode M_Hall_archive.2.1 128 = .ok (.putfield 137, 3) := by decide +kernel
theorem d_Hall_archive_131 : decode M_Hall_archive.2.1 131 = .ok (.iconst 0, 1) := by decide +kernel
theorem d_Hall_archive_132 : decode M_Hall_archive.2.1 132 = .ok (.ireturn, 1) := by decide +kernel
theorem d_Hall_fault_0 : decode M_Hall_fault.2.1 0 = .ok (.aload_n 0, 1) := by decide +kernel
theorem d_Hall_fault_1 : decode M_Hall_fault.2.1 1 = .ok (.getfield 13, 3) := by decide +kernel
theorem d_Hall_fault_4 : decode M_Hall_fault.2.1 4 = .ok (.ireturn, 1) := by decide +kernel
theorem d_Hall_count_0 : decode M_Hall_count.2.1 0 = .ok (.iload_n 1, 1) := by decide +kernel
theorem d_Hall_count_1 : decode M_Hall_count.2.1 1 = .ok (.tableswitch 195 0 14 #[75, 83, 91, 99, 107, 115, 123, 134, 145, 153, 161, 169, 174, 181, 188], 75) := by decide +kernel
theorem d_Hall_count_76 : decode M_Hall_count.2.1 76 = .ok (.aload_n 0, 1) := by decide +kernel
theorem d_Hall_count_77 : decode M_Hall_count.2.1 77 = .ok (.getfield 33, 3) := by decide +kernel
theorem d_Hall_count_80 : decode M_Hall_count.2.1 80 = .ok (.getfield 141, 3) := by decide +kernel
theorem d_Hall_count_83 : decode M_Hall_count.2.1 83 = .ok (.ireturn, 1) := by decide +kernel
theorem d_Hall_count_84 : decode M_Hall_count.2.1 84 = .ok (.aload_n 0, 1) := by decide +kernel
theorem d_Hall_count_85 : decode M_Hall_count.2.1 85 = .ok (.getfield 42, 3) := by decide +kernel
theorem d_Hall_count_88 : decode M_Hall_count.2.1 88 = .ok (.getfield 144, 3) := by decide +kernel
theorem d_Hall_count_91 : decode M_Hall_count.2.1 91 = .ok (.ireturn, 1) := by decide +kernel
theorem d_Hall_count_92 : decode M_Hall_count.2.1 92 = .ok (.aload_n 0, 1) := by decide +kernel
theorem d_Hall_count_93 : decode M_Hall_count.2.1 93 = .ok (.getfield 33, 3) := by decide +kernel
theorem d_Hall_count_96 : decode M_Hall_count.2.1 96 = .ok (.getfield 147, 3) := by decide +kernel
theorem d_Hall_count_99 : decode M_Hall_count.2.1 99 = .ok (.ireturn, 1) := by decide +kernel
theorem d_Hall_count_100 : decode M_Hall_count.2.1 100 = .ok (.aload_n 0, 1) := by decide +kernel
theorem d_Hall_count_101 : decode M_Hall_count.2.1 101 = .ok (.getfield 33, 3) := by decide +kernel
theorem d_Hall_count_104 : decode M_Hall_count.2.1 104 = .ok (.getfield 150, 3) := by decide +kernel
theorem d_Hall_count_107 : decode M_Hall_count.2.1 107 = .ok (.ireturn, 1) := by decide +kernel
theorem d_Hall_count_108 : decode M_Hall_count.2.1 108 = .ok (.aload_n 0, 1) := by decide +kernel
theorem d_Hall_count_109 : decode M_Hall_count.2.1 109 = .ok (.getfield 33, 3) := by decide +kernel
theorem d_Hall_count_112 : decode M_Hall_count.2.1 112 = .ok (.getfield 153, 3) := by decide +kernel
theorem d_Hall_count_115 : decode M_Hall_count.2.1 115 = .ok (.ireturn, 1) := by decide +kernel
theorem d_Hall_count_116 : decode M_Hall_count.2.1 116 = .ok (.aload_n 0, 1) := by decide +kernel
theorem d_Hall_count_117 : decode M_Hall_count.2.1 117 = .ok (.getfield 42, 3) := by decide +kernel
theorem d_Hall_count_120 : decode M_Hall_count.2.1 120 = .ok (.getfield 156, 3) := by decide +kernel
theorem d_Hall_count_123 : decode M_Hall_count.2.1 123 = .ok (.ireturn, 1) := by decide +kernel
theorem d_Hall_count_124 : decode M_Hall_count.2.1 124 = .ok (.aload_n 0, 1) := by decide +kernel
theorem d_Hall_count_125 : decode M_Hall_count.2.1 125 = .ok (.getfield 42, 3) := by decide +kernel
theorem d_Hall_count_128 : decode M_Hall_count.2.1 128 = .ok (.invokevirtual 159, 3) := by decide +kernel
theorem d_Hall_count_131 : decode M_Hall_count.2.1 131 = .ok (.invokestatic 163, 3) := by decide +kernel
theorem d_Hall_count_134 : decode M_Hall_count.2.1 134 = .ok (.ireturn, 1) := by decide +kernel
theorem d_Hall_count_135 : decode M_Hall_count.2.1 135 = .ok (.aload_n 0, 1) := by decide +kernel
theorem d_Hall_count_136 : decode M_Hall_count.2.1 136 = .ok (.getfield 42, 3) := by decide +kernel
theorem d_Hall_count_139 : decode M_Hall_count.2.1 139 = .ok (.invokevirtual 169, 3) := by decide +kernel
theorem d_Hall_count_142 : decode M_Hall_count.2.1 142 = .ok (.invokestatic 163, 3) := by decide +kernel
theorem d_Hall_count_145 : decode M_Hall_count.2.1 145 = .ok (.ireturn, 1) := by decide +kernel
theorem d_Hall_count_146 : decode M_Hall_count.2.1 146 = .ok (.aload_n 0, 1) := by decide +kernel
theorem d_Hall_count_147 : decode M_Hall_count.2.1 147 = .ok (.getfield 42, 3) := by decide +kernel
theorem d_Hall_count_150 : decode M_Hall_count.2.1 150 = .ok (.invokevirtual 172, 3) := by decide +kernel
theorem d_Hall_count_153 : decode M_Hall_count.2.1 153 = .ok (.ireturn, 1) := by decide +kernel
theorem d_Hall_count_154 : decode M_Hall_count.2.1 154 = .ok (.aload_n 0, 1) := by decide +kernel
theorem d_Hall_count_155 : decode M_Hall_count.2.1 155 = .ok (.getfield 49, 3) := by decide +kernel
theorem d_Hall_count_158 : decode M_Hall_count.2.1 158 = .ok (.getfield 133, 3) := by decide +kernel
theorem d_Hall_count_161 : decode M_Hall_count.2.1 161 = .ok (.ireturn, 1) := by decide +kernel
theorem d_Hall_count_162 : decode M_Hall_count.2.1 162 = .ok (.aload_n 0, 1) := by decide +kernel
theorem d_Hall_count_163 : decode M_Hall_count.2.1 163 = .ok (.getfield 56, 3) := by decide +kernel
theorem d_Hall_count_166 : decode M_Hall_count.2.1 166 = .ok (.getfield 136, 3) := by decide +kernel
theorem d_Hall_count_169 : decode M_Hall_count.2.1 169 = .ok (.ireturn, 1) := by decide +kernel
theorem d_Hall_count_170 : decode M_Hall_count.2.1 170 = .ok (.aload_n 0, 1) := by decide +kernel
theorem d_Hall_count_171 : decode M_Hall_count.2.1 171 = .ok (.getfield 103, 3) := by decide +kernel
theorem d_Hall_count_174 : decode M_Hall_count.2.1 174 = .ok (.ireturn, 1) := by decide +kernel
theorem d_Hall_count_175 : decode M_Hall_count.2.1 175 = .ok (.aload_n 0, 1) := by decide +kernel
theorem d_Hall_count_176 : decode M_Hall_count.2.1 176 = .ok (.getfield 17, 3) := by decide +kernel
theorem d_Hall_count_179 : decode M_Hall_count.2.1 179 = .ok (.iconst 0, 1) := by decide +kernel
theorem d_Hall_count_180 : decode M_Hall_count.2.1 180 = .ok (.iaload, 1) := by decide +kernel
theorem d_Hall_count_181 : decode M_Hall_count.2.1 181 = .ok (.ireturn, 1) := by decide +kernel
theorem d_Hall_count_182 : decode M_Hall_count.2.1 182 = .ok (.aload_n 0, 1) := by decide +kernel
theorem d_Hall_count_183 : decode M_Hall_count.2.1 183 = .ok (.getfield 17, 3) := by decide +kernel
theorem d_Hall_count_186 : decode M_Hall_count.2.1 186 = .ok (.iconst 1, 1) := by decide +kernel
theorem d_Hall_count_187 : decode M_Hall_count.2.1 187 = .ok (.iaload, 1) := by decide +kernel
theorem d_Hall_count_188 : decode M_Hall_count.2.1 188 = .ok (.ireturn, 1) := by decide +kernel
theorem d_Hall_count_189 : decode M_Hall_count.2.1 189 = .ok (.aload_n 0, 1) := by decide +kernel
theorem d_Hall_count_190 : decode M_Hall_count.2.1 190 = .ok (.getfield 17, 3) := by decide +kernel
theorem d_Hall_count_193 : decode M_Hall_count.2.1 193 = .ok (.iconst 2, 1) := by decide +kernel
theorem d_Hall_count_194 : decode M_Hall_count.2.1 194 = .ok (.iaload, 1) := by decide +kernel
theorem d_Hall_count_195 : decode M_Hall_count.2.1 195 = .ok (.ireturn, 1) := by decide +kernel
theorem d_Hall_count_196 : decode M_Hall_count.2.1 196 = .ok (.new 175, 3) := by decide +kernel
theorem d_Hall_count_199 : decode M_Hall_count.2.1 199 = .ok (.dup, 1) := by decide +kernel
theorem d_Hall_count_200 : decode M_Hall_count.2.1 200 = .ok (.ldc 177, 2) := by decide +kernel
theorem d_Hall_count_202 : decode M_Hall_count.2.1 202 = .ok (.invokespecial 179, 3) := by decide +kernel
theorem d_Hall_count_205 : decode M_Hall_count.2.1 205 = .ok (.athrow, 1) := by decide +kernel
theorem d_Hall_needMonk_0 : decode M_Hall_needMonk.2.1 0 = .ok (.iload_n 1, 1) := by decide +kernel
theorem d_Hall_needMonk_1 : decode M_Hall_needMonk.2.1 1 = .ok (.ifCond .lt 14, 3) := by decide +kernel
theorem d_Hall_needMonk_4 : decode M_Hall_needMonk.2.1 4 = .ok (.iload_n 1, 1) := by decide +kernel
theorem d_Hall_needMonk_5 : decode M_Hall_needMonk.2.1 5 = .ok (.aload_n 0, 1) := by decide +kernel
theorem d_Hall_needMonk_6 : decode M_Hall_needMonk.2.1 6 = .ok (.getfield 33, 3) := by decide +kernel
theorem d_Hall_needMonk_9 : decode M_Hall_needMonk.2.1 9 = .ok (.getfield 141, 3) := by decide +kernel
theorem d_Hall_needMonk_12 : decode M_Hall_needMonk.2.1 12 = .ok (.if_icmp .lt 14, 3) := by decide +kernel
theorem d_Hall_needMonk_15 : decode M_Hall_needMonk.2.1 15 = .ok (.new 175, 3) := by decide +kernel
theorem d_Hall_needMonk_18 : decode M_Hall_needMonk.2.1 18 = .ok (.dup, 1) := by decide +kernel
theorem d_Hall_needMonk_19 : decode M_Hall_needMonk.2.1 19 = .ok (.ldc_w 420, 3) := by decide +kernel
theorem d_Hall_needMonk_22 : decode M_Hall_needMonk.2.1 22 = .ok (.invokespecial 179, 3) := by decide +kernel
theorem d_Hall_needMonk_25 : decode M_Hall_needMonk.2.1 25 = .ok (.athrow, 1) := by decide +kernel
theorem d_Hall_needMonk_26 : decode M_Hall_needMonk.2.1 26 = .ok (.return_, 1) := by decide +kernel
theorem d_Hall_monk_0 : decode M_Hall_monk.2.1 0 = .ok (.aload_n 0, 1) := by decide +kernel
theorem d_Hall_monk_1 : decode M_Hall_monk.2.1 1 = .ok (.iload_n 1, 1) := by decide +kernel
theorem d_Hall_monk_2 : decode M_Hall_monk.2.1 2 = .ok (.invokevirtual 180, 3) := by decide +kernel
theorem d_Hall_monk_5 : decode M_Hall_monk.2.1 5 = .ok (.iload_n 2, 1) := by decide +kernel
theorem d_Hall_monk_6 : decode M_Hall_monk.2.1 6 = .ok (.tableswitch 105 0 5 #[38, 48, 57, 67, 76, 93], 38) := by decide +kernel
theorem d_Hall_monk_44 : decode M_Hall_monk.2.1 44 = .ok (.aload_n 0, 1) := by decide +kernel
theorem d_Hall_monk_45 : decode M_Hall_monk.2.1 45 = .ok (.getfield 33, 3) := by decide +kernel
theorem d_Hall_monk_48 : decode M_Hall_monk.2.1 48 = .ok (.getfield 183, 3) := by decide +kernel
theorem d_Hall_monk_51 : decode M_Hall_monk.2.1 51 = .ok (.iload_n 1, 1) := by decide +kernel
theorem d_Hall_monk_52 : decode M_Hall_monk.2.1 52 = .ok (.iaload, 1) := by decide +kernel
theorem d_Hall_monk_53 : decode M_Hall_monk.2.1 53 = .ok (.ireturn, 1) := by decide +kernel
theorem d_Hall_monk_54 : decode M_Hall_monk.2.1 54 = .ok (.aload_n 0, 1) := by decide +kernel
theorem d_Hall_monk_55 : decode M_Hall_monk.2.1 55 = .ok (.getfield 42, 3) := by decide +kernel
theorem d_Hall_monk_58 : decode M_Hall_monk.2.1 58 = .ok (.iload_n 1, 1) := by decide +kernel
theorem d_Hall_monk_59 : decode M_Hall_monk.2.1 59 = .ok (.invokevirtual 186, 3) := by decide +kernel
theorem d_Hall_monk_62 : decode M_Hall_monk.2.1 62 = .ok (.ireturn, 1) := by decide +kernel
theorem d_Hall_monk_63 : decode M_Hall_monk.2.1 63 = .ok (.aload_n 0, 1) := by decide +kernel
theorem d_Hall_monk_64 : decode M_Hall_monk.2.1 64 = .ok (.getfield 42, 3) := by decide +kernel
theorem d_Hall_monk_67 : decode M_Hall_monk.2.1 67 = .ok (.getfield 189, 3) := by decide +kernel
theorem d_Hall_monk_70 : decode M_Hall_monk.2.1 70 = .ok (.iload_n 1, 1) := by decide +kernel
theorem d_Hall_monk_71 : decode M_Hall_monk.2.1 71 = .ok (.iaload, 1) := by decide +kernel
theorem d_Hall_monk_72 : decode M_Hall_monk.2.1 72 = .ok (.ireturn, 1) := by decide +kernel
theorem d_Hall_monk_73 : decode M_Hall_monk.2.1 73 = .ok (.aload_n 0, 1) := by decide +kernel
theorem d_Hall_monk_74 : decode M_Hall_monk.2.1 74 = .ok (.getfield 33, 3) := by decide +kernel
theorem d_Hall_monk_77 : decode M_Hall_monk.2.1 77 = .ok (.iload_n 1, 1) := by decide +kernel
theorem d_Hall_monk_78 : decode M_Hall_monk.2.1 78 = .ok (.invokevirtual 192, 3) := by decide +kernel
theorem d_Hall_monk_81 : decode M_Hall_monk.2.1 81 = .ok (.ireturn, 1) := by decide +kernel
theorem d_Hall_monk_82 : decode M_Hall_monk.2.1 82 = .ok (.aload_n 0, 1) := by decide +kernel
theorem d_Hall_monk_83 : decode M_Hall_monk.2.1 83 = .ok (.getfield 42, 3) := by decide +kernel
theorem d_Hall_monk_86 : decode M_Hall_monk.2.1 86 = .ok (.iload_n 1, 1) := by decide +kernel
theorem d_Hall_monk_87 : decode M_Hall_monk.2.1 87 = .ok (.invokevirtual 195, 3) := by decide +kernel
theorem d_Hall_monk_90 : decode M_Hall_monk.2.1 90 = .ok (.ifCond .eq 7, 3) := by decide +kernel
theorem d_Hall_monk_93 : decode M_Hall_monk.2.1 93 = .ok (.iconst 1, 1) := by decide +kernel
theorem d_Hall_monk_94 : decode M_Hall_monk.2.1 94 = .ok (.goto 4, 3) := by decide +kernel
theorem d_Hall_monk_97 : decode M_Hall_monk.2.1 97 = .ok (.iconst 0, 1) := by decide +kernel
theorem d_Hall_monk_98 : decode M_Hall_monk.2.1 98 = .ok (.ireturn, 1) := by decide +kernel
theorem d_Hall_monk_99 : decode M_Hall_monk.2.1 99 = .ok (.aload_n 0, 1) := by decide +kernel
theorem d_Hall_monk_100 : decode M_Hall_monk.2.1 100 = .ok (.getfield 42, 3) := by decide +kernel
theorem d_Hall_monk_103 : decode M_Hall_monk.2.1 103 = .ok (.iload_n 1, 1) := by decide +kernel
theorem d_Hall_monk_104 : decode M_Hall_monk.2.1 104 = .ok (.invokevirtual 199, 3) := by decide +kernel
theorem d_Hall_monk_107 : decode M_Hall_monk.2.1 107 = .ok (.invokestatic 163, 3) := by decide +kernel
theorem d_Hall_monk_110 : decode M_Hall_monk.2.1 110 = .ok (.ireturn, 1) := by decide +kernel
theorem d_Hall_monk_111 : decode M_Hall_monk.2.1 111 = .ok (.new 175, 3) := by decide +kernel
theorem d_Hall_monk_114 : decode M_Hall_monk.2.1 114 = .ok (.dup, 1) := by decide +kernel
theorem d_Hall_monk_115 : decode M_Hall_monk.2.1 115 = .ok (.ldc 202, 2) := by decide +kernel
theorem d_Hall_monk_117 : decode M_Hall_monk.2.1 117 = .ok (.invokespecial 179, 3) := by decide +kernel
theorem d_Hall_monk_120 : decode M_Hall_monk.2.1 120 = .ok (.athrow, 1) := by decide +kernel
theorem d_Hall_needEntry_0 : decode M_Hall_needEntry.2.1 0 = .ok (.iload_n 1, 1) := by decide +kernel
theorem d_Hall_needEntry_1 : decode M_Hall_needEntry.2.1 1 = .ok (.ifCond .lt 14, 3) := by decide +kernel
theorem d_Hall_needEntry_4 : decode M_Hall_needEntry.2.1 4 = .ok (.iload_n 1, 1) := by decide +kernel
theorem d_Hall_needEntry_5 : decode M_Hall_needEntry.2.1 5 = .ok (.aload_n 0, 1) := by decide +kernel
theorem d_Hall_needEntry_6 : decode M_Hall_needEntry.2.1 6 = .ok (.getfield 42, 3) := by decide +kernel
theorem d_Hall_needEntry_9 : decode M_Hall_needEntry.2.1 9 = .ok (.getfield 144, 3) := by decide +kernel
theorem d_Hall_needEntry_12 : decode M_Hall_needEntry.2.1 12 = .ok (.if_icmp .lt 14, 3) := by decide +kernel
theorem d_Hall_needEntry_15 : decode M_Hall_needEntry.2.1 15 = .ok (.new 175, 3) := by decide +kernel
theorem d_Hall_needEntry_18 : decode M_Hall_needEntry.2.1 18 = .ok (.dup, 1) := by decide +kernel
theorem d_Hall_needEntry_19 : decode M_Hall_needEntry.2.1 19 = .ok (.ldc_w 422, 3) := by decide +kernel
theorem d_Hall_needEntry_22 : decode M_Hall_needEntry.2.1 22 = .ok (.invokespecial 179, 3) := by decide +kernel
theorem d_Hall_needEntry_25 : decode M_Hall_needEntry.2.1 25 = .ok (.athrow, 1) := by decide +kernel
theorem d_Hall_needEntry_26 : decode M_Hall_needEntry.2.1 26 = .ok (.return_, 1) := by decide +kernel
theorem d_Hall_entry_0 : decode M_Hall_entry.2.1 0 = .ok (.aload_n 0, 1) := by decide +kernel
theorem d_Hall_entry_1 : decode M_Hall_entry.2.1 1 = .ok (.iload_n 1, 1) := by decide +kernel
theorem d_Hall_entry_2 : decode M_Hall_entry.2.1 2 = .ok (.invokevirtual 204, 3) := by decide +kernel
theorem d_Hall_entry_5 : decode M_Hall_entry.2.1 5 = .ok (.iload_n 2, 1) := by decide +kernel
theorem d_Hall_entry_6 : decode M_Hall_entry.2.1 6 = .ok (.ifCond .lt 9, 3) := by decide +kernel
theorem d_Hall_entry_9 : decode M_Hall_entry.2.1 9 = .ok (.iload_n 2, 1) := by decide +kernel
theorem d_Hall_entry_10 : decode M_Hall_entry.2.1 10 = .ok (.bipush 9, 2) := by decide +kernel
theorem d_Hall_entry_12 : decode M_Hall_entry.2.1 12 = .ok (.if_icmp .le 13, 3) := by decide +kernel
theorem d_Hall_entry_15 : decode M_Hall_entry.2.1 15 = .ok (.new 175, 3) := by decide +kernel
theorem d_Hall_entry_18 : decode M_Hall_entry.2.1 18 = .ok (.dup, 1) := by decide +kernel
theorem d_Hall_entry_19 : decode M_Hall_entry.2.1 19 = .ok (.ldc 207, 2) := by decide +kernel
theorem d_Hall_entry_21 : decode M_Hall_entry.2.1 21 = .ok (.invokespecial 179, 3) := by decide +kernel
theorem d_Hall_entry_24 : decode M_Hall_entry.2.1 24 = .ok (.athrow, 1) := by decide +kernel
theorem d_Hall_entry_25 : decode M_Hall_entry.2.1 25 = .ok (.iload_n 2, 1) := by decide +kernel
theorem d_Hall_entry_26 : decode M_Hall_entry.2.1 26 = .ok (.tableswitch 73 6 9 #[30, 73, 47, 64], 30) := by decide +kernel
theorem d_Hall_entry_56 : decode M_Hall_entry.2.1 56 = .ok (.aload_n 0, 1) := by decide +kernel
theorem d_Hall_entry_57 : decode M_Hall_entry.2.1 57 = .ok (.getfield 42, 3) := by decide +kernel
theorem d_Hall_entry_60 : decode M_Hall_entry.2.1 60 = .ok (.iload_n 1, 1) := by decide +kernel
theorem d_Hall_entry_61 : decode M_Hall_entry.2.1 61 = .ok (.invokevirtual 209, 3) := by decide +kernel
theorem d_Hall_entry_64 : decode M_Hall_entry.2.1 64 = .ok (.ifCond .eq 7, 3) := by decide +kernel
theorem d_Hall_entry_67 : decode M_Hall_entry.2.1 67 = .ok (.iconst 1, 1) := by decide +kernel
theorem d_Hall_entry_68 : decode M_Hall_entry.2.1 68 = .ok (.goto 4, 3) := by decide +kernel
theorem d_Hall_entry_71 : decode M_Hall_entry.2.1 71 = .ok (.iconst 0, 1) := by decide +kernel
theorem d_Hall_entry_72 : decode M_Hall_entry.2.1 72 = .ok (.ireturn, 1) := by decide +kernel
theorem d_Hall_entry_73 : decode M_Hall_entry.2.1 73 = .ok (.aload_n 0, 1) := by decide +kernel
theorem d_Hall_entry_74 : decode M_Hall_entry.2.1 74 = .ok (.getfield 42, 3) := by decide +kernel
theorem d_Hall_entry_77 : decode M_Hall_entry.2.1 77 = .ok (.iload_n 1, 1) := by decide +kernel
theorem d_Hall_entry_78 : decode M_Hall_entry.2.1 78 = .ok (.invokevirtual 212, 3) := by decide +kernel
theorem d_Hall_entry_81 : decode M_Hall_entry.2.1 81 = .ok (.ifCond .eq 7, 3) := by decide +kernel
theorem d_Hall_entry_84 : decode M_Hall_entry.2.1 84 = .ok (.iconst 1, 1) := by decide +kernel
theorem d_Hall_entry_85 : decode M_Hall_entry.2.1 85 = .ok (.goto 4, 3) := by decide +kernel
theorem d_Hall_entry_88 : decode M_Hall_entry.2.1 88 = .ok (.iconst 0, 1) := by decide +kernel
theorem d_Hall_entry_89 : decode M_Hall_entry.2.1 89 = .ok (.ireturn, 1) := by decide +kernel
theorem d_Hall_entry_90 : decode M_Hall_entry.2.1 90 = .ok (.aload_n 0, 1) := by decide +kernel
theorem d_Hall_entry_91 : decode M_Hall_entry.2.1 91 = .ok (.getfield 42, 3) := by decide +kernel
theorem d_Hall_entry_94 : decode M_Hall_entry.2.1 94 = .ok (.iload_n 1, 1) := by decide +kernel
theorem d_Hall_entry_95 : decode M_Hall_entry.2.1 95 = .ok (.invokevirtual 215, 3) := by decide +kernel
theorem d_Hall_entry_98 : decode M_Hall_entry.2.1 98 = .ok (.ireturn, 1) := by decide +kernel
theorem d_Hall_entry_99 : decode M_Hall_entry.2.1 99 = .ok (.aload_n 0, 1) := by decide +kernel
theorem d_Hall_entry_100 : decode M_Hall_entry.2.1 100 = .ok (.getfield 33, 3) := by decide +kernel
theorem d_Hall_entry_103 : decode M_Hall_entry.2.1 103 = .ok (.iload_n 1, 1) := by decide +kernel
theorem d_Hall_entry_104 : decode M_Hall_entry.2.1 104 = .ok (.iload_n 2, 1) := by decide +kernel
theorem d_Hall_entry_105 : decode M_Hall_entry.2.1 105 = .ok (.invokevirtual 218, 3) := by decide +kernel
theorem d_Hall_entry_108 : decode M_Hall_entry.2.1 108 = .ok (.ireturn, 1) := by decide +kernel
theorem d_Hall_holders_0 : decode M_Hall_holders.2.1 0 = .ok (.aload_n 0, 1) := by decide +kernel
theorem d_Hall_holders_1 : decode M_Hall_holders.2.1 1 = .ok (.iload_n 1, 1) := by decide +kernel
theorem d_Hall_holders_2 : decode M_Hall_holders.2.1 2 = .ok (.invokevirtual 204, 3) := by decide +kernel
theorem d_Hall_holders_5 : decode M_Hall_holders.2.1 5 = .ok (.aload_n 0, 1) := by decide +kernel
theorem d_Hall_holders_6 : decode M_Hall_holders.2.1 6 = .ok (.getfield 42, 3) := by decide +kernel
theorem d_Hall_holders_9 : decode M_Hall_holders.2.1 9 = .ok (.aload_n 0, 1) := by decide +kernel
theorem d_Hall_holders_10 : decode M_Hall_holders.2.1 10 = .ok (.getfield 33, 3) := by decide +kernel
theorem d_Hall_holders_13 : decode M_Hall_holders.2.1 13 = .ok (.iload_n 1, 1) := by decide +kernel
theorem d_Hall_holders_14 : decode M_Hall_holders.2.1 14 = .ok (.bipush 7, 2) := by decide +kernel
theorem d_Hall_holders_16 : decode M_Hall_holders.2.1 16 = .ok (.invokevirtual 218, 3) := by decide +kernel
theorem d_Hall_holders_19 : decode M_Hall_holders.2.1 19 = .ok (.invokevirtual 222, 3) := by decide +kernel
theorem d_Hall_holders_22 : decode M_Hall_holders.2.1 22 = .ok (.ireturn, 1) := by decide +kernel
theorem d_Hall_tellRule_0 : decode M_Hall_tellRule.2.1 0 = .ok (.aload_n 0, 1) := by decide +kernel
theorem d_Hall_tellRule_1 : decode M_Hall_tellRule.2.1 1 = .ok (.getfield 33, 3) := by decide +kernel
theorem d_Hall_tellRule_4 : decode M_Hall_tellRule.2.1 4 = .ok (.getfield 225, 3) := by decide +kernel
theorem d_Hall_tellRule_7 : decode M_Hall_tellRule.2.1 7 = .ok (.getfield 242, 3) := by decide +kernel
theorem d_Hall_tellRule_10 : decode M_Hall_tellRule.2.1 10 = .ok (.astore 4, 2) := by decide +kernel
theorem d_Hall_tellRule_12 : decode M_Hall_tellRule.2.1 12 = .ok (.aload 4, 2) := by decide +kernel
theorem d_Hall_tellRule_14 : decode M_Hall_tellRule.2.1 14 = .ok (.iconst 0, 1) := by decide +kernel
theorem d_Hall_tellRule_15 : decode M_Hall_tellRule.2.1 15 = .ok (.aload_n 0, 1) := by decide +kernel
theorem d_Hall_tellRule_16 : decode M_Hall_tellRule.2.1 16 = .ok (.getfield 33, 3) := by decide +kernel
theorem d_Hall_tellRule_19 : decode M_Hall_tellRule.2.1 19 = .ok (.iload_n 2, 1) := by decide +kernel
theorem d_Hall_tellRule_20 : decode M_Hall_tellRule.2.1 20 = .ok (.iconst 0, 1) := by decide +kernel
theorem d_Hall_tellRule_21 : decode M_Hall_tellRule.2.1 21 = .ok (.invokevirtual 218, 3) := by decide +kernel
theorem d_Hall_tellRule_24 : decode M_Hall_tellRule.2.1 24 = .ok (.iastore, 1) := by decide +kernel
theorem d_Hall_tellRule_25 : decode M_Hall_tellRule.2.1 25 = .ok (.aload 4, 2) := by decide +kernel
theorem d_Hall_tellRule_27 : decode M_Hall_tellRule.2.1 27 = .ok (.iconst 1, 1) := by decide +kernel
theorem d_Hall_tellRule_28 : decode M_Hall_tellRule.2.1 28 = .ok (.aload_n 0, 1) := by decide +kernel
theorem d_Hall_tellRule_29 : decode M_Hall_tellRule.2.1 29 = .ok (.getfield 33, 3) := by decide +kernel
theorem d_Hall_tellRule_32 : decode M_Hall_tellRule.2.1 32 = .ok (.iload_n 2, 1) := by decide +kernel
theorem d_Hall_tellRule_33 : decode M_Hall_tellRule.2.1 33 = .ok (.iconst 5, 1) := by decide +kernel
theorem d_Hall_tellRule_34 : decode M_Hall_tellRule.2.1 34 = .ok (.invokevirtual 218, 3) := by decide +kernel
theorem d_Hall_tellRule_37 : decode M_Hall_tellRule.2.1 37 = .ok (.iastore, 1) := by decide +kernel
theorem d_Hall_tellRule_38 : decode M_Hall_tellRule.2.1 38 = .ok (.aload 4, 2) := by decide +kernel
theorem d_Hall_tellRule_40 : decode M_Hall_tellRule.2.1 40 = .ok (.iconst 2, 1) := by decide +kernel
theorem d_Hall_tellRule_41 : decode M_Hall_tellRule.2.1 41 = .ok (.aload_n 0, 1) := by decide +kernel
theorem d_Hall_tellRule_42 : decode M_Hall_tellRule.2.1 42 = .ok (.getfield 33, 3) := by decide +kernel
theorem d_Hall_tellRule_45 : decode M_Hall_tellRule.2.1 45 = .ok (.iload_n 2, 1) := by decide +kernel
theorem d_Hall_tellRule_46 : decode M_Hall_tellRule.2.1 46 = .ok (.iconst 3, 1) := by decide +kernel
theorem d_Hall_tellRule_47 : decode M_Hall_tellRule.2.1 47 = .ok (.invokevirtual 218, 3) := by decide +kernel
theorem d_Hall_tellRule_50 : decode M_Hall_tellRule.2.1 50 = .ok (.iastore, 1) := by decide +kernel
theorem d_Hall_tellRule_51 : decode M_Hall_tellRule.2.1 51 = .ok (.aload 4, 2) := by decide +kernel
theorem d_Hall_tellRule_53 : decode M_Hall_tellRule.2.1 53 = .ok (.iconst 3, 1) := by decide +kernel
theorem d_Hall_tellRule_54 : decode M_Hall_tellRule.2.1 54 = .ok (.aload_n 0, 1) := by decide +kernel
theorem d_Hall_tellRule_55 : decode M_Hall_tellRule.2.1 55 = .ok (.getfield 42, 3) := by decide +kernel
theorem d_Hall_tellRule_58 : decode M_Hall_tellRule.2.1 58 = .ok (.iload_n 2, 1) := by decide +kernel
theorem d_Hall_tellRule_59 : decode M_Hall_tellRule.2.1 59 = .ok (.invokevirtual 215, 3) := by decide +kernel
theorem d_Hall_tellRule_62 : decode M_Hall_tellRule.2.1 62 = .ok (.iastore, 1) := by decide +kernel
theorem d_Hall_tellRule_63 : decode M_Hall_tellRule.2.1 63 = .ok (.aload 4, 2) := by decide +kernel
theorem d_Hall_tellRule_65 : decode M_Hall_tellRule.2.1 65 = .ok (.bipush 6, 2) := by decide +kernel
theorem d_Hall_tellRule_67 : decode M_Hall_tellRule.2.1 67 = .ok (.aload_n 0, 1) := by decide +kernel
theorem d_Hall_tellRule_68 : decode M_Hall_tellRule.2.1 68 = .ok (.getfield 42, 3) := by decide +kernel
theorem d_Hall_tellRule_71 : decode M_Hall_tellRule.2.1 71 = .ok (.iload_n 3, 1) := by decide +kernel
theorem d_Hall_tellRule_72 : decode M_Hall_tellRule.2.1 72 = .ok (.invokevirtual 195, 3) := by decide +kernel
theorem d_Hall_tellRule_75 : decode M_Hall_tellRule.2.1 75 = .ok (.ifCond .eq 7, 3) := by decide +kernel
theorem d_Hall_tellRule_78 : decode M_Hall_tellRule.2.1 78 = .ok (.iconst 1, 1) := by decide +kernel
theorem d_Hall_tellRule_79 : decode M_Hall_tellRule.2.1 79 = .ok (.goto 4, 3) := by decide +kernel
theorem d_Hall_tellRule_82 : decode M_Hall_tellRule.2.1 82 = .ok (.iconst 0, 1) := by decide +kernel
theorem d_Hall_tellRule_83 : decode M_Hall_tellRule.2.1 83 = .ok (.iastore, 1) := by decide +kernel
theorem d_Hall_tellRule_84 : decode M_Hall_tellRule.2.1 84 = .ok (.aload 4, 2) := by decide +kernel
theorem d_Hall_tellRule_86 : decode M_Hall_tellRule.2.1 86 = .ok (.iconst 4, 1) := by decide +kernel
theorem d_Hall_tellRule_87 : decode M_Hall_tellRule.2.1 87 = .ok (.iload_n 1, 1) := by decide +kernel
theorem d_Hall_tellRule_88 : decode M_Hall_tellRule.2.1 88 = .ok (.iload_n 3, 1) := by decide +kernel
theorem d_Hall_tellRule_89 : decode M_Hall_tellRule.2.1 89 = .ok (.if_icmp .ne 7, 3) := by decide +kernel
theorem d_Hall_tellRule_92 : decode M_Hall_tellRule.2.1 92 = .ok (.iconst 1, 1) := by decide +kernel
theorem d_Hall_tellRule_93 : decode M_Hall_tellRule.2.1 93 = .ok (.goto 4, 3) := by decide +kernel
theorem d_Hall_tellRule_96 : decode M_Hall_tellRule.2.1 96 = .ok (.iconst 0, 1) := by decide +kernel
theorem d_Hall_tellRule_97 : decode M_Hall_tellRule.2.1 97 = .ok (.iastore, 1) := by decide +kernel
theorem d_Hall_tellRule_98 : decode M_Hall_tellRule.2.1 98 = .ok (.aload 4, 2) := by decide +kernel
theorem d_Hall_tellRule_100 : decode M_Hall_tellRule.2.1 100 = .ok (.iconst 5, 1) := by decide +kernel
theorem d_Hall_tellRule_101 : decode M_Hall_tellRule.2.1 101 = .ok (.aload_n 0, 1) := by decide +kernel
theorem d_Hall_tellRule_102 : decode M_Hall_tellRule.2.1 102 = .ok (.getfield 42, 3) := by decide +kernel
theorem d_Hall_tellRule_105 : decode M_Hall_tellRule.2.1 105 = .ok (.iload_n 1, 1) := by decide +kernel
theorem d_Hall_tellRule_106 : decode M_Hall_tellRule.2.1 106 = .ok (.invokevirtual 186, 3) := by decide +kernel
theorem d_Hall_tellRule_109 : decode M_Hall_tellRule.2.1 109 = .ok (.iastore, 1) := by decide +kernel
theorem d_Hall_tellRule_110 : decode M_Hall_tellRule.2.1 110 = .ok (.return_, 1) := by decide +kernel
theorem d_Hall_may_0 : decode M_Hall_may.2.1 0 = .ok (.aload_n 0, 1) := by decide +kernel
theorem d_Hall_may_1 : decode M_Hall_may.2.1 1 = .ok (.iload_n 1, 1) := by decide +kernel
theorem d_Hall_may_2 : decode M_Hall_may.2.1 2 = .ok (.invokevirtual 180, 3) := by decide +kernel
theorem d_Hall_may_5 : decode M_Hall_may.2.1 5 = .ok (.aload_n 0, 1) := by decide +kernel
theorem d_Hall_may_6 : decode M_Hall_may.2.1 6 = .ok (.iload_n 2, 1) := by decide +kernel
theorem d_Hall_may_7 : decode M_Hall_may.2.1 7 = .ok (.invokevirtual 204, 3) := by decide +kernel
theorem d_Hall_may_10 : decode M_Hall_may.2.1 10 = .ok (.aload_n 0, 1) := by decide +kernel
theorem d_Hall_may_11 : decode M_Hall_may.2.1 11 = .ok (.getfield 42, 3) := by decide +kernel
theorem d_Hall_may_14 : decode M_Hall_may.2.1 14 = .ok (.iload_n 2, 1) := by decide +kernel
theorem d_Hall_may_15 : decode M_Hall_may.2.1 15 = .ok (.invokevirtual 212, 3) := by decide +kernel
theorem d_Hall_may_18 : decode M_Hall_may.2.1 18 = .ok (.ifCond .ne 5, 3) := by decide +kernel
theorem d_Hall_may_21 : decode M_Hall_may.2.1 21 = .ok (.iconst 0, 1) := by decide +kernel
theorem d_Hall_may_22 : decode M_Hall_may.2.1 22 = .ok (.ireturn, 1) := by decide +kernel
theorem d_Hall_may_23 : decode M_Hall_may.2.1 23 = .ok (.aload_n 0, 1) := by decide +kernel
theorem d_Hall_may_24 : decode M_Hall_may.2.1 24 = .ok (.getfield 33, 3) := by decide +kernel
theorem d_Hall_may_27 : decode M_Hall_may.2.1 27 = .ok (.iload_n 2, 1) := by decide +kernel
theorem d_Hall_may_28 : decode M_Hall_may.2.1 28 = .ok (.iconst 1, 1) := by decide +kernel
theorem d_Hall_may_29 : decode M_Hall_may.2.1 29 = .ok (.invokevirtual 218, 3) := by decide +kernel
theorem d_Hall_may_32 : decode M_Hall_may.2.1 32 = .ok (.istore_n 3, 1) := by decide +kernel
theorem d_Hall_may_33 : decode M_Hall_may.2.1 33 = .ok (.aload_n 0, 1) := by decide +kernel
theorem d_Hall_may_34 : decode M_Hall_may.2.1 34 = .ok (.getfield 33, 3) := by decide +kernel
theorem d_Hall_may_37 : decode M_Hall_may.2.1 37 = .ok (.getfield 183, 3) := by decide +kernel
theorem d_Hall_may_40 : decode M_Hall_may.2.1 40 = .ok (.iload_n 3, 1) := by decide +kernel
theorem d_Hall_may_41 : decode M_Hall_may.2.1 41 = .ok (.iaload, 1) := by decide +kernel
theorem d_Hall_may_42 : decode M_Hall_may.2.1 42 = .ok (.iconst 3, 1) := by decide +kernel
theorem d_Hall_may_43 : decode M_Hall_may.2.1 43 = .ok (.if_icmp .ne 14, 3) := by decide +kernel
theorem d_Hall_may_46 : decode M_Hall_may.2.1 46 = .ok (.iload_n 1, 1) := by decide +kernel
theorem d_Hall_may_47 : decode M_Hall_may.2.1 47 = .ok (.iload_n 3, 1) := by decide +kernel
theorem d_Hall_may_48 : decode M_Hall_may.2.1 48 = .ok (.if_icmp .ne 7, 3) := by decide +kernel
theorem d_Hall_may_51 : decode M_Hall_may.2.1 51 = .ok (.iconst 1, 1) := by decide +kernel
theorem d_Hall_may_52 : decode M_Hall_may.2.1 52 = .ok (.goto 4, 3) := by decide +kernel
theorem d_Hall_may_55 : decode M_Hall_may.2.1 55 = .ok (.iconst 0, 1) := by decide +kernel
theorem d_Hall_may_56 : decode M_Hall_may.2.1 56 = .ok (.ireturn, 1) := by decide +kernel
theorem d_Hall_may_57 : decode M_Hall_may.2.1 57 = .ok (.aload_n 0, 1) := by decide +kernel
theorem d_Hall_may_58 : decode M_Hall_may.2.1 58 = .ok (.getfield 33, 3) := by decide +kernel
theorem d_Hall_may_61 : decode M_Hall_may.2.1 61 = .ok (.getfield 225, 3) := by decide +kernel
theorem d_Hall_may_64 : decode M_Hall_may.2.1 64 = .ok (.invokevirtual 229, 3) := by decide +kernel
theorem d_Hall_may_67 : decode M_Hall_may.2.1 67 = .ok (.ifCond .eq 25, 3) := by decide +kernel
theorem d_Hall_may_70 : decode M_Hall_may.2.1 70 = .ok (.iload_n 1, 1) := by decide +kernel
theorem d_Hall_may_71 : decode M_Hall_may.2.1 71 = .ok (.iload_n 3, 1) := by decide +kernel
theorem d_Hall_may_72 : decode M_Hall_may.2.1 72 = .ok (.if_icmp .eq 14, 3) := by decide +kernel
theorem d_Hall_may_75 : decode M_Hall_may.2.1 75 = .ok (.aload_n 0, 1) := by decide +kernel
theorem d_Hall_may_76 : decode M_Hall_may.2.1 76 = .ok (.getfield 42, 3) := by decide +kernel
theorem d_Hall_may_79 : decode M_Hall_may.2.1 79 = .ok (.iload_n 3, 1) := by decide +kernel
theorem d_Hall_may_80 : decode M_Hall_may.2.1 80 = .ok (.invokevirtual 195, 3) := by decide +kernel
theorem d_Hall_may_83 : decode M_Hall_may.2.1 83 = .ok (.ifCond .ne 7, 3) := by decide +kernel
theorem d_Hall_may_86 : decode M_Hall_may.2.1 86 = .ok (.iconst 1, 1) := by decide +kernel
theorem d_Hall_may_87 : decode M_Hall_may.2.1 87 = .ok (.goto 4, 3) := by decide +kernel
theorem d_Hall_may_90 : decode M_Hall_may.2.1 90 = .ok (.iconst 0, 1) := by decide +kernel
theorem d_Hall_may_91 : decode M_Hall_may.2.1 91 = .ok (.ireturn, 1) := by decide +kernel
theorem d_Hall_may_92 : decode M_Hall_may.2.1 92 = .ok (.aload_n 0, 1) := by decide +kernel
theorem d_Hall_may_93 : decode M_Hall_may.2.1 93 = .ok (.iload_n 1, 1) := by decide +kernel
theorem d_Hall_may_94 : decode M_Hall_may.2.1 94 = .ok (.iload_n 2, 1) := by decide +kernel
theorem d_Hall_may_95 : decode M_Hall_may.2.1 95 = .ok (.iload_n 3, 1) := by decide +kernel
theorem d_Hall_may_96 : decode M_Hall_may.2.1 96 = .ok (.invokevirtual 235, 3) := by decide +kernel
theorem d_Hall_may_99 : decode M_Hall_may.2.1 99 = .ok (.aload_n 0, 1) := by decide +kernel
theorem d_Hall_may_100 : decode M_Hall_may.2.1 100 = .ok (.getfield 33, 3) := by decide +kernel
theorem d_Hall_may_103 : decode M_Hall_may.2.1 103 = .ok (.getfield 225, 3) := by decide +kernel
theorem d_Hall_may_106 : decode M_Hall_may.2.1 106 = .ok (.invokevirtual 239, 3) := by decide +kernel
theorem d_Hall_may_109 : decode M_Hall_may.2.1 109 = .ok (.ireturn, 1) := by decide +kernel
theorem d_Hall_refuseAct_0 : decode M_Hall_refuseAct.2.1 0 = .ok (.aload_n 0, 1) := by decide +kernel
theorem d_Hall_refuseAct_1 : decode M_Hall_refuseAct.2.1 1 = .ok (.getfield 17, 3) := by decide +kernel
theorem d_Hall_refuseAct_4 : decode M_Hall_refuseAct.2.1 4 = .ok (.iconst 1, 1) := by decide +kernel
theorem d_Hall_refuseAct_5 : decode M_Hall_refuseAct.2.1 5 = .ok (.dup2, 1) := by decide +kernel
theorem d_Hall_refuseAct_6 : decode M_Hall_refuseAct.2.1 6 = .ok (.iaload, 1) := by decide +kernel
theorem d_Hall_refuseAct_7 : decode M_Hall_refuseAct.2.1 7 = .ok (.iconst 1, 1) := by decide +kernel
theorem d_Hall_refuseAct_8 : decode M_Hall_refuseAct.2.1 8 = .ok (.iadd, 1) := by decide +kernel
theorem d_Hall_refuseAct_9 : decode M_Hall_refuseAct.2.1 9 = .ok (.iastore, 1) := by decide +kernel
theorem d_Hall_refuseAct_10 : decode M_Hall_refuseAct.2.1 10 = .ok (.iconst (-1), 1) := by decide +kernel
theorem d_Hall_refuseAct_11 : decode M_Hall_refuseAct.2.1 11 = .ok (.ireturn, 1) := by decide +kernel
theorem d_Hall_years_0 : decode M_Hall_years.2.1 0 = .ok (.iload_n 1, 1) := by decide +kernel
theorem d_Hall_years_1 : decode M_Hall_years.2.1 1 = .ok (.iconst 1, 1) := by decide +kernel
theorem d_Hall_years_2 : decode M_Hall_years.2.1 2 = .ok (.if_icmp .lt 24, 3) := by decide +kernel
theorem d_Hall_years_5 : decode M_Hall_years.2.1 5 = .ok (.iload_n 1, 1) := by decide +kernel
theorem d_Hall_years_6 : decode M_Hall_years.2.1 6 = .ok (.bipush 30, 2) := by decide +kernel
theorem d_Hall_years_8 : decode M_Hall_years.2.1 8 = .ok (.if_icmp .gt 18, 3) := by decide +kernel
theorem d_Hall_years_11 : decode M_Hall_years.2.1 11 = .ok (.aload_n 0, 1) := by decide +kernel
theorem d_Hall_years_12 : decode M_Hall_years.2.1 12 = .ok (.getfield 42, 3) := by decide +kernel
theorem d_Hall_years_15 : decode M_Hall_years.2.1 15 = .ok (.getfield 156, 3) := by decide +kernel
theorem d_Hall_years_18 : decode M_Hall_years.2.1 18 = .ok (.iload_n 1, 1) := by decide +kernel
theorem d_Hall_years_19 : decode M_Hall_years.2.1 19 = .ok (.iadd, 1) := by decide +kernel
theorem d_Hall_years_20 : decode M_Hall_years.2.1 20 = .ok (.sipush 999, 3) := by decide +kernel
theorem d_Hall_years_23 : decode M_Hall_years.2.1 23 = .ok (.if_icmp .le 8, 3) := by decide +kernel
theorem d_Hall_years_26 : decode M_Hall_years.2.1 26 = .ok (.aload_n 0, 1) := by decide +kernel
theorem d_Hall_years_27 : decode M_Hall_years.2.1 27 = .ok (.invokevirtual 245, 3) := by decide +kernel
theorem d_Hall_years_30 : decode M_Hall_years.2.1 30 = .ok (.ireturn, 1) := by decide +kernel
theorem d_Hall_years_31 : decode M_Hall_years.2.1 31 = .ok (.aload_n 0, 1) := by decide +kernel
theorem d_Hall_years_32 : decode M_Hall_years.2.1 32 = .ok (.getfield 49, 3) := by decide +kernel
theorem d_Hall_years_35 : decode M_Hall_years.2.1 35 = .ok (.aload_n 0, 1) := by decide +kernel
theorem d_Hall_years_36 : decode M_Hall_years.2.1 36 = .ok (.getfield 42, 3) := by decide +kernel
theorem d_Hall_years_39 : decode M_Hall_years.2.1 39 = .ok (.invokevirtual 248, 3) := by decide +kernel
theorem d_Hall_years_42 : decode M_Hall_years.2.1 42 = .ok (.aload_n 0, 1) := by decide +kernel
theorem d_Hall_years_43 : decode M_Hall_years.2.1 43 = .ok (.getfield 42, 3) := by decide +kernel
theorem d_Hall_years_46 : decode M_Hall_years.2.1 46 = .ok (.iload_n 1, 1) := by decide +kernel
theorem d_Hall_years_47 : decode M_Hall_years.2.1 47 = .ok (.invokevirtual 251, 3) := by decide +kernel
theorem d_Hall_years_50 : decode M_Hall_years.2.1 50 = .ok (.aload_n 0, 1) := by decide +kernel
theorem d_Hall_years_51 : decode M_Hall_years.2.1 51 = .ok (.getfield 42, 3) := by decide +kernel
theorem d_Hall_years_54 : decode M_Hall_years.2.1 54 = .ok (.getfield 156, 3) := by decide +kernel
theorem d_Hall_years_57 : decode M_Hall_years.2.1 57 = .ok (.ireturn, 1) := by decide +kernel
theorem d_Hall_braid_0 : decode M_Hall_braid.2.1 0 = .ok (.aload_n 0, 1) := by decide +kernel
theorem d_Hall_braid_1 : decode M_Hall_braid.2.1 1 = .ok (.iload_n 1, 1) := by decide +kernel
theorem d_Hall_braid_2 : decode M_Hall_braid.2.1 2 = .ok (.invokevirtual 180, 3) := by decide +kernel
theorem d_Hall_braid_5 : decode M_Hall_braid.2.1 5 = .ok (.aload_n 0, 1) := by decide +kernel
theorem d_Hall_braid_6 : decode M_Hall_braid.2.1 6 = .ok (.getfield 42, 3) := by decide +kernel
theorem d_Hall_braid_9 : decode M_Hall_braid.2.1 9 = .ok (.invokevirtual 254, 3) := by decide +kernel
theorem d_Hall_braid_12 : decode M_Hall_braid.2.1 12 = .ok (.ifCond .ne 39, 3) := by decide +kernel
theorem d_Hall_braid_15 : decode M_Hall_braid.2.1 15 = .ok (.aload_n 0, 1) := by decide +kernel
theorem d_Hall_braid_16 : decode M_Hall_braid.2.1 16 = .ok (.getfield 42, 3) := by decide +kernel
theorem d_Hall_braid_19 : decode M_Hall_braid.2.1 19 = .ok (.iload_n 1, 1) := by decide +kernel
theorem d_Hall_braid_20 : decode M_Hall_braid.2.1 20 = .ok (.invokevirtual 257, 3) := by decide +kernel
theorem d_Hall_braid_23 : decode M_Hall_braid.2.1 23 = .ok (.ifCond .ne 28, 3) := by decide +kernel
theorem d_Hall_braid_26 : decode M_Hall_braid.2.1 26 = .ok (.iload_n 2, 1) := by decide +kernel
theorem d_Hall_braid_27 : decode M_Hall_braid.2.1 27 = .ok (.invokestatic 260, 3) := by decide +kernel
theorem d_Hall_braid_30 : decode M_Hall_braid.2.1 30 = .ok (.ifCond .eq 21, 3) := by decide +kernel
theorem d_Hall_braid_33 : decode M_Hall_braid.2.1 33 = .ok (.iload_n 3, 1) := by decide +kernel
theorem d_Hall_braid_34 : decode M_Hall_braid.2.1 34 = .ok (.invokestatic 263, 3) := by decide +kernel
theorem d_Hall_braid_37 : decode M_Hall_braid.2.1 37 = .ok (.ifCond .eq 14, 3) := by decide +kernel
theorem d_Hall_braid_40 : decode M_Hall_braid.2.1 40 = .ok (.iload 4, 2) := by decide +kernel
theorem d_Hall_braid_42 : decode M_Hall_braid.2.1 42 = .ok (.sipush 999, 3) := by decide +kernel
theorem d_Hall_braid_45 : decode M_Hall_braid.2.1 45 = .ok (.invokestatic 266, 3) := by decide +kernel
theorem d_Hall_braid_48 : decode M_Hall_braid.2.1 48 = .ok (.ifCond .ne 8, 3) := by decide +kernel
theorem d_Hall_braid_51 : decode M_Hall_braid.2.1 51 = .ok (.aload_n 0, 1) := by decide +kernel
theorem d_Hall_braid_52 : decode M_Hall_braid.2.1 52 = .ok (.invokevirtual 245, 3) := by decide +kernel
theorem d_Hall_braid_55 : decode M_Hall_braid.2.1 55 = .ok (.ireturn, 1) := by decide +kernel
theorem d_Hall_braid_56 : decode M_Hall_braid.2.1 56 = .ok (.aload_n 0, 1) := by decide +kernel
theorem d_Hall_braid_57 : decode M_Hall_braid.2.1 57 = .ok (.getfield 49, 3) := by decide +kernel
theorem d_Hall_braid_60 : decode M_Hall_braid.2.1 60 = .ok (.aload_n 0, 1) := by decide +kernel
theorem d_Hall_braid_61 : decode M_Hall_braid.2.1 61 = .ok (.getfield 42, 3) := by decide +kernel
theorem d_Hall_braid_64 : decode M_Hall_braid.2.1 64 = .ok (.invokevirtual 248, 3) := by decide +kernel
theorem d_Hall_braid_67 : decode M_Hall_braid.2.1 67 = .ok (.aload_n 0, 1) := by decide +kernel
theorem d_Hall_braid_68 : decode M_Hall_braid.2.1 68 = .ok (.getfield 42, 3) := by decide +kernel
theorem d_Hall_braid_71 : decode M_Hall_braid.2.1 71 = .ok (.iload_n 1, 1) := by decide +kernel
theorem d_Hall_braid_72 : decode M_Hall_braid.2.1 72 = .ok (.aload_n 0, 1) := by decide +kernel
theorem d_Hall_braid_73 : decode M_Hall_braid.2.1 73 = .ok (.getfield 42, 3) := by decide +kernel
theorem d_Hall_braid_76 : decode M_Hall_braid.2.1 76 = .ok (.getfield 156, 3) := by decide +kernel
theorem d_Hall_braid_79 : decode M_Hall_braid.2.1 79 = .ok (.iload_n 2, 1) := by decide +kernel
theorem d_Hall_braid_80 : decode M_Hall_braid.2.1 80 = .ok (.iload_n 3, 1) := by decide +kernel
theorem d_Hall_braid_81 : decode M_Hall_braid.2.1 81 = .ok (.iload 4, 2) := by decide +kernel
theorem d_Hall_braid_83 : decode M_Hall_braid.2.1 83 = .ok (.invokevirtual 270, 3) := by decide +kernel
theorem d_Hall_braid_86 : decode M_Hall_braid.2.1 86 = .ok (.ireturn, 1) := by decide +kernel
theorem d_Hall_copy_0 : decode M_Hall_copy.2.1 0 = .ok (.aload_n 0, 1) := by decide +kernel
theorem d_Hall_copy_1 : decode M_Hall_copy.2.1 1 = .ok (.iload_n 1, 1) := by decide +kernel
theorem d_Hall_copy_2 : decode M_Hall_copy.2.1 2 = .ok (.invokevirtual 204, 3) := by decide +kernel
theorem d_Hall_copy_5 : decode M_Hall_copy.2.1 5 = .ok (.aload_n 0, 1) := by decide +kernel
theorem d_Hall_copy_6 : decode M_Hall_copy.2.1 6 = .ok (.iload_n 2, 1) := by decide +kernel
theorem d_Hall_copy_7 : decode M_Hall_copy.2.1 7 = .ok (.invokevirtual 180, 3) := by decide +kernel
theorem d_Hall_copy_10 : decode M_Hall_copy.2.1 10 = .ok (.aload_n 0, 1) := by decide +kernel
theorem d_Hall_copy_11 : decode M_Hall_copy.2.1 11 = .ok (.getfield 42, 3) := by decide +kernel
theorem d_Hall_copy_14 : decode M_Hall_copy.2.1 14 = .ok (.invokevirtual 254, 3) := by decide +kernel
theorem d_Hall_copy_17 : decode M_Hall_copy.2.1 17 = .ok (.ifCond .ne 46, 3) := by decide +kernel
theorem d_Hall_copy_20 : decode M_Hall_copy.2.1 20 = .ok (.aload_n 0, 1) := by decide +kernel
theorem d_Hall_copy_21 : decode M_Hall_copy.2.1 21 = .ok (.getfield 42, 3) := by decide +kernel
theorem d_Hall_copy_24 : decode M_Hall_copy.2.1 24 = .ok (.iload_n 1, 1) := by decide +kernel
theorem d_Hall_copy_25 : decode M_Hall_copy.2.1 25 = .ok (.invokevirtual 212, 3) := by decide +kernel
theorem d_Hall_copy_28 : decode M_Hall_copy.2.1 28 = .ok (.ifCond .eq 35, 3) := by decide +kernel
theorem d_Hall_copy_31 : decode M_Hall_copy.2.1 31 = .ok (.aload_n 0, 1) := by decide +kernel
theorem d_Hall_copy_32 : decode M_Hall_copy.2.1 32 = .ok (.getfield 42, 3) := by decide +kernel
theorem d_Hall_copy_35 : decode M_Hall_copy.2.1 35 = .ok (.iload_n 2, 1) := by decide +kernel
theorem d_Hall_copy_36 : decode M_Hall_copy.2.1 36 = .ok (.invokevirtual 257, 3) := by decide +kernel
theorem d_Hall_copy_39 : decode M_Hall_copy.2.1 39 = .ok (.ifCond .ne 24, 3) := by decide +kernel
theorem d_Hall_copy_42 : decode M_Hall_copy.2.1 42 = .ok (.aload_n 0, 1) := by decide +kernel
theorem d_Hall_copy_43 : decode M_Hall_copy.2.1 43 = .ok (.getfield 42, 3) := by decide +kernel
theorem d_Hall_copy_46 : decode M_Hall_copy.2.1 46 = .ok (.iload_n 2, 1) := by decide +kernel
theorem d_Hall_copy_47 : decode M_Hall_copy.2.1 47 = .ok (.aload_n 0, 1) := by decide +kernel
theorem d_Hall_copy_48 : decode M_Hall_copy.2.1 48 = .ok (.getfield 33, 3) := by decide +kernel
theorem d_Hall_copy_51 : decode M_Hall_copy.2.1 51 = .ok (.iload_n 1, 1) := by decide +kernel
theorem d_Hall_copy_52 : decode M_Hall_copy.2.1 52 = .ok (.bipush 7, 2) := by decide +kernel
theorem d_Hall_copy_54 : decode M_Hall_copy.2.1 54 = .ok (.invokevirtual 218, 3) := by decide +kernel
theorem d_Hall_copy_57 : decode M_Hall_copy.2.1 57 = .ok (.invokevirtual 274, 3) := by decide +kernel
theorem d_Hall_copy_60 : decode M_Hall_copy.2.1 60 = .ok (.ifCond .eq 8, 3) := by decide +kernel
theorem d_Hall_copy_63 : decode M_Hall_copy.2.1 63 = .ok (.aload_n 0, 1) := by decide +kernel
theorem d_Hall_copy_64 : decode M_Hall_copy.2.1 64 = .ok (.invokevirtual 245, 3) := by decide +kernel
theorem d_Hall_copy_67 : decode M_Hall_copy.2.1 67 = .ok (.ireturn, 1) := by decide +kernel
theorem d_Hall_copy_68 : decode M_Hall_copy.2.1 68 = .ok (.aload_n 0, 1) := by decide +kernel
theorem d_Hall_copy_69 : decode M_Hall_copy.2.1 69 = .ok (.getfield 49, 3) := by decide +kernel
theorem d_Hall_copy_72 : decode M_Hall_copy.2.1 72 = .ok (.aload_n 0, 1) := by decide +kernel
theorem d_Hall_copy_73 : decode M_Hall_copy.2.1 73 = .ok (.getfield 42, 3) := by decide +kernel
theorem d_Hall_copy_76 : decode M_Hall_copy.2.1 76 = .ok (.invokevirtual 248, 3) := by decide +kernel
theorem d_Hall_copy_79 : decode M_Hall_copy.2.1 79 = .ok (.aload_n 0, 1) := by decide +kernel
theorem d_Hall_copy_80 : decode M_Hall_copy.2.1 80 = .ok (.getfield 42, 3) := by decide +kernel
theorem d_Hall_copy_83 : decode M_Hall_copy.2.1 83 = .ok (.iload_n 1, 1) := by decide +kernel
theorem d_Hall_copy_84 : decode M_Hall_copy.2.1 84 = .ok (.iload_n 2, 1) := by decide +kernel
theorem d_Hall_copy_85 : decode M_Hall_copy.2.1 85 = .ok (.aload_n 0, 1) := by decide +kernel
theorem d_Hall_copy_86 : decode M_Hall_copy.2.1 86 = .ok (.getfield 42, 3) := by decide +kernel
theorem d_Hall_copy_89 : decode M_Hall_copy.2.1 89 = .ok (.getfield 156, 3) := by decide +kernel
theorem d_Hall_copy_92 : decode M_Hall_copy.2.1 92 = .ok (.invokevirtual 276, 3) := by decide +kernel
theorem d_Hall_copy_95 : decode M_Hall_copy.2.1 95 = .ok (.ireturn, 1) := by decide +kernel
theorem d_Hall_mayBeHandled_0 : decode M_Hall_mayBeHandled.2.1 0 = .ok (.aload_n 0, 1) := by decide +kernel
theorem d_Hall_mayBeHandled_1 : decode M_Hall_mayBeHandled.2.1 1 = .ok (.getfield 42, 3) := by decide +kernel
theorem d_Hall_mayBeHandled_4 : decode M_Hall_mayBeHandled.2.1 4 = .ok (.iload_n 1, 1) := by decide +kernel
theorem d_Hall_mayBeHandled_5 : decode M_Hall_mayBeHandled.2.1 5 = .ok (.invokevirtual 212, 3) := by decide +kernel
theorem d_Hall_mayBeHandled_8 : decode M_Hall_mayBeHandled.2.1 8 = .ok (.ifCond .eq 37, 3) := by decide +kernel
theorem d_Hall_mayBeHandled_11 : decode M_Hall_mayBeHandled.2.1 11 = .ok (.aload_n 0, 1) := by decide +kernel
theorem d_Hall_mayBeHandled_12 : decode M_Hall_mayBeHandled.2.1 12 = .ok (.getfield 42, 3) := by decide +kernel
theorem d_Hall_mayBeHandled_15 : decode M_Hall_mayBeHandled.2.1 15 = .ok (.iload_n 1, 1) := by decide +kernel
theorem d_Hall_mayBeHandled_16 : decode M_Hall_mayBeHandled.2.1 16 = .ok (.invokevirtual 209, 3) := by decide +kernel
theorem d_Hall_mayBeHandled_19 : decode M_Hall_mayBeHandled.2.1 19 = .ok (.ifCond .ne 26, 3) := by decide +kernel
theorem d_Hall_mayBeHandled_22 : decode M_Hall_mayBeHandled.2.1 22 = .ok (.aload_n 0, 1) := by decide +kernel
theorem d_Hall_mayBeHandled_23 : decode M_Hall_mayBeHandled.2.1 23 = .ok (.getfield 42, 3) := by decide +kernel
theorem d_Hall_mayBeHandled_26 : decode M_Hall_mayBeHandled.2.1 26 = .ok (.aload_n 0, 1) := by decide +kernel
theorem d_Hall_mayBeHandled_27 : decode M_Hall_mayBeHandled.2.1 27 = .ok (.getfield 33, 3) := by decide +kernel
theorem d_Hall_mayBeHandled_30 : decode M_Hall_mayBeHandled.2.1 30 = .ok (.iload_n 1, 1) := by decide +kernel
theorem d_Hall_mayBeHandled_31 : decode M_Hall_mayBeHandled.2.1 31 = .ok (.iconst 1, 1) := by decide +kernel
theorem d_Hall_mayBeHandled_32 : decode M_Hall_mayBeHandled.2.1 32 = .ok (.invokevirtual 218, 3) := by decide +kernel
theorem d_Hall_mayBeHandled_35 : decode M_Hall_mayBeHandled.2.1 35 = .ok (.invokevirtual 257, 3) := by decide +kernel
theorem d_Hall_mayBeHandled_38 : decode M_Hall_mayBeHandled.2.1 38 = .ok (.ifCond .ne 7, 3) := by decide +kernel
theorem d_Hall_mayBeHandled_41 : decode M_Hall_mayBeHandled.2.1 41 = .ok (.iconst 1, 1) := by decide +kernel
theorem d_Hall_mayBeHandled_42 : decode M_Hall_mayBeHandled.2.1 42 = .ok (.goto 4, 3) := by decide +kernel
theorem d_Hall_mayBeHandled_45 : decode M_Hall_mayBeHandled.2.1 45 = .ok (.iconst 0, 1) := by decide +kernel
theorem d_Hall_mayBeHandled_46 : decode M_Hall_mayBeHandled.2.1 46 = .ok (.ireturn, 1) := by decide +kernel
theorem d_Hall_knot_0 : decode M_Hall_knot.2.1 0 = .ok (.aload_n 0, 1) := by decide +kernel
theorem d_Hall_knot_1 : decode M_Hall_knot.2.1 1 = .ok (.iload_n 1, 1) := by decide +kernel
theorem d_Hall_knot_2 : decode M_Hall_knot.2.1 2 = .ok (.invokevirtual 204, 3) := by decide +kernel
theorem d_Hall_knot_5 : decode M_Hall_knot.2.1 5 = .ok (.aload_n 0, 1) := by decide +kernel
theorem d_Hall_knot_6 : decode M_Hall_knot.2.1 6 = .ok (.iload_n 1, 1) := by decide +kernel
theorem d_Hall_knot_7 : decode M_Hall_knot.2.1 7 = .ok (.invokevirtual 280, 3) := by decide +kernel
theorem d_Hall_knot_10 : decode M_Hall_knot.2.1 10 = .ok (.ifCond .ne 10, 3) := by decide +kernel
theorem d_Hall_knot_13 : decode M_Hall_knot.2.1 13 = .ok (.aload_n 0, 1) := by decide +kernel
theorem d_Hall_knot_14 : decode M_Hall_knot.2.1 14 = .ok (.invokevirtual 245, 3) := by decide +kernel
theorem d_Hall_knot_17 : decode M_Hall_knot.2.1 17 = .ok (.pop, 1) := by decide +kernel
theorem d_Hall_knot_18 : decode M_Hall_knot.2.1 18 = .ok (.iconst 0, 1) := by decide +kernel
theorem d_Hall_knot_19 : decode M_Hall_knot.2.1 19 = .ok (.ireturn, 1) := by decide +kernel
theorem d_Hall_knot_20 : decode M_Hall_knot.2.1 20 = .ok (.aload_n 0, 1) := by decide +kernel
theorem d_Hall_knot_21 : decode M_Hall_knot.2.1 21 = .ok (.getfield 49, 3) := by decide +kernel
theorem d_Hall_knot_24 : decode M_Hall_knot.2.1 24 = .ok (.aload_n 0, 1) := by decide +kernel
theorem d_Hall_knot_25 : decode M_Hall_knot.2.1 25 = .ok (.getfield 42, 3) := by decide +kernel
theorem d_Hall_knot_28 : decode M_Hall_knot.2.1 28 = .ok (.invokevirtual 248, 3) := by decide +kernel
theorem d_Hall_knot_31 : decode M_Hall_knot.2.1 31 = .ok (.aload_n 0, 1) := by decide +kernel
theorem d_Hall_knot_32 : decode M_Hall_knot.2.1 32 = .ok (.getfield 42, 3) := by decide +kernel
theorem d_Hall_knot_35 : decode M_Hall_knot.2.1 35 = .ok (.iload_n 1, 1) := by decide +kernel
theorem d_Hall_knot_36 : decode M_Hall_knot.2.1 36 = .ok (.invokevirtual 283, 3) := by decide +kernel
theorem d_Hall_knot_39 : decode M_Hall_knot.2.1 39 = .ok (.iconst 1, 1) := by decide +kernel
theorem d_Hall_knot_40 : decode M_Hall_knot.2.1 40 = .ok (.ireturn, 1) := by decide +kernel
theorem d_Hall_comb_0 : decode M_Hall_comb.2.1 0 = .ok (.aload_n 0, 1) := by decide +kernel
theorem d_Hall_comb_1 : decode M_Hall_comb.2.1 1 = .ok (.iload_n 1, 1) := by decide +kernel
theorem d_Hall_comb_2 : decode M_Hall_comb.2.1 2 = .ok (.invokevirtual 204, 3) := by decide +kernel
theorem d_Hall_comb_5 : decode M_Hall_comb.2.1 5 = .ok (.aload_n 0, 1) := by decide +kernel
theorem d_Hall_comb_6 : decode M_Hall_comb.2.1 6 = .ok (.iload_n 1, 1) := by decide +kernel
theorem d_Hall_comb_7 : decode M_Hall_comb.2.1 7 = .ok (.invokevirtual 280, 3) := by decide +kernel
theorem d_Hall_comb_10 : decode M_Hall_comb.2.1 10 = .ok (.ifCond .ne 10, 3) := by decide +kernel
theorem d_Hall_comb_13 : decode M_Hall_comb.2.1 13 = .ok (.aload_n 0, 1) := by decide +kernel
theorem d_Hall_comb_14 : decode M_Hall_comb.2.1 14 = .ok (.invokevirtual 245, 3) := by decide +kernel
theorem d_Hall_comb_17 : decode M_Hall_comb.2.1 17 = .ok (.pop, 1) := by decide +kernel
theorem d_Hall_comb_18 : decode M_Hall_comb.2.1 18 = .ok (.iconst 0, 1) := by decide +kernel
theorem d_Hall_comb_19 : decode M_Hall_comb.2.1 19 = .ok (.ireturn, 1) := by decide +kernel
theorem d_Hall_comb_20 : decode M_Hall_comb.2.1 20 = .ok (.aload_n 0, 1) := by decide +kernel
theorem d_Hall_comb_21 : decode M_Hall_comb.2.1 21 = .ok (.getfield 49, 3) := by decide +kernel
theorem d_Hall_comb_24 : decode M_Hall_comb.2.1 24 = .ok (.aload_n 0, 1) := by decide +kernel
theorem d_Hall_comb_25 : decode M_Hall_comb.2.1 25 = .ok (.getfield 42, 3) := by decide +kernel
theorem d_Hall_comb_28 : decode M_Hall_comb.2.1 28 = .ok (.invokevirtual 248, 3) := by decide +kernel
theorem d_Hall_comb_31 : decode M_Hall_comb.2.1 31 = .ok (.aload_n 0, 1) := by decide +kernel
theorem d_Hall_comb_32 : decode M_Hall_comb.2.1 32 = .ok (.getfield 42, 3) := by decide +kernel
theorem d_Hall_comb_35 : decode M_Hall_comb.2.1 35 = .ok (.iconst 1, 1) := by decide +kernel
theorem d_Hall_comb_36 : decode M_Hall_comb.2.1 36 = .ok (.iload_n 1, 1) := by decide +kernel
theorem d_Hall_comb_37 : decode M_Hall_comb.2.1 37 = .ok (.ishl, 1) := by decide +kernel
theorem d_Hall_comb_38 : decode M_Hall_comb.2.1 38 = .ok (.invokevirtual 286, 3) := by decide +kernel
theorem d_Hall_comb_41 : decode M_Hall_comb.2.1 41 = .ok (.pop, 1) := by decide +kernel
theorem d_Hall_comb_42 : decode M_Hall_comb.2.1 42 = .ok (.iconst 1, 1) := by decide +kernel
theorem d_Hall_comb_43 : decode M_Hall_comb.2.1 43 = .ok (.ireturn, 1) := by decide +kernel
theorem d_Hall_shave_0 : decode M_Hall_shave.2.1 0 = .ok (.aload_n 0, 1) := by decide +kernel
theorem d_Hall_shave_1 : decode M_Hall_shave.2.1 1 = .ok (.iload_n 1, 1) := by decide +kernel
theorem d_Hall_shave_2 : decode M_Hall_shave.2.1 2 = .ok (.invokevirtual 180, 3) := by decide +kernel
theorem d_Hall_shave_5 : decode M_Hall_shave.2.1 5 = .ok (.iload_n 2, 1) := by decide +kernel
theorem d_Hall_shave_6 : decode M_Hall_shave.2.1 6 = .ok (.ifCond .lt 16, 3) := by decide +kernel
theorem d_Hall_shave_9 : decode M_Hall_shave.2.1 9 = .ok (.iload_n 2, 1) := by decide +kernel
theorem d_Hall_shave_10 : decode M_Hall_shave.2.1 10 = .ok (.aload_n 0, 1) := by decide +kernel
theorem d_Hall_shave_11 : decode M_Hall_shave.2.1 11 = .ok (.getfield 42, 3) := by decide +kernel
theorem d_Hall_shave_14 : decode M_Hall_shave.2.1 14 = .ok (.getfield 189, 3) := by decide +kernel
theorem d_Hall_shave_17 : decode M_Hall_shave.2.1 17 = .ok (.iload_n 1, 1) := by decide +kernel
theorem d_Hall_shave_18 : decode M_Hall_shave.2.1 18 = .ok (.iaload, 1) := by decide +kernel
theorem d_Hall_shave_19 : decode M_Hall_shave.2.1 19 = .ok (.if_icmp .lt 8, 3) := by decide +kernel
theorem d_Hall_shave_22 : decode M_Hall_shave.2.1 22 = .ok (.aload_n 0, 1) := by decide +kernel
theorem d_Hall_shave_23 : decode M_Hall_shave.2.1 23 = .ok (.invokevirtual 245, 3) := by decide +kernel
theorem d_Hall_shave_26 : decode M_Hall_shave.2.1 26 = .ok (.ireturn, 1) := by decide +kernel
theorem d_Hall_shave_27 : decode M_Hall_shave.2.1 27 = .ok (.aload_n 0, 1) := by decide +kernel
theorem d_Hall_shave_28 : decode M_Hall_shave.2.1 28 = .ok (.getfield 49, 3) := by decide +kernel
theorem d_Hall_shave_31 : decode M_Hall_shave.2.1 31 = .ok (.aload_n 0, 1) := by decide +kernel
theorem d_Hall_shave_32 : decode M_Hall_shave.2.1 32 = .ok (.getfield 42, 3) := by decide +kernel
theorem d_Hall_shave_35 : decode M_Hall_shave.2.1 35 = .ok (.invokevirtual 248, 3) := by decide +kernel
theorem d_Hall_shave_38 : decode M_Hall_shave.2.1 38 = .ok (.aload_n 0, 1) := by decide +kernel
theorem d_Hall_shave_39 : decode M_Hall_shave.2.1 39 = .ok (.getfield 42, 3) := by decide +kernel
theorem d_Hall_shave_42 : decode M_Hall_shave.2.1 42 = .ok (.iload_n 1, 1) := by decide +kernel
theorem d_Hall_shave_43 : decode M_Hall_shave.2.1 43 = .ok (.iload_n 2, 1) := by decide +kernel
theorem d_Hall_shave_44 : decode M_Hall_shave.2.1 44 = .ok (.invokevirtual 289, 3) := by decide +kernel
theorem d_Hall_shave_47 : decode M_Hall_shave.2.1 47 = .ok (.ireturn, 1) := by decide +kernel
theorem d_Hall_moths_0 : decode M_Hall_moths.2.1 0 = .ok (.aload_n 0, 1) := by decide +kernel
theorem d_Hall_moths_1 : decode M_Hall_moths.2.1 1 = .ok (.iload_n 1, 1) := by decide +kernel
theorem d_Hall_moths_2 : decode M_Hall_moths.2.1 2 = .ok (.invokevirtual 180, 3) := by decide +kernel
theorem d_Hall_moths_5 : decode M_Hall_moths.2.1 5 = .ok (.iload_n 2, 1) := by decide +kernel
theorem d_Hall_moths_6 : decode M_Hall_moths.2.1 6 = .ok (.bipush 60, 2) := by decide +kernel
theorem d_Hall_moths_8 : decode M_Hall_moths.2.1 8 = .ok (.invokestatic 266, 3) := by decide +kernel
theorem d_Hall_moths_11 : decode M_Hall_moths.2.1 11 = .ok (.ifCond .eq 17, 3) := by decide +kernel
theorem d_Hall_moths_14 : decode M_Hall_moths.2.1 14 = .ok (.iload_n 3, 1) := by decide +kernel
theorem d_Hall_moths_15 : decode M_Hall_moths.2.1 15 = .ok (.bipush 60, 2) := by decide +kernel
theorem d_Hall_moths_17 : decode M_Hall_moths.2.1 17 = .ok (.invokestatic 266, 3) := by decide +kernel
theorem d_Hall_moths_20 : decode M_Hall_moths.2.1 20 = .ok (.ifCond .eq 8, 3) := by decide +kernel
theorem d_Hall_moths_23 : decode M_Hall_moths.2.1 23 = .ok (.iload_n 3, 1) := by decide +kernel
theorem d_Hall_moths_24 : decode M_Hall_moths.2.1 24 = .ok (.iload_n 2, 1) := by decide +kernel
theorem d_Hall_moths_25 : decode M_Hall_moths.2.1 25 = .ok (.if_icmp .ge 8, 3) := by decide +kernel
theorem d_Hall_moths_28 : decode M_Hall_moths.2.1 28 = .ok (.aload_n 0, 1) := by decide +kernel
theorem d_Hall_moths_29 : decode M_Hall_moths.2.1 29 = .ok (.invokevirtual 245, 3) := by decide +kernel
theorem d_Hall_moths_32 : decode M_Hall_moths.2.1 32 = .ok (.ireturn, 1) := by decide +kernel
theorem d_Hall_moths_33 : decode M_Hall_moths.2.1 33 = .ok (.aload_n 0, 1) := by decide +kernel
theorem d_Hall_moths_34 : decode M_Hall_moths.2.1 34 = .ok (.getfield 49, 3) := by decide +kernel
theorem d_Hall_moths_37 : decode M_Hall_moths.2.1 37 = .ok (.aload_n 0, 1) := by decide +kernel
theorem d_Hall_moths_38 : decode M_Hall_moths.2.1 38 = .ok (.getfield 42, 3) := by decide +kernel
theorem d_Hall_moths_41 : decode M_Hall_moths.2.1 41 = .ok (.invokevirtual 248, 3) := by decide +kernel
theorem d_Hall_moths_44 : decode M_Hall_moths.2.1 44 = .ok (.aload_n 0, 1) := by decide +kernel
theorem d_Hall_moths_45 : decode M_Hall_moths.2.1 45 = .ok (.getfield 42, 3) := by decide +kernel
theorem d_Hall_moths_48 : decode M_Hall_moths.2.1 48 = .ok (.aload_n 0, 1) := by decide +kernel
theorem d_Hall_moths_49 : decode M_Hall_moths.2.1 49 = .ok (.getfield 42, 3) := by decide +kernel
theorem d_Hall_moths_52 : decode M_Hall_moths.2.1 52 = .ok (.iload_n 1, 1) := by decide +kernel
theorem d_Hall_moths_53 : decode M_Hall_moths.2.1 53 = .ok (.iload_n 2, 1) := by decide +kernel
theorem d_Hall_moths_54 : decode M_Hall_moths.2.1 54 = .ok (.iload_n 3, 1) := by decide +kernel
theorem d_Hall_moths_55 : decode M_Hall_moths.2.1 55 = .ok (.invokevirtual 292, 3) := by decide +kernel
theorem d_Hall_moths_58 : decode M_Hall_moths.2.1 58 = .ok (.invokevirtual 286, 3) := by decide +kernel
theorem d_Hall_moths_61 : decode M_Hall_moths.2.1 61 = .ok (.ireturn, 1) := by decide +kernel
theorem d_Hall_die_0 : decode M_Hall_die.2.1 0 = .ok (.aload_n 0, 1) := by decide +kernel
theorem d_Hall_die_1 : decode M_Hall_die.2.1 1 = .ok (.iload_n 1, 1) := by decide +kernel
theorem d_Hall_die_2 : decode M_Hall_die.2.1 2 = .ok (.invokevirtual 180, 3) := by decide +kernel
theorem d_Hall_die_5 : decode M_Hall_die.2.1 5 = .ok (.aload_n 0, 1) := by decide +kernel
theorem d_Hall_die_6 : decode M_Hall_die.2.1 6 = .ok (.getfield 42, 3) := by decide +kernel
theorem d_Hall_die_9 : decode M_Hall_die.2.1 9 = .ok (.iload_n 1, 1) := by decide +kernel
theorem d_Hall_die_10 : decode M_Hall_die.2.1 10 = .ok (.invokevirtual 257, 3) := by decide +kernel
theorem d_Hall_die_13 : decode M_Hall_die.2.1 13 = .ok (.ifCond .eq 10, 3) := by decide +kernel
theorem d_Hall_die_16 : decode M_Hall_die.2.1 16 = .ok (.aload_n 0, 1) := by decide +kernel
theorem d_Hall_die_17 : decode M_Hall_die.2.1 17 = .ok (.invokevirtual 245, 3) := by decide +kernel
theorem d_Hall_die_20 : decode M_Hall_die.2.1 20 = .ok (.pop, 1) := by decide +kernel
theorem d_Hall_die_21 : decode M_Hall_die.2.1 21 = .ok (.iconst 0, 1) := by decide +kernel
theorem d_Hall_die_22 : decode M_Hall_die.2.1 22 = .ok (.ireturn, 1) := by decide +kernel
theorem d_Hall_die_23 : decode M_Hall_die.2.1 23 = .ok (.aload_n 0, 1) := by decide +kernel
theorem d_Hall_die_24 : decode M_Hall_die.2.1 24 = .ok (.getfield 49, 3) := by decide +kernel
theorem d_Hall_die_27 : decode M_Hall_die.2.1 27 = .ok (.aload_n 0, 1) := by decide +kernel
theorem d_Hall_die_28 : decode M_Hall_die.2.1 28 = .ok (.getfield 42, 3) := by decide +kernel
theorem d_Hall_die_31 : decode M_Hall_die.2.1 31 = .ok (.invokevirtual 248, 3) := by decide +kernel
theorem d_Hall_die_34 : decode M_Hall_die.2.1 34 = .ok (.aload_n 0, 1) := by decide +kernel
theorem d_Hall_die_35 : decode M_Hall_die.2.1 35 = .ok (.getfield 42, 3) := by decide +kernel
theorem d_Hall_die_38 : decode M_Hall_die.2.1 38 = .ok (.getfield 295, 3) := by decide +kernel
theorem d_Hall_die_41 : decode M_Hall_die.2.1 41 = .ok (.iload_n 1, 1) := by decide +kernel
theorem d_Hall_die_42 : decode M_Hall_die.2.1 42 = .ok (.aload_n 0, 1) := by decide +kernel
theorem d_Hall_die_43 : decode M_Hall_die.2.1 43 = .ok (.getfield 42, 3) := by decide +kernel
theorem d_Hall_die_46 : decode M_Hall_die.2.1 46 = .ok (.getfield 156, 3) := by decide +kernel
theorem d_Hall_die_49 : decode M_Hall_die.2.1 49 = .ok (.iastore, 1) := by decide +kernel
theorem d_Hall_die_50 : decode M_Hall_die.2.1 50 = .ok (.iconst 1, 1) := by decide +kernel
theorem d_Hall_die_51 : decode M_Hall_die.2.1 51 = .ok (.ireturn, 1) := by decide +kernel
theorem d_Hall_undo_0 : decode M_Hall_undo.2.1 0 = .ok (.aload_n 0, 1) := by decide +kernel
theorem d_Hall_undo_1 : decode M_Hall_undo.2.1 1 = .ok (.getfield 49, 3) := by decide +kernel
theorem d_Hall_undo_4 : decode M_Hall_undo.2.1 4 = .ok (.getfield 133, 3) := by decide +kernel
theorem d_Hall_undo_7 : decode M_Hall_undo.2.1 7 = .ok (.ifCond .ne 5, 3) := by decide +kernel
theorem d_Hall_undo_10 : decode M_Hall_undo.2.1 10 = .ok (.iconst (-1), 1) := by decide +kernel
theorem d_Hall_undo_11 : decode M_Hall_undo.2.1 11 = .ok (.ireturn, 1) := by decide +kernel
theorem d_Hall_undo_12 : decode M_Hall_undo.2.1 12 = .ok (.aload_n 0, 1) := by decide +kernel
theorem d_Hall_undo_13 : decode M_Hall_undo.2.1 13 = .ok (.getfield 49, 3) := by decide +kernel
theorem d_Hall_undo_16 : decode M_Hall_undo.2.1 16 = .ok (.aload_n 0, 1) := by decide +kernel
theorem d_Hall_undo_17 : decode M_Hall_undo.2.1 17 = .ok (.getfield 42, 3) := by decide +kernel
theorem d_Hall_undo_20 : decode M_Hall_undo.2.1 20 = .ok (.invokevirtual 298, 3) := by decide +kernel
theorem d_Hall_undo_23 : decode M_Hall_undo.2.1 23 = .ok (.aload_n 0, 1) := by decide +kernel
theorem d_Hall_undo_24 : decode M_Hall_undo.2.1 24 = .ok (.getfield 49, 3) := by decide +kernel
theorem d_Hall_undo_27 : decode M_Hall_undo.2.1 27 = .ok (.getfield 133, 3) := by decide +kernel
theorem d_Hall_undo_30 : decode M_Hall_undo.2.1 30 = .ok (.ireturn, 1) := by decide +kernel
theorem d_Hall_needAbout_0 : decode M_Hall_needAbout.2.1 0 = .ok (.iload_n 0, 1) := by decide +kernel
theorem d_Hall_needAbout_1 : decode M_Hall_needAbout.2.1 1 = .ok (.invokestatic 263, 3) := by decide +kernel
theorem d_Hall_needAbout_4 : decode M_Hall_needAbout.2.1 4 = .ok (.ifCond .ne 14, 3) := by decide +kernel
theorem d_Hall_needAbout_7 : decode M_Hall_needAbout.2.1 7 = .ok (.new 175, 3) := by decide +kernel
theorem d_Hall_needAbout_10 : decode M_Hall_needAbout.2.1 10 = .ok (.dup, 1) := by decide +kernel
theorem d_Hall_needAbout_11 : decode M_Hall_needAbout.2.1 11 = .ok (.ldc_w 424, 3) := by decide +kernel
theorem d_Hall_needAbout_14 : decode M_Hall_needAbout.2.1 14 = .ok (.invokespecial 179, 3) := by decide +kernel
theorem d_Hall_needAbout_17 : decode M_Hall_needAbout.2.1 17 = .ok (.athrow, 1) := by decide +kernel
theorem d_Hall_needAbout_18 : decode M_Hall_needAbout.2.1 18 = .ok (.return_, 1) := by decide +kernel
theorem d_Hall_law_0 : decode M_Hall_law.2.1 0 = .ok (.iload_n 1, 1) := by decide +kernel
theorem d_Hall_law_1 : decode M_Hall_law.2.1 1 = .ok (.invokestatic 301, 3) := by decide +kernel
theorem d_Hall_law_4 : decode M_Hall_law.2.1 4 = .ok (.aload_n 0, 1) := by decide +kernel
theorem d_Hall_law_5 : decode M_Hall_law.2.1 5 = .ok (.getfield 72, 3) := by decide +kernel
theorem d_Hall_law_8 : decode M_Hall_law.2.1 8 = .ok (.iload_n 1, 1) := by decide +kernel
theorem d_Hall_law_9 : decode M_Hall_law.2.1 9 = .ok (.invokevirtual 304, 3) := by decide +kernel
theorem d_Hall_law_12 : decode M_Hall_law.2.1 12 = .ok (.ireturn, 1) := by decide +kernel
theorem d_Hall_rivals_0 : decode M_Hall_rivals.2.1 0 = .ok (.aload_n 0, 1) := by decide +kernel
theorem d_Hall_rivals_1 : decode M_Hall_rivals.2.1 1 = .ok (.getfield 72, 3) := by decide +kernel
theorem d_Hall_rivals_4 : decode M_Hall_rivals.2.1 4 = .ok (.invokevirtual 307, 3) := by decide +kernel
theorem d_Hall_rivals_7 : decode M_Hall_rivals.2.1 7 = .ok (.ireturn, 1) := by decide +kernel
theorem d_Hall_owed_0 : decode M_Hall_owed.2.1 0 = .ok (.iload_n 1, 1) := by decide +kernel
theorem d_Hall_owed_1 : decode M_Hall_owed.2.1 1 = .ok (.invokestatic 301, 3) := by decide +kernel
theorem d_Hall_owed_4 : decode M_Hall_owed.2.1 4 = .ok (.aload_n 0, 1) := by decide +kernel
theorem d_Hall_owed_5 : decode M_Hall_owed.2.1 5 = .ok (.getfield 72, 3) := by decide +kernel
theorem d_Hall_owed_8 : decode M_Hall_owed.2.1 8 = .ok (.iload_n 1, 1) := by decide +kernel
theorem d_Hall_owed_9 : decode M_Hall_owed.2.1 9 = .ok (.invokevirtual 310, 3) := by decide +kernel
theorem d_Hall_owed_12 : decode M_Hall_owed.2.1 12 = .ok (.ireturn, 1) := by decide +kernel
theorem d_Hall_cover_0 : decode M_Hall_cover.2.1 0 = .ok (.aload_n 0, 1) := by decide +kernel
theorem d_Hall_cover_1 : decode M_Hall_cover.2.1 1 = .ok (.getfield 79, 3) := by decide +kernel
theorem d_Hall_cover_4 : decode M_Hall_cover.2.1 4 = .ok (.invokevirtual 313, 3) := by decide +kernel
theorem d_Hall_cover_7 : decode M_Hall_cover.2.1 7 = .ok (.ireturn, 1) := by decide +kernel
theorem d_Hall_alone_0 : decode M_Hall_alone.2.1 0 = .ok (.aload_n 0, 1) := by decide +kernel
theorem d_Hall_alone_1 : decode M_Hall_alone.2.1 1 = .ok (.getfield 79, 3) := by decide +kernel
theorem d_Hall_alone_4 : decode M_Hall_alone.2.1 4 = .ok (.invokevirtual 316, 3) := by decide +kernel
theorem d_Hall_alone_7 : decode M_Hall_alone.2.1 7 = .ok (.ireturn, 1) := by decide +kernel
theorem d_Hall_barbers_0 : decode M_Hall_barbers.2.1 0 = .ok (.iload_n 1, 1) := by decide +kernel
theorem d_Hall_barbers_1 : decode M_Hall_barbers.2.1 1 = .ok (.bipush 6, 2) := by decide +kernel
theorem d_Hall_barbers_3 : decode M_Hall_barbers.2.1 3 = .ok (.invokestatic 266, 3) := by decide +kernel
theorem d_Hall_barbers_6 : decode M_Hall_barbers.2.1 6 = .ok (.ifCond .ne 14, 3) := by decide +kernel
theorem d_Hall_barbers_9 : decode M_Hall_barbers.2.1 9 = .ok (.new 110, 3) := by decide +kernel
theorem d_Hall_barbers_12 : decode M_Hall_barbers.2.1 12 = .ok (.dup, 1) := by decide +kernel
theorem d_Hall_barbers_13 : decode M_Hall_barbers.2.1 13 = .ok (.ldc_w 319, 3) := by decide +kernel
theorem d_Hall_barbers_16 : decode M_Hall_barbers.2.1 16 = .ok (.invokespecial 114, 3) := by decide +kernel
theorem d_Hall_barbers_19 : decode M_Hall_barbers.2.1 19 = .ok (.athrow, 1) := by decide +kernel
theorem d_Hall_barbers_20 : decode M_Hall_barbers.2.1 20 = .ok (.aload_n 0, 1) := by decide +kernel
theorem d_Hall_barbers_21 : decode M_Hall_barbers.2.1 21 = .ok (.getfield 79, 3) := by decide +kernel
theorem d_Hall_barbers_24 : decode M_Hall_barbers.2.1 24 = .ok (.iload_n 1, 1) := by decide +kernel
theorem d_Hall_barbers_25 : decode M_Hall_barbers.2.1 25 = .ok (.invokevirtual 321, 3) := by decide +kernel
theorem d_Hall_barbers_28 : decode M_Hall_barbers.2.1 28 = .ok (.ireturn, 1) := by decide +kernel
theorem d_Hall_shortest_0 : decode M_Hall_shortest.2.1 0 = .ok (.aload_n 0, 1) := by decide +kernel
theorem d_Hall_shortest_1 : decode M_Hall_shortest.2.1 1 = .ok (.iload_n 1, 1) := by decide +kernel
theorem d_Hall_shortest_2 : decode M_Hall_shortest.2.1 2 = .ok (.invokevirtual 180, 3) := by decide +kernel
theorem d_Hall_shortest_5 : decode M_Hall_shortest.2.1 5 = .ok (.aload_n 0, 1) := by decide +kernel
theorem d_Hall_shortest_6 : decode M_Hall_shortest.2.1 6 = .ok (.getfield 79, 3) := by decide +kernel
theorem d_Hall_shortest_9 : decode M_Hall_shortest.2.1 9 = .ok (.iload_n 1, 1) := by decide +kernel
theorem d_Hall_shortest_10 : decode M_Hall_shortest.2.1 10 = .ok (.invokevirtual 324, 3) := by decide +kernel
theorem d_Hall_shortest_13 : decode M_Hall_shortest.2.1 13 = .ok (.ireturn, 1) := by decide +kernel
theorem d_Hall_needOneOf_0 : decode M_Hall_needOneOf.2.1 0 = .ok (.iload_n 0, 1) := by decide +kernel
theorem d_Hall_needOneOf_1 : decode M_Hall_needOneOf.2.1 1 = .ok (.iload_n 1, 1) := by decide +kernel
theorem d_Hall_needOneOf_2 : decode M_Hall_needOneOf.2.1 2 = .ok (.invokestatic 266, 3) := by decide +kernel
theorem d_Hall_needOneOf_5 : decode M_Hall_needOneOf.2.1 5 = .ok (.ifCond .ne 14, 3) := by decide +kernel
theorem d_Hall_needOneOf_8 : decode M_Hall_needOneOf.2.1 8 = .ok (.new 175, 3) := by decide +kernel
theorem d_Hall_needOneOf_11 : decode M_Hall_needOneOf.2.1 11 = .ok (.dup, 1) := by decide +kernel
theorem d_Hall_needOneOf_12 : decode M_Hall_needOneOf.2.1 12 = .ok (.ldc_w 426, 3) := by decide +kernel
theorem d_Hall_needOneOf_15 : decode M_Hall_needOneOf.2.1 15 = .ok (.invokespecial 179, 3) := by decide +kernel
theorem d_Hall_needOneOf_18 : decode M_Hall_needOneOf.2.1 18 = .ok (.athrow, 1) := by decide +kernel
theorem d_Hall_needOneOf_19 : decode M_Hall_needOneOf.2.1 19 = .ok (.return_, 1) := by decide +kernel
theorem d_Hall_amnesty_0 : decode M_Hall_amnesty.2.1 0 = .ok (.aload_n 0, 1) := by decide +kernel
theorem d_Hall_amnesty_1 : decode M_Hall_amnesty.2.1 1 = .ok (.iload_n 1, 1) := by decide +kernel
theorem d_Hall_amnesty_2 : decode M_Hall_amnesty.2.1 2 = .ok (.invokevirtual 180, 3) := by decide +kernel
theorem d_Hall_amnesty_5 : decode M_Hall_amnesty.2.1 5 = .ok (.iload_n 3, 1) := by decide +kernel
theorem d_Hall_amnesty_6 : decode M_Hall_amnesty.2.1 6 = .ok (.iconst 1, 1) := by decide +kernel
theorem d_Hall_amnesty_7 : decode M_Hall_amnesty.2.1 7 = .ok (.invokestatic 327, 3) := by decide +kernel
theorem d_Hall_amnesty_10 : decode M_Hall_amnesty.2.1 10 = .ok (.iload_n 2, 1) := by decide +kernel
theorem d_Hall_amnesty_11 : decode M_Hall_amnesty.2.1 11 = .ok (.bipush 9, 2) := by decide +kernel
theorem d_Hall_amnesty_13 : decode M_Hall_amnesty.2.1 13 = .ok (.invokestatic 266, 3) := by decide +kernel
theorem d_Hall_amnesty_16 : decode M_Hall_amnesty.2.1 16 = .ok (.ifCond .ne 14, 3) := by decide +kernel
theorem d_Hall_amnesty_19 : decode M_Hall_amnesty.2.1 19 = .ok (.new 110, 3) := by decide +kernel
theorem d_Hall_amnesty_22 : decode M_Hall_amnesty.2.1 22 = .ok (.dup, 1) := by decide +kernel
theorem d_Hall_amnesty_23 : decode M_Hall_amnesty.2.1 23 = .ok (.ldc_w 331, 3) := by decide +kernel
theorem d_Hall_amnesty_26 : decode M_Hall_amnesty.2.1 26 = .ok (.invokespecial 114, 3) := by decide +kernel
theorem d_Hall_amnesty_29 : decode M_Hall_amnesty.2.1 29 = .ok (.athrow, 1) := by decide +kernel
theorem d_Hall_amnesty_30 : decode M_Hall_amnesty.2.1 30 = .ok (.aload_n 0, 1) := by decide +kernel
theorem d_Hall_amnesty_31 : decode M_Hall_amnesty.2.1 31 = .ok (.getfield 79, 3) := by decide +kernel
theorem d_Hall_amnesty_34 : decode M_Hall_amnesty.2.1 34 = .ok (.iload_n 1, 1) := by decide +kernel
theorem d_Hall_amnesty_35 : decode M_Hall_amnesty.2.1 35 = .ok (.iload_n 2, 1) := by decide +kernel
theorem d_Hall_amnesty_36 : decode M_Hall_amnesty.2.1 36 = .ok (.invokevirtual 333, 3) := by decide +kernel
theorem d_Hall_amnesty_39 : decode M_Hall_amnesty.2.1 39 = .ok (.istore 4, 2) := by decide +kernel
theorem d_Hall_amnesty_41 : decode M_Hall_amnesty.2.1 41 = .ok (.iload_n 3, 1) := by decide +kernel
theorem d_Hall_amnesty_42 : decode M_Hall_amnesty.2.1 42 = .ok (.ifCond .ne 17, 3) := by decide +kernel
theorem d_Hall_amnesty_45 : decode M_Hall_amnesty.2.1 45 = .ok (.aload_n 0, 1) := by decide +kernel
theorem d_Hall_amnesty_46 : decode M_Hall_amnesty.2.1 46 = .ok (.getfield 79, 3) := by decide +kernel
theorem d_Hall_amnesty_49 : decode M_Hall_amnesty.2.1 49 = .ok (.iload_n 1, 1) := by decide +kernel
theorem d_Hall_amnesty_50 : decode M_Hall_amnesty.2.1 50 = .ok (.iload 4, 2) := by decide +kernel
theorem d_Hall_amnesty_52 : decode M_Hall_amnesty.2.1 52 = .ok (.iload_n 2, 1) := by decide +kernel
theorem d_Hall_amnesty_53 : decode M_Hall_amnesty.2.1 53 = .ok (.invokevirtual 336, 3) := by decide +kernel
theorem d_Hall_amnesty_56 : decode M_Hall_amnesty.2.1 56 = .ok (.goto 5, 3) := by decide +kernel
theorem d_Hall_amnesty_59 : decode M_Hall_amnesty.2.1 59 = .ok (.iload 4, 2) := by decide +kernel
theorem d_Hall_amnesty_61 : decode M_Hall_amnesty.2.1 61 = .ok (.ireturn, 1) := by decide +kernel
theorem d_Hall_week_0 : decode M_Hall_week.2.1 0 = .ok (.aload_n 0, 1) := by decide +kernel
theorem d_Hall_week_1 : decode M_Hall_week.2.1 1 = .ok (.iload_n 1, 1) := by decide +kernel
theorem d_Hall_week_2 : decode M_Hall_week.2.1 2 = .ok (.invokevirtual 180, 3) := by decide +kernel
theorem d_Hall_week_5 : decode M_Hall_week.2.1 5 = .ok (.iload_n 2, 1) := by decide +kernel
theorem d_Hall_week_6 : decode M_Hall_week.2.1 6 = .ok (.iconst (-1), 1) := by decide +kernel
theorem d_Hall_week_7 : decode M_Hall_week.2.1 7 = .ok (.if_icmp .lt 9, 3) := by decide +kernel
theorem d_Hall_week_10 : decode M_Hall_week.2.1 10 = .ok (.iload_n 2, 1) := by decide +kernel
theorem d_Hall_week_11 : decode M_Hall_week.2.1 11 = .ok (.bipush 6, 2) := by decide +kernel
theorem d_Hall_week_13 : decode M_Hall_week.2.1 13 = .ok (.if_icmp .le 14, 3) := by decide +kernel
theorem d_Hall_week_16 : decode M_Hall_week.2.1 16 = .ok (.new 175, 3) := by decide +kernel
theorem d_Hall_week_19 : decode M_Hall_week.2.1 19 = .ok (.dup, 1) := by decide +kernel
theorem d_Hall_week_20 : decode M_Hall_week.2.1 20 = .ok (.ldc_w 339, 3) := by decide +kernel
theorem d_Hall_week_23 : decode M_Hall_week.2.1 23 = .ok (.invokespecial 179, 3) := by decide +kernel
theorem d_Hall_week_26 : decode M_Hall_week.2.1 26 = .ok (.athrow, 1) := by decide +kernel
theorem d_Hall_week_27 : decode M_Hall_week.2.1 27 = .ok (.aload_n 0, 1) := by decide +kernel
theorem d_Hall_week_28 : decode M_Hall_week.2.1 28 = .ok (.getfield 79, 3) := by decide +kernel
theorem d_Hall_week_31 : decode M_Hall_week.2.1 31 = .ok (.iload_n 1, 1) := by decide +kernel
theorem d_Hall_week_32 : decode M_Hall_week.2.1 32 = .ok (.iload_n 2, 1) := by decide +kernel
theorem d_Hall_week_33 : decode M_Hall_week.2.1 33 = .ok (.invokevirtual 341, 3) := by decide +kernel
theorem d_Hall_week_36 : decode M_Hall_week.2.1 36 = .ok (.ireturn, 1) := by decide +kernel
theorem d_Hall_oldest_0 : decode M_Hall_oldest.2.1 0 = .ok (.iload_n 2, 1) := by decide +kernel
theorem d_Hall_oldest_1 : decode M_Hall_oldest.2.1 1 = .ok (.invokestatic 301, 3) := by decide +kernel
theorem d_Hall_oldest_4 : decode M_Hall_oldest.2.1 4 = .ok (.iload_n 1, 1) := by decide +kernel
theorem d_Hall_oldest_5 : decode M_Hall_oldest.2.1 5 = .ok (.invokestatic 260, 3) := by decide +kernel
theorem d_Hall_oldest_8 : decode M_Hall_oldest.2.1 8 = .ok (.ifCond .ne 14, 3) := by decide +kernel
theorem d_Hall_oldest_11 : decode M_Hall_oldest.2.1 11 = .ok (.new 175, 3) := by decide +kernel
theorem d_Hall_oldest_14 : decode M_Hall_oldest.2.1 14 = .ok (.dup, 1) := by decide +kernel
theorem d_Hall_oldest_15 : decode M_Hall_oldest.2.1 15 = .ok (.ldc_w 344, 3) := by decide +kernel
theorem d_Hall_oldest_18 : decode M_Hall_oldest.2.1 18 = .ok (.invokespecial 179, 3) := by decide +kernel
theorem d_Hall_oldest_21 : decode M_Hall_oldest.2.1 21 = .ok (.athrow, 1) := by decide +kernel
theorem d_Hall_oldest_22 : decode M_Hall_oldest.2.1 22 = .ok (.aload_n 0, 1) := by decide +kernel
theorem d_Hall_oldest_23 : decode M_Hall_oldest.2.1 23 = .ok (.getfield 72, 3) := by decide +kernel
theorem d_Hall_oldest_26 : decode M_Hall_oldest.2.1 26 = .ok (.iload_n 1, 1) := by decide +kernel
theorem d_Hall_oldest_27 : decode M_Hall_oldest.2.1 27 = .ok (.iload_n 2, 1) := by decide +kernel
theorem d_Hall_oldest_28 : decode M_Hall_oldest.2.1 28 = .ok (.invokevirtual 346, 3) := by decide +kernel
theorem d_Hall_oldest_31 : decode M_Hall_oldest.2.1 31 = .ok (.ireturn, 1) := by decide +kernel
theorem d_Hall_believed_0 : decode M_Hall_believed.2.1 0 = .ok (.iload_n 1, 1) := by decide +kernel
theorem d_Hall_believed_1 : decode M_Hall_believed.2.1 1 = .ok (.invokestatic 301, 3) := by decide +kernel
theorem d_Hall_believed_4 : decode M_Hall_believed.2.1 4 = .ok (.aload_n 0, 1) := by decide +kernel
theorem d_Hall_believed_5 : decode M_Hall_believed.2.1 5 = .ok (.getfield 72, 3) := by decide +kernel
theorem d_Hall_believed_8 : decode M_Hall_believed.2.1 8 = .ok (.iload_n 1, 1) := by decide +kernel
theorem d_Hall_believed_9 : decode M_Hall_believed.2.1 9 = .ok (.invokevirtual 349, 3) := by decide +kernel
theorem d_Hall_believed_12 : decode M_Hall_believed.2.1 12 = .ok (.ireturn, 1) := by decide +kernel
theorem d_Hall_until_0 : decode M_Hall_until.2.1 0 = .ok (.aload_n 0, 1) := by decide +kernel
theorem d_Hall_until_1 : decode M_Hall_until.2.1 1 = .ok (.iload_n 1, 1) := by decide +kernel
theorem d_Hall_until_2 : decode M_Hall_until.2.1 2 = .ok (.invokevirtual 204, 3) := by decide +kernel
theorem d_Hall_until_5 : decode M_Hall_until.2.1 5 = .ok (.aload_n 0, 1) := by decide +kernel
theorem d_Hall_until_6 : decode M_Hall_until.2.1 6 = .ok (.getfield 42, 3) := by decide +kernel
theorem d_Hall_until_9 : decode M_Hall_until.2.1 9 = .ok (.iload_n 1, 1) := by decide +kernel
theorem d_Hall_until_10 : decode M_Hall_until.2.1 10 = .ok (.invokevirtual 212, 3) := by decide +kernel
theorem d_Hall_until_13 : decode M_Hall_until.2.1 13 = .ok (.ifCond .eq 14, 3) := by decide +kernel
theorem d_Hall_until_16 : decode M_Hall_until.2.1 16 = .ok (.aload_n 0, 1) := by decide +kernel
theorem d_Hall_until_17 : decode M_Hall_until.2.1 17 = .ok (.getfield 79, 3) := by decide +kernel
theorem d_Hall_until_20 : decode M_Hall_until.2.1 20 = .ok (.iload_n 1, 1) := by decide +kernel
theorem d_Hall_until_21 : decode M_Hall_until.2.1 21 = .ok (.invokevirtual 352, 3) := by decide +kernel
theorem d_Hall_until_24 : decode M_Hall_until.2.1 24 = .ok (.goto 4, 3) := by decide +kernel
theorem d_Hall_until_27 : decode M_Hall_until.2.1 27 = .ok (.iconst (-1), 1) := by decide +kernel
theorem d_Hall_until_28 : decode M_Hall_until.2.1 28 = .ok (.ireturn, 1) := by decide +kernel
theorem d_Hall_doomed_0 : decode M_Hall_doomed.2.1 0 = .ok (.iload_n 1, 1) := by decide +kernel
theorem d_Hall_doomed_1 : decode M_Hall_doomed.2.1 1 = .ok (.bipush 60, 2) := by decide +kernel
theorem d_Hall_doomed_3 : decode M_Hall_doomed.2.1 3 = .ok (.invokestatic 266, 3) := by decide +kernel
theorem d_Hall_doomed_6 : decode M_Hall_doomed.2.1 6 = .ok (.ifCond .ne 14, 3) := by decide +kernel
theorem d_Hall_doomed_9 : decode M_Hall_doomed.2.1 9 = .ok (.new 110, 3) := by decide +kernel
theorem d_Hall_doomed_12 : decode M_Hall_doomed.2.1 12 = .ok (.dup, 1) := by decide +kernel
theorem d_Hall_doomed_13 : decode M_Hall_doomed.2.1 13 = .ok (.ldc_w 355, 3) := by decide +kernel
theorem d_Hall_doomed_16 : decode M_Hall_doomed.2.1 16 = .ok (.invokespecial 114, 3) := by decide +kernel
theorem d_Hall_doomed_19 : decode M_Hall_doomed.2.1 19 = .ok (.athrow, 1) := by decide +kernel
theorem d_Hall_doomed_20 : decode M_Hall_doomed.2.1 20 = .ok (.aload_n 0, 1) := by decide +kernel
theorem d_Hall_doomed_21 : decode M_Hall_doomed.2.1 21 = .ok (.getfield 79, 3) := by decide +kernel
theorem d_Hall_doomed_24 : decode M_Hall_doomed.2.1 24 = .ok (.iload_n 1, 1) := by decide +kernel
theorem d_Hall_doomed_25 : decode M_Hall_doomed.2.1 25 = .ok (.invokevirtual 357, 3) := by decide +kernel
theorem d_Hall_doomed_28 : decode M_Hall_doomed.2.1 28 = .ok (.ireturn, 1) := by decide +kernel
theorem d_Hall_safest_0 : decode M_Hall_safest.2.1 0 = .ok (.aload_n 0, 1) := by decide +kernel
theorem d_Hall_safest_1 : decode M_Hall_safest.2.1 1 = .ok (.getfield 79, 3) := by decide +kernel
theorem d_Hall_safest_4 : decode M_Hall_safest.2.1 4 = .ok (.invokevirtual 360, 3) := by decide +kernel
theorem d_Hall_safest_7 : decode M_Hall_safest.2.1 7 = .ok (.ireturn, 1) := by decide +kernel
theorem d_Hall_heir_0 : decode M_Hall_heir.2.1 0 = .ok (.aload_n 0, 1) := by decide +kernel
theorem d_Hall_heir_1 : decode M_Hall_heir.2.1 1 = .ok (.iload_n 1, 1) := by decide +kernel
theorem d_Hall_heir_2 : decode M_Hall_heir.2.1 2 = .ok (.invokevirtual 180, 3) := by decide +kernel
theorem d_Hall_heir_5 : decode M_Hall_heir.2.1 5 = .ok (.aload_n 0, 1) := by decide +kernel
theorem d_Hall_heir_6 : decode M_Hall_heir.2.1 6 = .ok (.getfield 79, 3) := by decide +kernel
theorem d_Hall_heir_9 : decode M_Hall_heir.2.1 9 = .ok (.iload_n 1, 1) := by decide +kernel
theorem d_Hall_heir_10 : decode M_Hall_heir.2.1 10 = .ok (.invokevirtual 363, 3) := by decide +kernel
theorem d_Hall_heir_13 : decode M_Hall_heir.2.1 13 = .ok (.ireturn, 1) := by decide +kernel
theorem d_Hall_lice_0 : decode M_Hall_lice.2.1 0 = .ok (.aload_n 0, 1) := by decide +kernel
theorem d_Hall_lice_1 : decode M_Hall_lice.2.1 1 = .ok (.iload_n 1, 1) := by decide +kernel
theorem d_Hall_lice_2 : decode M_Hall_lice.2.1 2 = .ok (.invokevirtual 180, 3) := by decide +kernel
theorem d_Hall_lice_5 : decode M_Hall_lice.2.1 5 = .ok (.aload_n 0, 1) := by decide +kernel
theorem d_Hall_lice_6 : decode M_Hall_lice.2.1 6 = .ok (.getfield 79, 3) := by decide +kernel
theorem d_Hall_lice_9 : decode M_Hall_lice.2.1 9 = .ok (.iload_n 1, 1) := by decide +kernel
theorem d_Hall_lice_10 : decode M_Hall_lice.2.1 10 = .ok (.invokevirtual 366, 3) := by decide +kernel
theorem d_Hall_lice_13 : decode M_Hall_lice.2.1 13 = .ok (.ireturn, 1) := by decide +kernel
theorem d_Hall_see_0 : decode M_Hall_see.2.1 0 = .ok (.aload_n 0, 1) := by decide +kernel
theorem d_Hall_see_1 : decode M_Hall_see.2.1 1 = .ok (.iload_n 1, 1) := by decide +kernel
theorem d_Hall_see_2 : decode M_Hall_see.2.1 2 = .ok (.invokevirtual 204, 3) := by decide +kernel
theorem d_Hall_see_5 : decode M_Hall_see.2.1 5 = .ok (.aload_n 0, 1) := by decide +kernel
theorem d_Hall_see_6 : decode M_Hall_see.2.1 6 = .ok (.getfield 56, 3) := by decide +kernel
theorem d_Hall_see_9 : decode M_Hall_see.2.1 9 = .ok (.getfield 136, 3) := by decide +kernel
theorem d_Hall_see_12 : decode M_Hall_see.2.1 12 = .ok (.bipush 8, 2) := by decide +kernel
theorem d_Hall_see_14 : decode M_Hall_see.2.1 14 = .ok (.if_icmp .lt 15, 3) := by decide +kernel
theorem d_Hall_see_17 : decode M_Hall_see.2.1 17 = .ok (.aload_n 0, 1) := by decide +kernel
theorem d_Hall_see_18 : decode M_Hall_see.2.1 18 = .ok (.getfield 17, 3) := by decide +kernel
theorem d_Hall_see_21 : decode M_Hall_see.2.1 21 = .ok (.iconst 2, 1) := by decide +kernel
theorem d_Hall_see_22 : decode M_Hall_see.2.1 22 = .ok (.dup2, 1) := by decide +kernel
theorem d_Hall_see_23 : decode M_Hall_see.2.1 23 = .ok (.iaload, 1) := by decide +kernel
theorem d_Hall_see_24 : decode M_Hall_see.2.1 24 = .ok (.iconst 1, 1) := by decide +kernel
theorem d_Hall_see_25 : decode M_Hall_see.2.1 25 = .ok (.iadd, 1) := by decide +kernel
theorem d_Hall_see_26 : decode M_Hall_see.2.1 26 = .ok (.iastore, 1) := by decide +kernel
theorem d_Hall_see_27 : decode M_Hall_see.2.1 27 = .ok (.iconst (-1), 1) := by decide +kernel
theorem d_Hall_see_28 : decode M_Hall_see.2.1 28 = .ok (.ireturn, 1) := by decide +kernel
theorem d_Hall_see_29 : decode M_Hall_see.2.1 29 = .ok (.aload_n 0, 1) := by decide +kernel
theorem d_Hall_see_30 : decode M_Hall_see.2.1 30 = .ok (.getfield 56, 3) := by decide +kernel
theorem d_Hall_see_33 : decode M_Hall_see.2.1 33 = .ok (.iload_n 1, 1) := by decide +kernel
theorem d_Hall_see_34 : decode M_Hall_see.2.1 34 = .ok (.iload_n 2, 1) := by decide +kernel
theorem d_Hall_see_35 : decode M_Hall_see.2.1 35 = .ok (.invokevirtual 369, 3) := by decide +kernel
theorem d_Hall_see_38 : decode M_Hall_see.2.1 38 = .ok (.aload_n 0, 1) := by decide +kernel
theorem d_Hall_see_39 : decode M_Hall_see.2.1 39 = .ok (.getfield 56, 3) := by decide +kernel
theorem d_Hall_see_42 : decode M_Hall_see.2.1 42 = .ok (.getfield 136, 3) := by decide +kernel
theorem d_Hall_see_45 : decode M_Hall_see.2.1 45 = .ok (.ireturn, 1) := by decide +kernel
theorem d_Hall_ate_0 : decode M_Hall_ate.2.1 0 = .ok (.aload_n 0, 1) := by decide +kernel
theorem d_Hall_ate_1 : decode M_Hall_ate.2.1 1 = .ok (.iload_n 1, 1) := by decide +kernel
theorem d_Hall_ate_2 : decode M_Hall_ate.2.1 2 = .ok (.invokevirtual 180, 3) := by decide +kernel
theorem d_Hall_ate_5 : decode M_Hall_ate.2.1 5 = .ok (.iload_n 2, 1) := by decide +kernel
theorem d_Hall_ate_6 : decode M_Hall_ate.2.1 6 = .ok (.iconst 1, 1) := by decide +kernel
theorem d_Hall_ate_7 : decode M_Hall_ate.2.1 7 = .ok (.invokestatic 327, 3) := by decide +kernel
theorem d_Hall_ate_10 : decode M_Hall_ate.2.1 10 = .ok (.iload_n 2, 1) := by decide +kernel
theorem d_Hall_ate_11 : decode M_Hall_ate.2.1 11 = .ok (.ifCond .ne 18, 3) := by decide +kernel
theorem d_Hall_ate_14 : decode M_Hall_ate.2.1 14 = .ok (.aload_n 0, 1) := by decide +kernel
theorem d_Hall_ate_15 : decode M_Hall_ate.2.1 15 = .ok (.getfield 56, 3) := by decide +kernel
theorem d_Hall_ate_18 : decode M_Hall_ate.2.1 18 = .ok (.aload_n 0, 1) := by decide +kernel
theorem d_Hall_ate_19 : decode M_Hall_ate.2.1 19 = .ok (.getfield 42, 3) := by decide +kernel
theorem d_Hall_ate_22 : decode M_Hall_ate.2.1 22 = .ok (.iload_n 1, 1) := by decide +kernel
theorem d_Hall_ate_23 : decode M_Hall_ate.2.1 23 = .ok (.invokevirtual 373, 3) := by decide +kernel
theorem d_Hall_ate_26 : decode M_Hall_ate.2.1 26 = .ok (.goto 15, 3) := by decide +kernel
theorem d_Hall_ate_29 : decode M_Hall_ate.2.1 29 = .ok (.aload_n 0, 1) := by decide +kernel
theorem d_Hall_ate_30 : decode M_Hall_ate.2.1 30 = .ok (.getfield 56, 3) := by decide +kernel
theorem d_Hall_ate_33 : decode M_Hall_ate.2.1 33 = .ok (.aload_n 0, 1) := by decide +kernel
theorem d_Hall_ate_34 : decode M_Hall_ate.2.1 34 = .ok (.getfield 42, 3) := by decide +kernel
theorem d_Hall_ate_37 : decode M_Hall_ate.2.1 37 = .ok (.iload_n 1, 1) := by decide +kernel
theorem d_Hall_ate_38 : decode M_Hall_ate.2.1 38 = .ok (.invokevirtual 377, 3) := by decide +kernel
theorem d_Hall_ate_41 : decode M_Hall_ate.2.1 41 = .ok (.ireturn, 1) := by decide +kernel
theorem d_Hall_forget_0 : decode M_Hall_forget.2.1 0 = .ok (.aload_n 0, 1) := by decide +kernel
theorem d_Hall_forget_1 : decode M_Hall_forget.2.1 1 = .ok (.getfield 56, 3) := by decide +kernel
theorem d_Hall_forget_4 : decode M_Hall_forget.2.1 4 = .ok (.getfield 136, 3) := by decide +kernel
theorem d_Hall_forget_7 : decode M_Hall_forget.2.1 7 = .ok (.ifCond .ne 5, 3) := by decide +kernel
theorem d_Hall_forget_10 : decode M_Hall_forget.2.1 10 = .ok (.iconst (-1), 1) := by decide +kernel
theorem d_Hall_forget_11 : decode M_Hall_forget.2.1 11 = .ok (.ireturn, 1) := by decide +kernel
theorem d_Hall_forget_12 : decode M_Hall_forget.2.1 12 = .ok (.aload_n 0, 1) := by decide +kernel
theorem d_Hall_forget_13 : decode M_Hall_forget.2.1 13 = .ok (.getfield 56, 3) := by decide +kernel
theorem d_Hall_forget_16 : decode M_Hall_forget.2.1 16 = .ok (.dup, 1) := by decide +kernel
theorem d_Hall_forget_17 : decode M_Hall_forget.2.1 17 = .ok (.getfield 136, 3) := by decide +kernel
theorem d_Hall_forget_20 : decode M_Hall_forget.2.1 20 = .ok (.iconst 1, 1) := by decide +kernel
theorem d_Hall_forget_21 : decode M_Hall_forget.2.1 21 = .ok (.isub, 1) := by decide +kernel
theorem d_Hall_forget_22 : decode M_Hall_forget.2.1 22 = .ok (.putfield 136, 3) := by decide +kernel
theorem d_Hall_forget_25 : decode M_Hall_forget.2.1 25 = .ok (.aload_n 0, 1) := by decide +kernel
theorem d_Hall_forget_26 : decode M_Hall_forget.2.1 26 = .ok (.getfield 56, 3) := by decide +kernel
theorem d_Hall_forget_29 : decode M_Hall_forget.2.1 29 = .ok (.getfield 136, 3) := by decide +kernel
theorem d_Hall_forget_32 : decode M_Hall_forget.2.1 32 = .ok (.ireturn, 1) := by decide +kernel
theorem d_Hall_game_0 : decode M_Hall_game.2.1 0 = .ok (.iload_n 1, 1) := by decide +kernel
theorem d_Hall_game_1 : decode M_Hall_game.2.1 1 = .ok (.iconst 1, 1) := by decide +kernel
theorem d_Hall_game_2 : decode M_Hall_game.2.1 2 = .ok (.invokestatic 327, 3) := by decide +kernel
theorem d_Hall_game_5 : decode M_Hall_game.2.1 5 = .ok (.aload_n 0, 1) := by decide +kernel
theorem d_Hall_game_6 : decode M_Hall_game.2.1 6 = .ok (.getfield 86, 3) := by decide +kernel
theorem d_Hall_game_9 : decode M_Hall_game.2.1 9 = .ok (.invokevirtual 380, 3) := by decide +kernel
theorem d_Hall_game_12 : decode M_Hall_game.2.1 12 = .ok (.iload_n 1, 1) := by decide +kernel
theorem d_Hall_game_13 : decode M_Hall_game.2.1 13 = .ok (.ifCond .ne 13, 3) := by decide +kernel
theorem d_Hall_game_16 : decode M_Hall_game.2.1 16 = .ok (.aload_n 0, 1) := by decide +kernel
theorem d_Hall_game_17 : decode M_Hall_game.2.1 17 = .ok (.getfield 86, 3) := by decide +kernel
theorem d_Hall_game_20 : decode M_Hall_game.2.1 20 = .ok (.invokevirtual 383, 3) := by decide +kernel
theorem d_Hall_game_23 : decode M_Hall_game.2.1 23 = .ok (.goto 10, 3) := by decide +kernel
theorem d_Hall_game_26 : decode M_Hall_game.2.1 26 = .ok (.aload_n 0, 1) := by decide +kernel
theorem d_Hall_game_27 : decode M_Hall_game.2.1 27 = .ok (.getfield 86, 3) := by decide +kernel
theorem d_Hall_game_30 : decode M_Hall_game.2.1 30 = .ok (.invokevirtual 386, 3) := by decide +kernel
theorem d_Hall_game_33 : decode M_Hall_game.2.1 33 = .ok (.ireturn, 1) := by decide +kernel
theorem d_Hall_season_0 : decode M_Hall_season.2.1 0 = .ok (.iload_n 3, 1) := by decide +kernel
theorem d_Hall_season_1 : decode M_Hall_season.2.1 1 = .ok (.iconst 2, 1) := by decide +kernel
theorem d_Hall_season_2 : decode M_Hall_season.2.1 2 = .ok (.invokestatic 327, 3) := by decide +kernel
theorem d_Hall_season_5 : decode M_Hall_season.2.1 5 = .ok (.iload_n 2, 1) := by decide +kernel
theorem d_Hall_season_6 : decode M_Hall_season.2.1 6 = .ok (.bipush 40, 2) := by decide +kernel
theorem d_Hall_season_8 : decode M_Hall_season.2.1 8 = .ok (.invokestatic 266, 3) := by decide +kernel
theorem d_Hall_season_11 : decode M_Hall_season.2.1 11 = .ok (.ifCond .ne 14, 3) := by decide +kernel
theorem d_Hall_season_14 : decode M_Hall_season.2.1 14 = .ok (.new 110, 3) := by decide +kernel
theorem d_Hall_season_17 : decode M_Hall_season.2.1 17 = .ok (.dup, 1) := by decide +kernel
theorem d_Hall_season_18 : decode M_Hall_season.2.1 18 = .ok (.ldc_w 389, 3) := by decide +kernel
theorem d_Hall_season_21 : decode M_Hall_season.2.1 21 = .ok (.invokespecial 114, 3) := by decide +kernel
theorem d_Hall_season_24 : decode M_Hall_season.2.1 24 = .ok (.athrow, 1) := by decide +kernel
theorem d_Hall_season_25 : decode M_Hall_season.2.1 25 = .ok (.aload_n 0, 1) := by decide +kernel
theorem d_Hall_season_26 : decode M_Hall_season.2.1 26 = .ok (.getfield 93, 3) := by decide +kernel
theorem d_Hall_season_29 : decode M_Hall_season.2.1 29 = .ok (.aload_n 0, 1) := by decide +kernel
theorem d_Hall_season_30 : decode M_Hall_season.2.1 30 = .ok (.getfield 42, 3) := by decide +kernel
theorem d_Hall_season_33 : decode M_Hall_season.2.1 33 = .ok (.iload_n 1, 1) := by decide +kernel
theorem d_Hall_season_34 : decode M_Hall_season.2.1 34 = .ok (.iload_n 2, 1) := by decide +kernel
theorem d_Hall_season_35 : decode M_Hall_season.2.1 35 = .ok (.invokevirtual 391, 3) := by decide +kernel
theorem d_Hall_season_38 : decode M_Hall_season.2.1 38 = .ok (.iload_n 3, 1) := by decide +kernel
theorem d_Hall_season_39 : decode M_Hall_season.2.1 39 = .ok (.lookupswitch 51 #[(0, 25), (1, 39)], 25) := by decide +kernel
theorem d_Hall_season_64 : decode M_Hall_season.2.1 64 = .ok (.aload_n 0, 1) := by decide +kernel
theorem d_Hall_season_65 : decode M_Hall_season.2.1 65 = .ok (.getfield 93, 3) := by decide +kernel
theorem d_Hall_season_68 : decode M_Hall_season.2.1 68 = .ok (.getfield 395, 3) := by decide +kernel
theorem d_Hall_season_71 : decode M_Hall_season.2.1 71 = .ok (.invokevirtual 169, 3) := by decide +kernel
theorem d_Hall_season_74 : decode M_Hall_season.2.1 74 = .ok (.invokestatic 163, 3) := by decide +kernel
theorem d_Hall_season_77 : decode M_Hall_season.2.1 77 = .ok (.ireturn, 1) := by decide +kernel
theorem d_Hall_season_78 : decode M_Hall_season.2.1 78 = .ok (.aload_n 0, 1) := by decide +kernel
theorem d_Hall_season_79 : decode M_Hall_season.2.1 79 = .ok (.getfield 93, 3) := by decide +kernel
theorem d_Hall_season_82 : decode M_Hall_season.2.1 82 = .ok (.getfield 396, 3) := by decide +kernel
theorem d_Hall_season_85 : decode M_Hall_season.2.1 85 = .ok (.iconst (-1), 1) := by decide +kernel
theorem d_Hall_season_86 : decode M_Hall_season.2.1 86 = .ok (.invokevirtual 310, 3) := by decide +kernel
theorem d_Hall_season_89 : decode M_Hall_season.2.1 89 = .ok (.ireturn, 1) := by decide +kernel
theorem d_Hall_season_90 : decode M_Hall_season.2.1 90 = .ok (.aload_n 0, 1) := by decide +kernel
theorem d_Hall_season_91 : decode M_Hall_season.2.1 91 = .ok (.getfield 93, 3) := by decide +kernel
theorem d_Hall_season_94 : decode M_Hall_season.2.1 94 = .ok (.getfield 397, 3) := by decide +kernel
theorem d_Hall_season_97 : decode M_Hall_season.2.1 97 = .ok (.ireturn, 1) := by decide +kernel
theorem d_Hall_image_0 : decode M_Hall_image.2.1 0 = .ok (.aload_n 0, 1) := by decide +kernel
theorem d_Hall_image_1 : decode M_Hall_image.2.1 1 = .ok (.getfield 63, 3) := by decide +kernel
theorem d_Hall_image_4 : decode M_Hall_image.2.1 4 = .ok (.iconst 1, 1) := by decide +kernel
theorem d_Hall_image_5 : decode M_Hall_image.2.1 5 = .ok (.putfield 137, 3) := by decide +kernel
theorem d_Hall_image_8 : decode M_Hall_image.2.1 8 = .ok (.aload_n 0, 1) := by decide +kernel
theorem d_Hall_image_9 : decode M_Hall_image.2.1 9 = .ok (.getfield 63, 3) := by decide +kernel
theorem d_Hall_image_12 : decode M_Hall_image.2.1 12 = .ok (.getfield 400, 3) := by decide +kernel
theorem d_Hall_image_15 : decode M_Hall_image.2.1 15 = .ok (.aload_n 0, 1) := by decide +kernel
theorem d_Hall_image_16 : decode M_Hall_image.2.1 16 = .ok (.getfield 42, 3) := by decide +kernel
theorem d_Hall_image_19 : decode M_Hall_image.2.1 19 = .ok (.invokevirtual 131, 3) := by decide +kernel
theorem d_Hall_image_22 : decode M_Hall_image.2.1 22 = .ok (.aload_n 0, 1) := by decide +kernel
theorem d_Hall_image_23 : decode M_Hall_image.2.1 23 = .ok (.getfield 33, 3) := by decide +kernel
theorem d_Hall_image_26 : decode M_Hall_image.2.1 26 = .ok (.getfield 401, 3) := by decide +kernel
theorem d_Hall_image_29 : decode M_Hall_image.2.1 29 = .ok (.iconst 0, 1) := by decide +kernel
theorem d_Hall_image_30 : decode M_Hall_image.2.1 30 = .ok (.aload_n 0, 1) := by decide +kernel
theorem d_Hall_image_31 : decode M_Hall_image.2.1 31 = .ok (.getfield 63, 3) := by decide +kernel
theorem d_Hall_image_34 : decode M_Hall_image.2.1 34 = .ok (.getfield 404, 3) := by decide +kernel
theorem d_Hall_image_37 : decode M_Hall_image.2.1 37 = .ok (.iconst 0, 1) := by decide +kernel
theorem d_Hall_image_38 : decode M_Hall_image.2.1 38 = .ok (.aload_n 0, 1) := by decide +kernel
theorem d_Hall_image_39 : decode M_Hall_image.2.1 39 = .ok (.getfield 33, 3) := by decide +kernel
theorem d_Hall_image_42 : decode M_Hall_image.2.1 42 = .ok (.getfield 401, 3) := by decide +kernel
theorem d_Hall_image_45 : decode M_Hall_image.2.1 45 = .ok (.arraylength, 1) := by decide +kernel
theorem d_Hall_image_46 : decode M_Hall_image.2.1 46 = .ok (.invokestatic 405, 3) := by decide +kernel
theorem d_Hall_image_49 : decode M_Hall_image.2.1 49 = .ok (.aload_n 0, 1) := by decide +kernel
theorem d_Hall_image_50 : decode M_Hall_image.2.1 50 = .ok (.getfield 63, 3) := by decide +kernel
theorem d_Hall_image_53 : decode M_Hall_image.2.1 53 = .ok (.getfield 411, 3) := by decide +kernel
theorem d_Hall_image_56 : decode M_Hall_image.2.1 56 = .ok (.aload_n 0, 1) := by decide +kernel
theorem d_Hall_image_57 : decode M_Hall_image.2.1 57 = .ok (.getfield 49, 3) := by decide +kernel
theorem d_Hall_image_60 : decode M_Hall_image.2.1 60 = .ok (.invokevirtual 412, 3) := by decide +kernel
theorem d_Hall_image_63 : decode M_Hall_image.2.1 63 = .ok (.aload_n 0, 1) := by decide +kernel
theorem d_Hall_image_64 : decode M_Hall_image.2.1 64 = .ok (.getfield 63, 3) := by decide +kernel
theorem d_Hall_image_67 : decode M_Hall_image.2.1 67 = .ok (.getfield 415, 3) := by decide +kernel
theorem d_Hall_image_70 : decode M_Hall_image.2.1 70 = .ok (.aload_n 0, 1) := by decide +kernel
theorem d_Hall_image_71 : decode M_Hall_image.2.1 71 = .ok (.getfield 56, 3) := by decide +kernel
theorem d_Hall_image_74 : decode M_Hall_image.2.1 74 = .ok (.invokevirtual 416, 3) := by decide +kernel
theorem d_Hall_image_77 : decode M_Hall_image.2.1 77 = .ok (.aload_n 0, 1) := by decide +kernel
theorem d_Hall_image_78 : decode M_Hall_image.2.1 78 = .ok (.getfield 17, 3) := by decide +kernel
theorem d_Hall_image_81 : decode M_Hall_image.2.1 81 = .ok (.iconst 0, 1) := by decide +kernel
theorem d_Hall_image_82 : decode M_Hall_image.2.1 82 = .ok (.aload_n 0, 1) := by decide +kernel
theorem d_Hall_image_83 : decode M_Hall_image.2.1 83 = .ok (.getfield 63, 3) := by decide +kernel
theorem d_Hall_image_86 : decode M_Hall_image.2.1 86 = .ok (.getfield 419, 3) := by decide +kernel
theorem d_Hall_image_89 : decode M_Hall_image.2.1 89 = .ok (.iconst 0, 1) := by decide +kernel
theorem d_Hall_image_90 : decode M_Hall_image.2.1 90 = .ok (.iconst 3, 1) := by decide +kernel
theorem d_Hall_image_91 : decode M_Hall_image.2.1 91 = .ok (.invokestatic 405, 3) := by decide +kernel
theorem d_Hall_image_94 : decode M_Hall_image.2.1 94 = .ok (.return_, 1) := by decide +kernel
theorem d_Hall_restore_0 : decode M_Hall_restore.2.1 0 = .ok (.aload_n 0, 1) := by decide +kernel
theorem d_Hall_restore_1 : decode M_Hall_restore.2.1 1 = .ok (.getfield 63, 3) := by decide +kernel
theorem d_Hall_restore_4 : decode M_Hall_restore.2.1 4 = .ok (.getfield 137, 3) := by decide +kernel
theorem d_Hall_restore_7 : decode M_Hall_restore.2.1 7 = .ok (.ifCond .ne 5, 3) := by decide +kernel
theorem d_Hall_restore_10 : decode M_Hall_restore.2.1 10 = .ok (.iconst 0, 1) := by decide +kernel
theorem d_Hall_restore_11 : decode M_Hall_restore.2.1 11 = .ok (.ireturn, 1) := by decide +kernel
theorem d_Hall_restore_12 : decode M_Hall_restore.2.1 12 = .ok (.aload_n 0, 1) := by decide +kernel
theorem d_Hall_restore_13 : decode M_Hall_restore.2.1 13 = .ok (.getfield 42, 3) := by decide +kernel
theorem d_Hall_restore_16 : decode M_Hall_restore.2.1 16 = .ok (.aload_n 0, 1) := by decide +kernel
theorem d_Hall_restore_17 : decode M_Hall_restore.2.1 17 = .ok (.getfield 63, 3) := by decide +kernel
theorem d_Hall_restore_20 : decode M_Hall_restore.2.1 20 = .ok (.getfield 400, 3) := by decide +kernel
theorem d_Hall_restore_23 : decode M_Hall_restore.2.1 23 = .ok (.invokevirtual 131, 3) := by decide +kernel
theorem d_Hall_restore_26 : decode M_Hall_restore.2.1 26 = .ok (.aload_n 0, 1) := by decide +kernel
theorem d_Hall_restore_27 : decode M_Hall_restore.2.1 27 = .ok (.getfield 63, 3) := by decide +kernel
theorem d_Hall_restore_30 : decode M_Hall_restore.2.1 30 = .ok (.getfield 404, 3) := by decide +kernel
theorem d_Hall_restore_33 : decode M_Hall_restore.2.1 33 = .ok (.iconst 0, 1) := by decide +kernel
theorem d_Hall_restore_34 : decode M_Hall_restore.2.1 34 = .ok (.aload_n 0, 1) := by decide +kernel
theorem d_Hall_restore_35 : decode M_Hall_restore.2.1 35 = .ok (.getfield 33, 3) := by decide +kernel
theorem d_Hall_restore_38 : decode M_Hall_restore.2.1 38 = .ok (.getfield 401, 3) := by decide +kernel
theorem d_Hall_restore_41 : decode M_Hall_restore.2.1 41 = .ok (.iconst 0, 1) := by decide +kernel
theorem d_Hall_restore_42 : decode M_Hall_restore.2.1 42 = .ok (.aload_n 0, 1) := by decide +kernel
theorem d_Hall_restore_43 : decode M_Hall_restore.2.1 43 = .ok (.getfield 33, 3) := by decide +kernel
theorem d_Hall_restore_46 : decode M_Hall_restore.2.1 46 = .ok (.getfield 401, 3) := by decide +kernel
theorem d_Hall_restore_49 : decode M_Hall_restore.2.1 49 = .ok (.arraylength, 1) := by decide +kernel
theorem d_Hall_restore_50 : decode M_Hall_restore.2.1 50 = .ok (.invokestatic 405, 3) := by decide +kernel
theorem d_Hall_restore_53 : decode M_Hall_restore.2.1 53 = .ok (.aload_n 0, 1) := by decide +kernel
theorem d_Hall_restore_54 : decode M_Hall_restore.2.1 54 = .ok (.getfield 49, 3) := by decide +kernel
theorem d_Hall_restore_57 : decode M_Hall_restore.2.1 57 = .ok (.aload_n 0, 1) := by decide +kernel
theorem d_Hall_restore_58 : decode M_Hall_restore.2.1 58 = .ok (.getfield 63, 3) := by decide +kernel
theorem d_Hall_restore_61 : decode M_Hall_restore.2.1 61 = .ok (.getfield 411, 3) := by decide +kernel
theorem d_Hall_restore_64 : decode M_Hall_restore.2.1 64 = .ok (.invokevirtual 412, 3) := by decide +kernel
theorem d_Hall_restore_67 : decode M_Hall_restore.2.1 67 = .ok (.aload_n 0, 1) := by decide +kernel
theorem d_Hall_restore_68 : decode M_Hall_restore.2.1 68 = .ok (.getfield 56, 3) := by decide +kernel
theorem d_Hall_restore_71 : decode M_Hall_restore.2.1 71 = .ok (.aload_n 0, 1) := by decide +kernel
theorem d_Hall_restore_72 : decode M_Hall_restore.2.1 72 = .ok (.getfield 63, 3) := by decide +kernel
theorem d_Hall_restore_75 : decode M_Hall_restore.2.1 75 = .ok (.getfield 415, 3) := by decide +kernel
theorem d_Hall_restore_78 : decode M_Hall_restore.2.1 78 = .ok (.invokevirtual 416, 3) := by decide +kernel
theorem d_Hall_restore_81 : decode M_Hall_restore.2.1 81 = .ok (.aload_n 0, 1) := by decide +kernel
theorem d_Hall_restore_82 : decode M_Hall_restore.2.1 82 = .ok (.getfield 63, 3) := by decide +kernel
theorem d_Hall_restore_85 : decode M_Hall_restore.2.1 85 = .ok (.getfield 419, 3) := by decide +kernel
theorem d_Hall_restore_88 : decode M_Hall_restore.2.1 88 = .ok (.iconst 0, 1) := by decide +kernel
theorem d_Hall_restore_89 : decode M_Hall_restore.2.1 89 = .ok (.aload_n 0, 1) := by decide +kernel
theorem d_Hall_restore_90 : decode M_Hall_restore.2.1 90 = .ok (.getfield 17, 3) := by decide +kernel
theorem d_Hall_restore_93 : decode M_Hall_restore.2.1 93 = .ok (.iconst 0, 1) := by decide +kernel
theorem d_Hall_restore_94 : decode M_Hall_restore.2.1 94 = .ok (.iconst 3, 1) := by decide +kernel
theorem d_Hall_restore_95 : decode M_Hall_restore.2.1 95 = .ok (.invokestatic 405, 3) := by decide +kernel
theorem d_Hall_restore_98 : decode M_Hall_restore.2.1 98 = .ok (.iconst 1, 1) := by decide +kernel
theorem d_Hall_restore_99 : decode M_Hall_restore.2.1 99 = .ok (.ireturn, 1) := by decide +kernel

/-! decode rows of 26.model1 (by program) -/
theorem d_Model_areRivals_0 : decode M_Model_areRivals.2.1 0 = .ok (.iconst 0, 1) := by decide +kernel
theorem d_Model_areRivals_1 : decode M_Model_areRivals.2.1 1 = .ok (.istore_n 3, 1) := by decide +kernel
theorem d_Model_areRivals_2 : decode M_Model_areRivals.2.1 2 = .ok (.iload_n 3, 1) := by decide +kernel
theorem d_Model_areRivals_3 : decode M_Model_areRivals.2.1 3 = .ok (.aload_n 0, 1) := by decide +kernel
theorem d_Model_areRivals_4 : decode M_Model_areRivals.2.1 4 = .ok (.getfield 121, 3) := by decide +kernel
theorem d_Model_areRivals_7 : decode M_Model_areRivals.2.1 7 = .ok (.if_icmp .ge 116, 3) := by decide +kernel
theorem d_Model_areRivals_10 : decode M_Model_areRivals.2.1 10 = .ok (.aload_n 0, 1) := by decide +kernel
theorem d_Model_areRivals_11 : decode M_Model_areRivals.2.1 11 = .ok (.iload_n 3, 1) := by decide +kernel
theorem d_Model_areRivals_12 : decode M_Model_areRivals.2.1 12 = .ok (.iconst 0, 1) := by decide +kernel
theorem d_Model_areRivals_13 : decode M_Model_areRivals.2.1 13 = .ok (.aload_n 0, 1) := by decide +kernel
theorem d_Model_areRivals_14 : decode M_Model_areRivals.2.1 14 = .ok (.iload_n 3, 1) := by decide +kernel
theorem d_Model_areRivals_15 : decode M_Model_areRivals.2.1 15 = .ok (.iconst 3, 1) := by decide +kernel
theorem d_Model_areRivals_16 : decode M_Model_areRivals.2.1 16 = .ok (.invokevirtual 305, 3) := by decide +kernel
theorem d_Model_areRivals_19 : decode M_Model_areRivals.2.1 19 = .ok (.invokevirtual 396, 3) := by decide +kernel
theorem d_Model_areRivals_22 : decode M_Model_areRivals.2.1 22 = .ok (.ifCond .eq 95, 3) := by decide +kernel
theorem d_Model_areRivals_25 : decode M_Model_areRivals.2.1 25 = .ok (.aload_n 0, 1) := by decide +kernel
theorem d_Model_areRivals_26 : decode M_Model_areRivals.2.1 26 = .ok (.iload_n 3, 1) := by decide +kernel
theorem d_Model_areRivals_27 : decode M_Model_areRivals.2.1 27 = .ok (.iconst 1, 1) := by decide +kernel
theorem d_Model_areRivals_28 : decode M_Model_areRivals.2.1 28 = .ok (.invokevirtual 305, 3) := by decide +kernel
theorem d_Model_areRivals_31 : decode M_Model_areRivals.2.1 31 = .ok (.iload_n 1, 1) := by decide +kernel
theorem d_Model_areRivals_32 : decode M_Model_areRivals.2.1 32 = .ok (.if_icmp .eq 6, 3) := by decide +kernel
theorem d_Model_areRivals_35 : decode M_Model_areRivals.2.1 35 = .ok (.goto 82, 3) := by decide +kernel
theorem d_Model_areRivals_38 : decode M_Model_areRivals.2.1 38 = .ok (.iconst 0, 1) := by decide +kernel
theorem d_Model_areRivals_39 : decode M_Model_areRivals.2.1 39 = .ok (.istore 4, 2) := by decide +kernel
theorem d_Model_areRivals_41 : decode M_Model_areRivals.2.1 41 = .ok (.iload 4, 2) := by decide +kernel
theorem d_Model_areRivals_43 : decode M_Model_areRivals.2.1 43 = .ok (.aload_n 0, 1) := by decide +kernel
theorem d_Model_areRivals_44 : decode M_Model_areRivals.2.1 44 = .ok (.getfield 121, 3) := by decide +kernel
theorem d_Model_areRivals_47 : decode M_Model_areRivals.2.1 47 = .ok (.if_icmp .ge 70, 3) := by decide +kernel
theorem d_Model_areRivals_50 : decode M_Model_areRivals.2.1 50 = .ok (.aload_n 0, 1) := by decide +kernel
theorem d_Model_areRivals_51 : decode M_Model_areRivals.2.1 51 = .ok (.iload 4, 2) := by decide +kernel
theorem d_Model_areRivals_53 : decode M_Model_areRivals.2.1 53 = .ok (.iconst 0, 1) := by decide +kernel
theorem d_Model_areRivals_54 : decode M_Model_areRivals.2.1 54 = .ok (.aload_n 0, 1) := by decide +kernel
theorem d_Model_areRivals_55 : decode M_Model_areRivals.2.1 55 = .ok (.iload_n 3, 1) := by decide +kernel
theorem d_Model_areRivals_56 : decode M_Model_areRivals.2.1 56 = .ok (.iconst 3, 1) := by decide +kernel
theorem d_Model_areRivals_57 : decode M_Model_areRivals.2.1 57 = .ok (.invokevirtual 305, 3) := by decide +kernel
theorem d_Model_areRivals_60 : decode M_Model_areRivals.2.1 60 = .ok (.invokevirtual 396, 3) := by decide +kernel
theorem d_Model_areRivals_63 : decode M_Model_areRivals.2.1 63 = .ok (.ifCond .eq 48, 3) := by decide +kernel
theorem d_Model_areRivals_66 : decode M_Model_areRivals.2.1 66 = .ok (.aload_n 0, 1) := by decide +kernel
theorem d_Model_areRivals_67 : decode M_Model_areRivals.2.1 67 = .ok (.iload 4, 2) := by decide +kernel
theorem d_Model_areRivals_69 : decode M_Model_areRivals.2.1 69 = .ok (.iconst 1, 1) := by decide +kernel
theorem d_Model_areRivals_70 : decode M_Model_areRivals.2.1 70 = .ok (.invokevirtual 305, 3) := by decide +kernel
theorem d_Model_areRivals_73 : decode M_Model_areRivals.2.1 73 = .ok (.iload_n 2, 1) := by decide +kernel
theorem d_Model_areRivals_74 : decode M_Model_areRivals.2.1 74 = .ok (.if_icmp .ne 37, 3) := by decide +kernel
theorem d_Model_areRivals_77 : decode M_Model_areRivals.2.1 77 = .ok (.aload_n 0, 1) := by decide +kernel
theorem d_Model_areRivals_78 : decode M_Model_areRivals.2.1 78 = .ok (.iload 4, 2) := by decide +kernel
theorem d_Model_areRivals_80 : decode M_Model_areRivals.2.1 80 = .ok (.iconst 2, 1) := by decide +kernel
theorem d_Model_areRivals_81 : decode M_Model_areRivals.2.1 81 = .ok (.invokevirtual 305, 3) := by decide +kernel
theorem d_Model_areRivals_84 : decode M_Model_areRivals.2.1 84 = .ok (.aload_n 0, 1) := by decide +kernel
theorem d_Model_areRivals_85 : decode M_Model_areRivals.2.1 85 = .ok (.iload_n 3, 1) := by decide +kernel
theorem d_Model_areRivals_86 : decode M_Model_areRivals.2.1 86 = .ok (.iconst 2, 1) := by decide +kernel
theorem d_Model_areRivals_87 : decode M_Model_areRivals.2.1 87 = .ok (.invokevirtual 305, 3) := by decide +kernel
theorem d_Model_areRivals_90 : decode M_Model_areRivals.2.1 90 = .ok (.if_icmp .ne 21, 3) := by decide +kernel
theorem d_Model_areRivals_93 : decode M_Model_areRivals.2.1 93 = .ok (.aload_n 0, 1) := by decide +kernel
theorem d_Model_areRivals_94 : decode M_Model_areRivals.2.1 94 = .ok (.iload 4, 2) := by decide +kernel
theorem d_Model_areRivals_96 : decode M_Model_areRivals.2.1 96 = .ok (.iconst 4, 1) := by decide +kernel
theorem d_Model_areRivals_97 : decode M_Model_areRivals.2.1 97 = .ok (.invokevirtual 305, 3) := by decide +kernel
theorem d_Model_areRivals_100 : decode M_Model_areRivals.2.1 100 = .ok (.aload_n 0, 1) := by decide +kernel
theorem d_Model_areRivals_101 : decode M_Model_areRivals.2.1 101 = .ok (.iload_n 3, 1) := by decide +kernel
theorem d_Model_areRivals_102 : decode M_Model_areRivals.2.1 102 = .ok (.iconst 4, 1) := by decide +kernel
theorem d_Model_areRivals_103 : decode M_Model_areRivals.2.1 103 = .ok (.invokevirtual 305, 3) := by decide +kernel
theorem d_Model_areRivals_106 : decode M_Model_areRivals.2.1 106 = .ok (.if_icmp .eq 5, 3) := by decide +kernel
theorem d_Model_areRivals_109 : decode M_Model_areRivals.2.1 109 = .ok (.iconst 1, 1) := by decide +kernel
theorem d_Model_areRivals_110 : decode M_Model_areRivals.2.1 110 = .ok (.ireturn, 1) := by decide +kernel
theorem d_Model_areRivals_111 : decode M_Model_areRivals.2.1 111 = .ok (.iinc 4 1, 3) := by decide +kernel
theorem d_Model_areRivals_114 : decode M_Model_areRivals.2.1 114 = .ok (.goto (-73), 3) := by decide +kernel
theorem d_Model_areRivals_117 : decode M_Model_areRivals.2.1 117 = .ok (.iinc 3 1, 3) := by decide +kernel
theorem d_Model_areRivals_120 : decode M_Model_areRivals.2.1 120 = .ok (.goto (-118), 3) := by decide +kernel
theorem d_Model_areRivals_123 : decode M_Model_areRivals.2.1 123 = .ok (.iconst 0, 1) := by decide +kernel
theorem d_Model_areRivals_124 : decode M_Model_areRivals.2.1 124 = .ok (.ireturn, 1) := by decide +kernel
theorem d_Model_rivals_0 : decode M_Model_rivals.2.1 0 = .ok (.aload_n 0, 1) := by decide +kernel
theorem d_Model_rivals_1 : decode M_Model_rivals.2.1 1 = .ok (.iconst 0, 1) := by decide +kernel
theorem d_Model_rivals_2 : decode M_Model_rivals.2.1 2 = .ok (.putfield 114, 3) := by decide +kernel
theorem d_Model_rivals_5 : decode M_Model_rivals.2.1 5 = .ok (.iconst 0, 1) := by decide +kernel
theorem d_Model_rivals_6 : decode M_Model_rivals.2.1 6 = .ok (.istore_n 1, 1) := by decide +kernel
theorem d_Model_rivals_7 : decode M_Model_rivals.2.1 7 = .ok (.iconst 0, 1) := by decide +kernel
theorem d_Model_rivals_8 : decode M_Model_rivals.2.1 8 = .ok (.istore_n 2, 1) := by decide +kernel
theorem d_Model_rivals_9 : decode M_Model_rivals.2.1 9 = .ok (.iload_n 2, 1) := by decide +kernel
theorem d_Model_rivals_10 : decode M_Model_rivals.2.1 10 = .ok (.aload_n 0, 1) := by decide +kernel
theorem d_Model_rivals_11 : decode M_Model_rivals.2.1 11 = .ok (.getfield 51, 3) := by decide +kernel
theorem d_Model_rivals_14 : decode M_Model_rivals.2.1 14 = .ok (.iconst 0, 1) := by decide +kernel
theorem d_Model_rivals_15 : decode M_Model_rivals.2.1 15 = .ok (.iaload, 1) := by decide +kernel
theorem d_Model_rivals_16 : decode M_Model_rivals.2.1 16 = .ok (.if_icmp .ge 46, 3) := by decide +kernel
theorem d_Model_rivals_19 : decode M_Model_rivals.2.1 19 = .ok (.iload_n 2, 1) := by decide +kernel
theorem d_Model_rivals_20 : decode M_Model_rivals.2.1 20 = .ok (.iconst 1, 1) := by decide +kernel
theorem d_Model_rivals_21 : decode M_Model_rivals.2.1 21 = .ok (.iadd, 1) := by decide +kernel
theorem d_Model_rivals_22 : decode M_Model_rivals.2.1 22 = .ok (.istore_n 3, 1) := by decide +kernel
theorem d_Model_rivals_23 : decode M_Model_rivals.2.1 23 = .ok (.iload_n 3, 1) := by decide +kernel
theorem d_Model_rivals_24 : decode M_Model_rivals.2.1 24 = .ok (.aload_n 0, 1) := by decide +kernel
theorem d_Model_rivals_25 : decode M_Model_rivals.2.1 25 = .ok (.getfield 51, 3) := by decide +kernel
theorem d_Model_rivals_28 : decode M_Model_rivals.2.1 28 = .ok (.iconst 0, 1) := by decide +kernel
theorem d_Model_rivals_29 : decode M_Model_rivals.2.1 29 = .ok (.iaload, 1) := by decide +kernel
theorem d_Model_rivals_30 : decode M_Model_rivals.2.1 30 = .ok (.if_icmp .ge 26, 3) := by decide +kernel
theorem d_Model_rivals_33 : decode M_Model_rivals.2.1 33 = .ok (.iload_n 1, 1) := by decide +kernel
theorem d_Model_rivals_34 : decode M_Model_rivals.2.1 34 = .ok (.aload_n 0, 1) := by decide +kernel
theorem d_Model_rivals_35 : decode M_Model_rivals.2.1 35 = .ok (.iload_n 2, 1) := by decide +kernel
theorem d_Model_rivals_36 : decode M_Model_rivals.2.1 36 = .ok (.iload_n 3, 1) := by decide +kernel
theorem d_Model_rivals_37 : decode M_Model_rivals.2.1 37 = .ok (.invokevirtual 400, 3) := by decide +kernel
theorem d_Model_rivals_40 : decode M_Model_rivals.2.1 40 = .ok (.ifCond .eq 7, 3) := by decide +kernel
theorem d_Model_rivals_43 : decode M_Model_rivals.2.1 43 = .ok (.iconst 1, 1) := by decide +kernel
theorem d_Model_rivals_44 : decode M_Model_rivals.2.1 44 = .ok (.goto 4, 3) := by decide +kernel
theorem d_Model_rivals_47 : decode M_Model_rivals.2.1 47 = .ok (.iconst 0, 1) := by decide +kernel
theorem d_Model_rivals_48 : decode M_Model_rivals.2.1 48 = .ok (.iadd, 1) := by decide +kernel
theorem d_Model_rivals_49 : decode M_Model_rivals.2.1 49 = .ok (.istore_n 1, 1) := by decide +kernel
theorem d_Model_rivals_50 : decode M_Model_rivals.2.1 50 = .ok (.iinc 3 1, 3) := by decide +kernel
theorem d_Model_rivals_53 : decode M_Model_rivals.2.1 53 = .ok (.goto (-30), 3) := by decide +kernel
theorem d_Model_rivals_56 : decode M_Model_rivals.2.1 56 = .ok (.iinc 2 1, 3) := by decide +kernel
theorem d_Model_rivals_59 : decode M_Model_rivals.2.1 59 = .ok (.goto (-50), 3) := by decide +kernel
theorem d_Model_rivals_62 : decode M_Model_rivals.2.1 62 = .ok (.iload_n 1, 1) := by decide +kernel
theorem d_Model_rivals_63 : decode M_Model_rivals.2.1 63 = .ok (.ireturn, 1) := by decide +kernel
theorem d_Model_owedNow_0 : decode M_Model_owedNow.2.1 0 = .ok (.iconst 0, 1) := by decide +kernel
theorem d_Model_owedNow_1 : decode M_Model_owedNow.2.1 1 = .ok (.istore_n 2, 1) := by decide +kernel
theorem d_Model_owedNow_2 : decode M_Model_owedNow.2.1 2 = .ok (.iconst 0, 1) := by decide +kernel
theorem d_Model_owedNow_3 : decode M_Model_owedNow.2.1 3 = .ok (.istore_n 3, 1) := by decide +kernel
theorem d_Model_owedNow_4 : decode M_Model_owedNow.2.1 4 = .ok (.iconst 0, 1) := by decide +kernel
theorem d_Model_owedNow_5 : decode M_Model_owedNow.2.1 5 = .ok (.istore 4, 2) := by decide +kernel
theorem d_Model_owedNow_7 : decode M_Model_owedNow.2.1 7 = .ok (.iload 4, 2) := by decide +kernel
theorem d_Model_owedNow_9 : decode M_Model_owedNow.2.1 9 = .ok (.aload_n 0, 1) := by decide +kernel
theorem d_Model_owedNow_10 : decode M_Model_owedNow.2.1 10 = .ok (.getfield 121, 3) := by decide +kernel
theorem d_Model_owedNow_13 : decode M_Model_owedNow.2.1 13 = .ok (.if_icmp .ge 112, 3) := by decide +kernel
theorem d_Model_owedNow_16 : decode M_Model_owedNow.2.1 16 = .ok (.aload_n 0, 1) := by decide +kernel
theorem d_Model_owedNow_17 : decode M_Model_owedNow.2.1 17 = .ok (.iload 4, 2) := by decide +kernel
theorem d_Model_owedNow_19 : decode M_Model_owedNow.2.1 19 = .ok (.invokevirtual 315, 3) := by decide +kernel
theorem d_Model_owedNow_22 : decode M_Model_owedNow.2.1 22 = .ok (.ifCond .eq 97, 3) := by decide +kernel
theorem d_Model_owedNow_25 : decode M_Model_owedNow.2.1 25 = .ok (.iload_n 2, 1) := by decide +kernel
theorem d_Model_owedNow_26 : decode M_Model_owedNow.2.1 26 = .ok (.aload_n 0, 1) := by decide +kernel
theorem d_Model_owedNow_27 : decode M_Model_owedNow.2.1 27 = .ok (.iload 4, 2) := by decide +kernel
theorem d_Model_owedNow_29 : decode M_Model_owedNow.2.1 29 = .ok (.bipush 7, 2) := by decide +kernel
theorem d_Model_owedNow_31 : decode M_Model_owedNow.2.1 31 = .ok (.invokevirtual 305, 3) := by decide +kernel
theorem d_Model_owedNow_34 : decode M_Model_owedNow.2.1 34 = .ok (.invokestatic 308, 3) := by decide +kernel
theorem d_Model_owedNow_37 : decode M_Model_owedNow.2.1 37 = .ok (.ifCond .ne 82, 3) := by decide +kernel
theorem d_Model_owedNow_40 : decode M_Model_owedNow.2.1 40 = .ok (.iload_n 1, 1) := by decide +kernel
theorem d_Model_owedNow_41 : decode M_Model_owedNow.2.1 41 = .ok (.iconst (-1), 1) := by decide +kernel
theorem d_Model_owedNow_42 : decode M_Model_owedNow.2.1 42 = .ok (.if_icmp .eq 17, 3) := by decide +kernel
theorem d_Model_owedNow_45 : decode M_Model_owedNow.2.1 45 = .ok (.aload_n 0, 1) := by decide +kernel
theorem d_Model_owedNow_46 : decode M_Model_owedNow.2.1 46 = .ok (.iload 4, 2) := by decide +kernel
theorem d_Model_owedNow_48 : decode M_Model_owedNow.2.1 48 = .ok (.iconst 3, 1) := by decide +kernel
theorem d_Model_owedNow_49 : decode M_Model_owedNow.2.1 49 = .ok (.invokevirtual 305, 3) := by decide +kernel
theorem d_Model_owedNow_52 : decode M_Model_owedNow.2.1 52 = .ok (.iload_n 1, 1) := by decide +kernel
theorem d_Model_owedNow_53 : decode M_Model_owedNow.2.1 53 = .ok (.if_icmp .eq 6, 3) := by decide +kernel
theorem d_Model_owedNow_56 : decode M_Model_owedNow.2.1 56 = .ok (.goto 63, 3) := by decide +kernel
theorem d_Model_owedNow_59 : decode M_Model_owedNow.2.1 59 = .ok (.iload_n 2, 1) := by decide +kernel
theorem d_Model_owedNow_60 : decode M_Model_owedNow.2.1 60 = .ok (.iconst 1, 1) := by decide +kernel
theorem d_Model_owedNow_61 : decode M_Model_owedNow.2.1 61 = .ok (.aload_n 0, 1) := by decide +kernel
theorem d_Model_owedNow_62 : decode M_Model_owedNow.2.1 62 = .ok (.iload 4, 2) := by decide +kernel
theorem d_Model_owedNow_64 : decode M_Model_owedNow.2.1 64 = .ok (.bipush 7, 2) := by decide +kernel
theorem d_Model_owedNow_66 : decode M_Model_owedNow.2.1 66 = .ok (.invokevirtual 305, 3) := by decide +kernel
theorem d_Model_owedNow_69 : decode M_Model_owedNow.2.1 69 = .ok (.ishl, 1) := by decide +kernel
theorem d_Model_owedNow_70 : decode M_Model_owedNow.2.1 70 = .ok (.ior, 1) := by decide +kernel
theorem d_Model_owedNow_71 : decode M_Model_owedNow.2.1 71 = .ok (.istore_n 2, 1) := by decide +kernel
theorem d_Model_owedNow_72 : decode M_Model_owedNow.2.1 72 = .ok (.iload_n 3, 1) := by decide +kernel
theorem d_Model_owedNow_73 : decode M_Model_owedNow.2.1 73 = .ok (.aload_n 0, 1) := by decide +kernel
theorem d_Model_owedNow_74 : decode M_Model_owedNow.2.1 74 = .ok (.iload 4, 2) := by decide +kernel
theorem d_Model_owedNow_76 : decode M_Model_owedNow.2.1 76 = .ok (.iconst 0, 1) := by decide +kernel
theorem d_Model_owedNow_77 : decode M_Model_owedNow.2.1 77 = .ok (.invokevirtual 305, 3) := by decide +kernel
theorem d_Model_owedNow_80 : decode M_Model_owedNow.2.1 80 = .ok (.iconst 1, 1) := by decide +kernel
theorem d_Model_owedNow_81 : decode M_Model_owedNow.2.1 81 = .ok (.if_icmp .ne 13, 3) := by decide +kernel
theorem d_Model_owedNow_84 : decode M_Model_owedNow.2.1 84 = .ok (.aload_n 0, 1) := by decide +kernel
theorem d_Model_owedNow_85 : decode M_Model_owedNow.2.1 85 = .ok (.iload 4, 2) := by decide +kernel
theorem d_Model_owedNow_87 : decode M_Model_owedNow.2.1 87 = .ok (.iconst 4, 1) := by decide +kernel
theorem d_Model_owedNow_88 : decode M_Model_owedNow.2.1 88 = .ok (.invokevirtual 305, 3) := by decide +kernel
theorem d_Model_owedNow_91 : decode M_Model_owedNow.2.1 91 = .ok (.goto 26, 3) := by decide +kernel
theorem d_Model_owedNow_94 : decode M_Model_owedNow.2.1 94 = .ok (.aload_n 0, 1) := by decide +kernel
theorem d_Model_owedNow_95 : decode M_Model_owedNow.2.1 95 = .ok (.iload 4, 2) := by decide +kernel
theorem d_Model_owedNow_97 : decode M_Model_owedNow.2.1 97 = .ok (.iconst 0, 1) := by decide +kernel
theorem d_Model_owedNow_98 : decode M_Model_owedNow.2.1 98 = .ok (.invokevirtual 305, 3) := by decide +kernel
theorem d_Model_owedNow_101 : decode M_Model_owedNow.2.1 101 = .ok (.iconst 2, 1) := by decide +kernel
theorem d_Model_owedNow_102 : decode M_Model_owedNow.2.1 102 = .ok (.if_icmp .ne 14, 3) := by decide +kernel
theorem d_Model_owedNow_105 : decode M_Model_owedNow.2.1 105 = .ok (.aload_n 0, 1) := by decide +kernel
theorem d_Model_owedNow_106 : decode M_Model_owedNow.2.1 106 = .ok (.iload 4, 2) := by decide +kernel
theorem d_Model_owedNow_108 : decode M_Model_owedNow.2.1 108 = .ok (.iconst 4, 1) := by decide +kernel
theorem d_Model_owedNow_109 : decode M_Model_owedNow.2.1 109 = .ok (.invokevirtual 305, 3) := by decide +kernel
theorem d_Model_owedNow_112 : decode M_Model_owedNow.2.1 112 = .ok (.ineg, 1) := by decide +kernel
theorem d_Model_owedNow_113 : decode M_Model_owedNow.2.1 113 = .ok (.goto 4, 3) := by decide +kernel
theorem d_Model_owedNow_116 : decode M_Model_owedNow.2.1 116 = .ok (.iconst 0, 1) := by decide +kernel
theorem d_Model_owedNow_117 : decode M_Model_owedNow.2.1 117 = .ok (.iadd, 1) := by decide +kernel
theorem d_Model_owedNow_118 : decode M_Model_owedNow.2.1 118 = .ok (.istore_n 3, 1) := by decide +kernel
theorem d_Model_owedNow_119 : decode M_Model_owedNow.2.1 119 = .ok (.iinc 4 1, 3) := by decide +kernel
theorem d_Model_owedNow_122 : decode M_Model_owedNow.2.1 122 = .ok (.goto (-115), 3) := by decide +kernel
theorem d_Model_owedNow_125 : decode M_Model_owedNow.2.1 125 = .ok (.iload_n 3, 1) := by decide +kernel
theorem d_Model_owedNow_126 : decode M_Model_owedNow.2.1 126 = .ok (.ireturn, 1) := by decide +kernel
theorem d_Model_owed_0 : decode M_Model_owed.2.1 0 = .ok (.aload_n 0, 1) := by decide +kernel
theorem d_Model_owed_1 : decode M_Model_owed.2.1 1 = .ok (.iconst 0, 1) := by decide +kernel
theorem d_Model_owed_2 : decode M_Model_owed.2.1 2 = .ok (.putfield 114, 3) := by decide +kernel
theorem d_Model_owed_5 : decode M_Model_owed.2.1 5 = .ok (.iload_n 1, 1) := by decide +kernel
theorem d_Model_owed_6 : decode M_Model_owed.2.1 6 = .ok (.invokestatic 376, 3) := by decide +kernel
theorem d_Model_owed_9 : decode M_Model_owed.2.1 9 = .ok (.ifCond .eq 11, 3) := by decide +kernel
theorem d_Model_owed_12 : decode M_Model_owed.2.1 12 = .ok (.aload_n 0, 1) := by decide +kernel
theorem d_Model_owed_13 : decode M_Model_owed.2.1 13 = .ok (.iload_n 1, 1) := by decide +kernel
theorem d_Model_owed_14 : decode M_Model_owed.2.1 14 = .ok (.invokevirtual 403, 3) := by decide +kernel
theorem d_Model_owed_17 : decode M_Model_owed.2.1 17 = .ok (.goto 8, 3) := by decide +kernel
theorem d_Model_owed_20 : decode M_Model_owed.2.1 20 = .ok (.aload_n 0, 1) := by decide +kernel
theorem d_Model_owed_21 : decode M_Model_owed.2.1 21 = .ok (.iconst 1, 1) := by decide +kernel
theorem d_Model_owed_22 : decode M_Model_owed.2.1 22 = .ok (.invokevirtual 273, 3) := by decide +kernel
theorem d_Model_owed_25 : decode M_Model_owed.2.1 25 = .ok (.ireturn, 1) := by decide +kernel
theorem d_Model_cover_0 : decode M_Model_cover.2.1 0 = .ok (.aload_n 0, 1) := by decide +kernel
theorem d_Model_cover_1 : decode M_Model_cover.2.1 1 = .ok (.iconst 0, 1) := by decide +kernel
theorem d_Model_cover_2 : decode M_Model_cover.2.1 2 = .ok (.putfield 114, 3) := by decide +kernel
theorem d_Model_cover_5 : decode M_Model_cover.2.1 5 = .ok (.iconst (-1), 1) := by decide +kernel
theorem d_Model_cover_6 : decode M_Model_cover.2.1 6 = .ok (.istore_n 1, 1) := by decide +kernel
theorem d_Model_cover_7 : decode M_Model_cover.2.1 7 = .ok (.aload_n 0, 1) := by decide +kernel
theorem d_Model_cover_8 : decode M_Model_cover.2.1 8 = .ok (.invokevirtual 329, 3) := by decide +kernel
theorem d_Model_cover_11 : decode M_Model_cover.2.1 11 = .ok (.istore_n 2, 1) := by decide +kernel
theorem d_Model_cover_12 : decode M_Model_cover.2.1 12 = .ok (.iconst 0, 1) := by decide +kernel
theorem d_Model_cover_13 : decode M_Model_cover.2.1 13 = .ok (.istore_n 3, 1) := by decide +kernel
theorem d_Model_cover_14 : decode M_Model_cover.2.1 14 = .ok (.iload_n 3, 1) := by decide +kernel
theorem d_Model_cover_15 : decode M_Model_cover.2.1 15 = .ok (.iconst 1, 1) := by decide +kernel
theorem d_Model_cover_16 : decode M_Model_cover.2.1 16 = .ok (.aload_n 0, 1) := by decide +kernel
theorem d_Model_cover_17 : decode M_Model_cover.2.1 17 = .ok (.getfield 51, 3) := by decide +kernel
theorem d_Model_cover_20 : decode M_Model_cover.2.1 20 = .ok (.iconst 0, 1) := by decide +kernel
theorem d_Model_cover_21 : decode M_Model_cover.2.1 21 = .ok (.iaload, 1) := by decide +kernel
theorem d_Model_cover_22 : decode M_Model_cover.2.1 22 = .ok (.ishl, 1) := by decide +kernel
theorem d_Model_cover_23 : decode M_Model_cover.2.1 23 = .ok (.if_icmp .ge 89, 3) := by decide +kernel
theorem d_Model_cover_26 : decode M_Model_cover.2.1 26 = .ok (.iload_n 1, 1) := by decide +kernel
theorem d_Model_cover_27 : decode M_Model_cover.2.1 27 = .ok (.iconst (-1), 1) := by decide +kernel
theorem d_Model_cover_28 : decode M_Model_cover.2.1 28 = .ok (.if_icmp .eq 14, 3) := by decide +kernel
theorem d_Model_cover_31 : decode M_Model_cover.2.1 31 = .ok (.iload_n 3, 1) := by decide +kernel
theorem d_Model_cover_32 : decode M_Model_cover.2.1 32 = .ok (.invokestatic 332, 3) := by decide +kernel
theorem d_Model_cover_35 : decode M_Model_cover.2.1 35 = .ok (.iload_n 1, 1) := by decide +kernel
theorem d_Model_cover_36 : decode M_Model_cover.2.1 36 = .ok (.invokestatic 332, 3) := by decide +kernel
theorem d_Model_cover_39 : decode M_Model_cover.2.1 39 = .ok (.if_icmp .ge 7, 3) := by decide +kernel
theorem d_Model_cover_42 : decode M_Model_cover.2.1 42 = .ok (.iconst 1, 1) := by decide +kernel
theorem d_Model_cover_43 : decode M_Model_cover.2.1 43 = .ok (.goto 4, 3) := by decide +kernel
theorem d_Model_cover_46 : decode M_Model_cover.2.1 46 = .ok (.iconst 0, 1) := by decide +kernel
theorem d_Model_cover_47 : decode M_Model_cover.2.1 47 = .ok (.istore 4, 2) := by decide +kernel
theorem d_Model_cover_49 : decode M_Model_cover.2.1 49 = .ok (.iconst 0, 1) := by decide +kernel
theorem d_Model_cover_50 : decode M_Model_cover.2.1 50 = .ok (.istore 5, 2) := by decide +kernel
theorem d_Model_cover_52 : decode M_Model_cover.2.1 52 = .ok (.iload 5, 2) := by decide +kernel
theorem d_Model_cover_54 : decode M_Model_cover.2.1 54 = .ok (.aload_n 0, 1) := by decide +kernel
theorem d_Model_cover_55 : decode M_Model_cover.2.1 55 = .ok (.getfield 121, 3) := by decide +kernel
theorem d_Model_cover_58 : decode M_Model_cover.2.1 58 = .ok (.if_icmp .ge 41, 3) := by decide +kernel
theorem d_Model_cover_61 : decode M_Model_cover.2.1 61 = .ok (.iload 4, 2) := by decide +kernel
theorem d_Model_cover_63 : decode M_Model_cover.2.1 63 = .ok (.ifCond .eq 36, 3) := by decide +kernel
theorem d_Model_cover_66 : decode M_Model_cover.2.1 66 = .ok (.iload_n 2, 1) := by decide +kernel
theorem d_Model_cover_67 : decode M_Model_cover.2.1 67 = .ok (.iload 5, 2) := by decide +kernel
theorem d_Model_cover_69 : decode M_Model_cover.2.1 69 = .ok (.invokestatic 308, 3) := by decide +kernel
theorem d_Model_cover_72 : decode M_Model_cover.2.1 72 = .ok (.ifCond .eq 14, 3) := by decide +kernel
theorem d_Model_cover_75 : decode M_Model_cover.2.1 75 = .ok (.aload_n 0, 1) := by decide +kernel
theorem d_Model_cover_76 : decode M_Model_cover.2.1 76 = .ok (.iload 5, 2) := by decide +kernel
theorem d_Model_cover_78 : decode M_Model_cover.2.1 78 = .ok (.invokevirtual 346, 3) := by decide +kernel
theorem d_Model_cover_81 : decode M_Model_cover.2.1 81 = .ok (.iload_n 3, 1) := by decide +kernel
theorem d_Model_cover_82 : decode M_Model_cover.2.1 82 = .ok (.iand, 1) := by decide +kernel
theorem d_Model_cover_83 : decode M_Model_cover.2.1 83 = .ok (.ifCond .eq 7, 3) := by decide +kernel
theorem d_Model_cover_86 : decode M_Model_cover.2.1 86 = .ok (.iconst 1, 1) := by decide +kernel
theorem d_Model_cover_87 : decode M_Model_cover.2.1 87 = .ok (.goto 4, 3) := by decide +kernel
theorem d_Model_cover_90 : decode M_Model_cover.2.1 90 = .ok (.iconst 0, 1) := by decide +kernel
theorem d_Model_cover_91 : decode M_Model_cover.2.1 91 = .ok (.istore 4, 2) := by decide +kernel
theorem d_Model_cover_93 : decode M_Model_cover.2.1 93 = .ok (.iinc 5 1, 3) := by decide +kernel
theorem d_Model_cover_96 : decode M_Model_cover.2.1 96 = .ok (.goto (-44), 3) := by decide +kernel
theorem d_Model_cover_99 : decode M_Model_cover.2.1 99 = .ok (.iload 4, 2) := by decide +kernel
theorem d_Model_cover_101 : decode M_Model_cover.2.1 101 = .ok (.ifCond .eq 5, 3) := by decide +kernel
theorem d_Model_cover_104 : decode M_Model_cover.2.1 104 = .ok (.iload_n 3, 1) := by decide +kernel
theorem d_Model_cover_105 : decode M_Model_cover.2.1 105 = .ok (.istore_n 1, 1) := by decide +kernel
theorem d_Model_cover_106 : decode M_Model_cover.2.1 106 = .ok (.iinc 3 1, 3) := by decide +kernel
theorem d_Model_cover_109 : decode M_Model_cover.2.1 109 = .ok (.goto (-95), 3) := by decide +kernel
theorem d_Model_cover_112 : decode M_Model_cover.2.1 112 = .ok (.iload_n 1, 1) := by decide +kernel
theorem d_Model_cover_113 : decode M_Model_cover.2.1 113 = .ok (.ireturn, 1) := by decide +kernel
theorem d_Model_alone_0 : decode M_Model_alone.2.1 0 = .ok (.aload_n 0, 1) := by decide +kernel
theorem d_Model_alone_1 : decode M_Model_alone.2.1 1 = .ok (.iconst 0, 1) := by decide +kernel
theorem d_Model_alone_2 : decode M_Model_alone.2.1 2 = .ok (.putfield 114, 3) := by decide +kernel
theorem d_Model_alone_5 : decode M_Model_alone.2.1 5 = .ok (.iconst 0, 1) := by decide +kernel
theorem d_Model_alone_6 : decode M_Model_alone.2.1 6 = .ok (.istore_n 1, 1) := by decide +kernel
theorem d_Model_alone_7 : decode M_Model_alone.2.1 7 = .ok (.iconst 0, 1) := by decide +kernel
theorem d_Model_alone_8 : decode M_Model_alone.2.1 8 = .ok (.istore_n 2, 1) := by decide +kernel
theorem d_Model_alone_9 : decode M_Model_alone.2.1 9 = .ok (.iload_n 2, 1) := by decide +kernel
theorem d_Model_alone_10 : decode M_Model_alone.2.1 10 = .ok (.aload_n 0, 1) := by decide +kernel
theorem d_Model_alone_11 : decode M_Model_alone.2.1 11 = .ok (.getfield 121, 3) := by decide +kernel
theorem d_Model_alone_14 : decode M_Model_alone.2.1 14 = .ok (.if_icmp .ge 29, 3) := by decide +kernel
theorem d_Model_alone_17 : decode M_Model_alone.2.1 17 = .ok (.iload_n 1, 1) := by decide +kernel
theorem d_Model_alone_18 : decode M_Model_alone.2.1 18 = .ok (.aload_n 0, 1) := by decide +kernel
theorem d_Model_alone_19 : decode M_Model_alone.2.1 19 = .ok (.iload_n 2, 1) := by decide +kernel
theorem d_Model_alone_20 : decode M_Model_alone.2.1 20 = .ok (.invokevirtual 346, 3) := by decide +kernel
theorem d_Model_alone_23 : decode M_Model_alone.2.1 23 = .ok (.invokestatic 332, 3) := by decide +kernel
theorem d_Model_alone_26 : decode M_Model_alone.2.1 26 = .ok (.iconst 1, 1) := by decide +kernel
theorem d_Model_alone_27 : decode M_Model_alone.2.1 27 = .ok (.if_icmp .ne 7, 3) := by decide +kernel
theorem d_Model_alone_30 : decode M_Model_alone.2.1 30 = .ok (.iconst 1, 1) := by decide +kernel
theorem d_Model_alone_31 : decode M_Model_alone.2.1 31 = .ok (.goto 4, 3) := by decide +kernel
theorem d_Model_alone_34 : decode M_Model_alone.2.1 34 = .ok (.iconst 0, 1) := by decide +kernel
theorem d_Model_alone_35 : decode M_Model_alone.2.1 35 = .ok (.iadd, 1) := by decide +kernel
theorem d_Model_alone_36 : decode M_Model_alone.2.1 36 = .ok (.istore_n 1, 1) := by decide +kernel
theorem d_Model_alone_37 : decode M_Model_alone.2.1 37 = .ok (.iinc 2 1, 3) := by decide +kernel
theorem d_Model_alone_40 : decode M_Model_alone.2.1 40 = .ok (.goto (-31), 3) := by decide +kernel
theorem d_Model_alone_43 : decode M_Model_alone.2.1 43 = .ok (.iload_n 1, 1) := by decide +kernel
theorem d_Model_alone_44 : decode M_Model_alone.2.1 44 = .ok (.ireturn, 1) := by decide +kernel
theorem d_Model_shaveNow_0 : decode M_Model_shaveNow.2.1 0 = .ok (.iload_n 2, 1) := by decide +kernel
theorem d_Model_shaveNow_1 : decode M_Model_shaveNow.2.1 1 = .ok (.aload_n 0, 1) := by decide +kernel
theorem d_Model_shaveNow_2 : decode M_Model_shaveNow.2.1 2 = .ok (.getfield 59, 3) := by decide +kernel
theorem d_Model_shaveNow_5 : decode M_Model_shaveNow.2.1 5 = .ok (.iload_n 1, 1) := by decide +kernel
theorem d_Model_shaveNow_6 : decode M_Model_shaveNow.2.1 6 = .ok (.iaload, 1) := by decide +kernel
theorem d_Model_shaveNow_7 : decode M_Model_shaveNow.2.1 7 = .ok (.if_icmp .lt 4, 3) := by decide +kernel
theorem d_Model_shaveNow_10 : decode M_Model_shaveNow.2.1 10 = .ok (.return_, 1) := by decide +kernel
theorem d_Model_shaveNow_11 : decode M_Model_shaveNow.2.1 11 = .ok (.aload_n 0, 1) := by decide +kernel
theorem d_Model_shaveNow_12 : decode M_Model_shaveNow.2.1 12 = .ok (.getfield 59, 3) := by decide +kernel
theorem d_Model_shaveNow_15 : decode M_Model_shaveNow.2.1 15 = .ok (.iload_n 1, 1) := by decide +kernel
theorem d_Model_shaveNow_16 : decode M_Model_shaveNow.2.1 16 = .ok (.iload_n 2, 1) := by decide +kernel
theorem d_Model_shaveNow_17 : decode M_Model_shaveNow.2.1 17 = .ok (.iastore, 1) := by decide +kernel
theorem d_Model_shaveNow_18 : decode M_Model_shaveNow.2.1 18 = .ok (.aload_n 0, 1) := by decide +kernel
theorem d_Model_shaveNow_19 : decode M_Model_shaveNow.2.1 19 = .ok (.invokevirtual 292, 3) := by decide +kernel
theorem d_Model_shaveNow_22 : decode M_Model_shaveNow.2.1 22 = .ok (.pop, 1) := by decide +kernel
theorem d_Model_shaveNow_23 : decode M_Model_shaveNow.2.1 23 = .ok (.return_, 1) := by decide +kernel
theorem d_Model_lostByRazors_0 : decode M_Model_lostByRazors.2.1 0 = .ok (.aload_n 0, 1) := by decide +kernel
theorem d_Model_lostByRazors_1 : decode M_Model_lostByRazors.2.1 1 = .ok (.invokevirtual 329, 3) := by decide +kernel
theorem d_Model_lostByRazors_4 : decode M_Model_lostByRazors.2.1 4 = .ok (.istore_n 2, 1) := by decide +kernel
theorem d_Model_lostByRazors_5 : decode M_Model_lostByRazors.2.1 5 = .ok (.aload_n 0, 1) := by decide +kernel
theorem d_Model_lostByRazors_6 : decode M_Model_lostByRazors.2.1 6 = .ok (.aload_n 0, 1) := by decide +kernel
theorem d_Model_lostByRazors_7 : decode M_Model_lostByRazors.2.1 7 = .ok (.getfield 90, 3) := by decide +kernel
theorem d_Model_lostByRazors_10 : decode M_Model_lostByRazors.2.1 10 = .ok (.iconst 0, 1) := by decide +kernel
theorem d_Model_lostByRazors_11 : decode M_Model_lostByRazors.2.1 11 = .ok (.invokevirtual 359, 3) := by decide +kernel
theorem d_Model_lostByRazors_14 : decode M_Model_lostByRazors.2.1 14 = .ok (.iconst 0, 1) := by decide +kernel
theorem d_Model_lostByRazors_15 : decode M_Model_lostByRazors.2.1 15 = .ok (.istore_n 3, 1) := by decide +kernel
theorem d_Model_lostByRazors_16 : decode M_Model_lostByRazors.2.1 16 = .ok (.iload_n 3, 1) := by decide +kernel
theorem d_Model_lostByRazors_17 : decode M_Model_lostByRazors.2.1 17 = .ok (.aload_n 0, 1) := by decide +kernel
theorem d_Model_lostByRazors_18 : decode M_Model_lostByRazors.2.1 18 = .ok (.getfield 51, 3) := by decide +kernel
theorem d_Model_lostByRazors_21 : decode M_Model_lostByRazors.2.1 21 = .ok (.iconst 0, 1) := by decide +kernel
theorem d_Model_lostByRazors_22 : decode M_Model_lostByRazors.2.1 22 = .ok (.iaload, 1) := by decide +kernel
theorem d_Model_lostByRazors_23 : decode M_Model_lostByRazors.2.1 23 = .ok (.if_icmp .ge 23, 3) := by decide +kernel
theorem d_Model_lostByRazors_26 : decode M_Model_lostByRazors.2.1 26 = .ok (.iload_n 1, 1) := by decide +kernel
theorem d_Model_lostByRazors_27 : decode M_Model_lostByRazors.2.1 27 = .ok (.iload_n 3, 1) := by decide +kernel
theorem d_Model_lostByRazors_28 : decode M_Model_lostByRazors.2.1 28 = .ok (.invokestatic 308, 3) := by decide +kernel
theorem d_Model_lostByRazors_31 : decode M_Model_lostByRazors.2.1 31 = .ok (.ifCond .eq 9, 3) := by decide +kernel
theorem d_Model_lostByRazors_34 : decode M_Model_lostByRazors.2.1 34 = .ok (.aload_n 0, 1) := by decide +kernel
theorem d_Model_lostByRazors_35 : decode M_Model_lostByRazors.2.1 35 = .ok (.iload_n 3, 1) := by decide +kernel
theorem d_Model_lostByRazors_36 : decode M_Model_lostByRazors.2.1 36 = .ok (.iconst 0, 1) := by decide +kernel
theorem d_Model_lostByRazors_37 : decode M_Model_lostByRazors.2.1 37 = .ok (.invokevirtual 406, 3) := by decide +kernel
theorem d_Model_lostByRazors_40 : decode M_Model_lostByRazors.2.1 40 = .ok (.iinc 3 1, 3) := by decide +kernel
theorem d_Model_lostByRazors_43 : decode M_Model_lostByRazors.2.1 43 = .ok (.goto (-27), 3) := by decide +kernel
theorem d_Model_lostByRazors_46 : decode M_Model_lostByRazors.2.1 46 = .ok (.aload_n 0, 1) := by decide +kernel
theorem d_Model_lostByRazors_47 : decode M_Model_lostByRazors.2.1 47 = .ok (.invokevirtual 329, 3) := by decide +kernel
theorem d_Model_lostByRazors_50 : decode M_Model_lostByRazors.2.1 50 = .ok (.istore_n 3, 1) := by decide +kernel
theorem d_Model_lostByRazors_51 : decode M_Model_lostByRazors.2.1 51 = .ok (.aload_n 0, 1) := by decide +kernel
theorem d_Model_lostByRazors_52 : decode M_Model_lostByRazors.2.1 52 = .ok (.aload_n 0, 1) := by decide +kernel
theorem d_Model_lostByRazors_53 : decode M_Model_lostByRazors.2.1 53 = .ok (.getfield 90, 3) := by decide +kernel
theorem d_Model_lostByRazors_56 : decode M_Model_lostByRazors.2.1 56 = .ok (.iconst 0, 1) := by decide +kernel
theorem d_Model_lostByRazors_57 : decode M_Model_lostByRazors.2.1 57 = .ok (.invokevirtual 393, 3) := by decide +kernel
theorem d_Model_lostByRazors_60 : decode M_Model_lostByRazors.2.1 60 = .ok (.iload_n 2, 1) := by decide +kernel
theorem d_Model_lostByRazors_61 : decode M_Model_lostByRazors.2.1 61 = .ok (.iload_n 3, 1) := by decide +kernel
theorem d_Model_lostByRazors_62 : decode M_Model_lostByRazors.2.1 62 = .ok (.iconst (-1), 1) := by decide +kernel
theorem d_Model_lostByRazors_63 : decode M_Model_lostByRazors.2.1 63 = .ok (.ixor, 1) := by decide +kernel
theorem d_Model_lostByRazors_64 : decode M_Model_lostByRazors.2.1 64 = .ok (.iand, 1) := by decide +kernel
theorem d_Model_lostByRazors_65 : decode M_Model_lostByRazors.2.1 65 = .ok (.ireturn, 1) := by decide +kernel
theorem d_Model_noPlaits_0 : decode M_Model_noPlaits.2.1 0 = .ok (.iconst 0, 1) := by decide +kernel
theorem d_Model_noPlaits_1 : decode M_Model_noPlaits.2.1 1 = .ok (.istore_n 1, 1) := by decide +kernel
theorem d_Model_noPlaits_2 : decode M_Model_noPlaits.2.1 2 = .ok (.iconst 0, 1) := by decide +kernel
theorem d_Model_noPlaits_3 : decode M_Model_noPlaits.2.1 3 = .ok (.istore_n 2, 1) := by decide +kernel
theorem d_Model_noPlaits_4 : decode M_Model_noPlaits.2.1 4 = .ok (.iload_n 2, 1) := by decide +kernel
theorem d_Model_noPlaits_5 : decode M_Model_noPlaits.2.1 5 = .ok (.aload_n 0, 1) := by decide +kernel
theorem d_Model_noPlaits_6 : decode M_Model_noPlaits.2.1 6 = .ok (.getfield 51, 3) := by decide +kernel
theorem d_Model_noPlaits_9 : decode M_Model_noPlaits.2.1 9 = .ok (.iconst 0, 1) := by decide +kernel
theorem d_Model_noPlaits_10 : decode M_Model_noPlaits.2.1 10 = .ok (.iaload, 1) := by decide +kernel
theorem d_Model_noPlaits_11 : decode M_Model_noPlaits.2.1 11 = .ok (.if_icmp .ge 29, 3) := by decide +kernel
theorem d_Model_noPlaits_14 : decode M_Model_noPlaits.2.1 14 = .ok (.iload_n 1, 1) := by decide +kernel
theorem d_Model_noPlaits_15 : decode M_Model_noPlaits.2.1 15 = .ok (.aload_n 0, 1) := by decide +kernel
theorem d_Model_noPlaits_16 : decode M_Model_noPlaits.2.1 16 = .ok (.getfield 55, 3) := by decide +kernel
theorem d_Model_noPlaits_19 : decode M_Model_noPlaits.2.1 19 = .ok (.iload_n 2, 1) := by decide +kernel
theorem d_Model_noPlaits_20 : decode M_Model_noPlaits.2.1 20 = .ok (.iaload, 1) := by decide +kernel
theorem d_Model_noPlaits_21 : decode M_Model_noPlaits.2.1 21 = .ok (.iconst 3, 1) := by decide +kernel
theorem d_Model_noPlaits_22 : decode M_Model_noPlaits.2.1 22 = .ok (.if_icmp .ne 7, 3) := by decide +kernel
theorem d_Model_noPlaits_25 : decode M_Model_noPlaits.2.1 25 = .ok (.iconst 0, 1) := by decide +kernel
theorem d_Model_noPlaits_26 : decode M_Model_noPlaits.2.1 26 = .ok (.goto 6, 3) := by decide +kernel
theorem d_Model_noPlaits_29 : decode M_Model_noPlaits.2.1 29 = .ok (.iconst 1, 1) := by decide +kernel
theorem d_Model_noPlaits_30 : decode M_Model_noPlaits.2.1 30 = .ok (.iload_n 2, 1) := by decide +kernel
theorem d_Model_noPlaits_31 : decode M_Model_noPlaits.2.1 31 = .ok (.ishl, 1) := by decide +kernel
theorem d_Model_noPlaits_32 : decode M_Model_noPlaits.2.1 32 = .ok (.ior, 1) := by decide +kernel
theorem d_Model_noPlaits_33 : decode M_Model_noPlaits.2.1 33 = .ok (.istore_n 1, 1) := by decide +kernel
theorem d_Model_noPlaits_34 : decode M_Model_noPlaits.2.1 34 = .ok (.iinc 2 1, 3) := by decide +kernel
theorem d_Model_noPlaits_37 : decode M_Model_noPlaits.2.1 37 = .ok (.goto (-33), 3) := by decide +kernel
theorem d_Model_noPlaits_40 : decode M_Model_noPlaits.2.1 40 = .ok (.iload_n 1, 1) := by decide +kernel
theorem d_Model_noPlaits_41 : decode M_Model_noPlaits.2.1 41 = .ok (.ireturn, 1) := by decide +kernel
theorem d_Model_barbers_0 : decode M_Model_barbers.2.1 0 = .ok (.aload_n 0, 1) := by decide +kernel
theorem d_Model_barbers_1 : decode M_Model_barbers.2.1 1 = .ok (.iconst 0, 1) := by decide +kernel
theorem d_Model_barbers_2 : decode M_Model_barbers.2.1 2 = .ok (.putfield 114, 3) := by decide +kernel
theorem d_Model_barbers_5 : decode M_Model_barbers.2.1 5 = .ok (.iload_n 1, 1) := by decide +kernel
theorem d_Model_barbers_6 : decode M_Model_barbers.2.1 6 = .ok (.i2l, 1) := by decide +kernel
theorem d_Model_barbers_7 : decode M_Model_barbers.2.1 7 = .ok (.lconst 0, 1) := by decide +kernel
theorem d_Model_barbers_8 : decode M_Model_barbers.2.1 8 = .ok (.ldc2_w 410, 3) := by decide +kernel
theorem d_Model_barbers_11 : decode M_Model_barbers.2.1 11 = .ok (.invokestatic 117, 3) := by decide +kernel
theorem d_Model_barbers_14 : decode M_Model_barbers.2.1 14 = .ok (.ifCond .ne 9, 3) := by decide +kernel
theorem d_Model_barbers_17 : decode M_Model_barbers.2.1 17 = .ok (.aload_n 0, 1) := by decide +kernel
theorem d_Model_barbers_18 : decode M_Model_barbers.2.1 18 = .ok (.iconst 1, 1) := by decide +kernel
theorem d_Model_barbers_19 : decode M_Model_barbers.2.1 19 = .ok (.invokevirtual 273, 3) := by decide +kernel
theorem d_Model_barbers_22 : decode M_Model_barbers.2.1 22 = .ok (.ireturn, 1) := by decide +kernel
theorem d_Model_barbers_23 : decode M_Model_barbers.2.1 23 = .ok (.aload_n 0, 1) := by decide +kernel
theorem d_Model_barbers_24 : decode M_Model_barbers.2.1 24 = .ok (.invokevirtual 412, 3) := by decide +kernel
theorem d_Model_barbers_27 : decode M_Model_barbers.2.1 27 = .ok (.istore_n 2, 1) := by decide +kernel
theorem d_Model_barbers_28 : decode M_Model_barbers.2.1 28 = .ok (.iload_n 1, 1) := by decide +kernel
theorem d_Model_barbers_29 : decode M_Model_barbers.2.1 29 = .ok (.iload_n 2, 1) := by decide +kernel
theorem d_Model_barbers_30 : decode M_Model_barbers.2.1 30 = .ok (.invokestatic 332, 3) := by decide +kernel
theorem d_Model_barbers_33 : decode M_Model_barbers.2.1 33 = .ok (.invokestatic 156, 3) := by decide +kernel
theorem d_Model_barbers_36 : decode M_Model_barbers.2.1 36 = .ok (.istore_n 3, 1) := by decide +kernel
theorem d_Model_barbers_37 : decode M_Model_barbers.2.1 37 = .ok (.iconst (-1), 1) := by decide +kernel
theorem d_Model_barbers_38 : decode M_Model_barbers.2.1 38 = .ok (.istore 4, 2) := by decide +kernel
theorem d_Model_barbers_40 : decode M_Model_barbers.2.1 40 = .ok (.iconst 0, 1) := by decide +kernel
theorem d_Model_barbers_41 : decode M_Model_barbers.2.1 41 = .ok (.istore 5, 2) := by decide +kernel
theorem d_Model_barbers_43 : decode M_Model_barbers.2.1 43 = .ok (.iload 5, 2) := by decide +kernel
theorem d_Model_barbers_45 : decode M_Model_barbers.2.1 45 = .ok (.iconst 1, 1) := by decide +kernel
theorem d_Model_barbers_46 : decode M_Model_barbers.2.1 46 = .ok (.aload_n 0, 1) := by decide +kernel
theorem d_Model_barbers_47 : decode M_Model_barbers.2.1 47 = .ok (.getfield 51, 3) := by decide +kernel
theorem d_Model_barbers_50 : decode M_Model_barbers.2.1 50 = .ok (.iconst 0, 1) := by decide +kernel
theorem d_Model_barbers_51 : decode M_Model_barbers.2.1 51 = .ok (.iaload, 1) := by decide +kernel
theorem d_Model_barbers_52 : decode M_Model_barbers.2.1 52 = .ok (.ishl, 1) := by decide +kernel
theorem d_Model_barbers_53 : decode M_Model_barbers.2.1 53 = .ok (.if_icmp .ge 61, 3) := by decide +kernel
theorem d_Model_barbers_56 : decode M_Model_barbers.2.1 56 = .ok (.iload 5, 2) := by decide +kernel
theorem d_Model_barbers_58 : decode M_Model_barbers.2.1 58 = .ok (.iload_n 2, 1) := by decide +kernel
theorem d_Model_barbers_59 : decode M_Model_barbers.2.1 59 = .ok (.iconst (-1), 1) := by decide +kernel
theorem d_Model_barbers_60 : decode M_Model_barbers.2.1 60 = .ok (.ixor, 1) := by decide +kernel
theorem d_Model_barbers_61 : decode M_Model_barbers.2.1 61 = .ok (.iand, 1) := by decide +kernel
theorem d_Model_barbers_62 : decode M_Model_barbers.2.1 62 = .ok (.ifCond .ne 46, 3) := by decide +kernel
theorem d_Model_barbers_65 : decode M_Model_barbers.2.1 65 = .ok (.iload 5, 2) := by decide +kernel
theorem d_Model_barbers_67 : decode M_Model_barbers.2.1 67 = .ok (.invokestatic 332, 3) := by decide +kernel
theorem d_Model_barbers_70 : decode M_Model_barbers.2.1 70 = .ok (.iload_n 3, 1) := by decide +kernel
theorem d_Model_barbers_71 : decode M_Model_barbers.2.1 71 = .ok (.if_icmp .eq 6, 3) := by decide +kernel
theorem d_Model_barbers_74 : decode M_Model_barbers.2.1 74 = .ok (.goto 34, 3) := by decide +kernel
theorem d_Model_barbers_77 : decode M_Model_barbers.2.1 77 = .ok (.iload 4, 2) := by decide +kernel
theorem d_Model_barbers_79 : decode M_Model_barbers.2.1 79 = .ok (.iconst (-1), 1) := by decide +kernel
theorem d_Model_barbers_80 : decode M_Model_barbers.2.1 80 = .ok (.if_icmp .eq 24, 3) := by decide +kernel
theorem d_Model_barbers_83 : decode M_Model_barbers.2.1 83 = .ok (.aload_n 0, 1) := by decide +kernel
theorem d_Model_barbers_84 : decode M_Model_barbers.2.1 84 = .ok (.iload 5, 2) := by decide +kernel
theorem d_Model_barbers_86 : decode M_Model_barbers.2.1 86 = .ok (.invokevirtual 415, 3) := by decide +kernel
theorem d_Model_barbers_89 : decode M_Model_barbers.2.1 89 = .ok (.invokestatic 332, 3) := by decide +kernel
theorem d_Model_barbers_92 : decode M_Model_barbers.2.1 92 = .ok (.aload_n 0, 1) := by decide +kernel
theorem d_Model_barbers_93 : decode M_Model_barbers.2.1 93 = .ok (.iload 4, 2) := by decide +kernel
theorem d_Model_barbers_95 : decode M_Model_barbers.2.1 95 = .ok (.invokevirtual 415, 3) := by decide +kernel
theorem d_Model_barbers_98 : decode M_Model_barbers.2.1 98 = .ok (.invokestatic 332, 3) := by decide +kernel
theorem d_Model_barbers_101 : decode M_Model_barbers.2.1 101 = .ok (.if_icmp .le 7, 3) := by decide +kernel
theorem d_Model_barbers_104 : decode M_Model_barbers.2.1 104 = .ok (.iload 5, 2) := by decide +kernel
theorem d_Model_barbers_106 : decode M_Model_barbers.2.1 106 = .ok (.istore 4, 2) := by decide +kernel
theorem d_Model_barbers_108 : decode M_Model_barbers.2.1 108 = .ok (.iinc 5 1, 3) := by decide +kernel
theorem d_Model_barbers_111 : decode M_Model_barbers.2.1 111 = .ok (.goto (-68), 3) := by decide +kernel
theorem d_Model_barbers_114 : decode M_Model_barbers.2.1 114 = .ok (.iload 4, 2) := by decide +kernel
theorem d_Model_barbers_116 : decode M_Model_barbers.2.1 116 = .ok (.ireturn, 1) := by decide +kernel
theorem d_Model_shortest_0 : decode M_Model_shortest.2.1 0 = .ok (.aload_n 0, 1) := by decide +kernel
theorem d_Model_shortest_1 : decode M_Model_shortest.2.1 1 = .ok (.iconst 0, 1) := by decide +kernel
theorem d_Model_shortest_2 : decode M_Model_shortest.2.1 2 = .ok (.putfield 114, 3) := by decide +kernel
theorem d_Model_shortest_5 : decode M_Model_shortest.2.1 5 = .ok (.aload_n 0, 1) := by decide +kernel
theorem d_Model_shortest_6 : decode M_Model_shortest.2.1 6 = .ok (.iload_n 1, 1) := by decide +kernel
theorem d_Model_shortest_7 : decode M_Model_shortest.2.1 7 = .ok (.invokevirtual 335, 3) := by decide +kernel
theorem d_Model_shortest_10 : decode M_Model_shortest.2.1 10 = .ok (.ifCond .ne 9, 3) := by decide +kernel
theorem d_Model_shortest_13 : decode M_Model_shortest.2.1 13 = .ok (.aload_n 0, 1) := by decide +kernel
theorem d_Model_shortest_14 : decode M_Model_shortest.2.1 14 = .ok (.iconst 1, 1) := by decide +kernel
theorem d_Model_shortest_15 : decode M_Model_shortest.2.1 15 = .ok (.invokevirtual 273, 3) := by decide +kernel
theorem d_Model_shortest_18 : decode M_Model_shortest.2.1 18 = .ok (.ireturn, 1) := by decide +kernel
theorem d_Model_shortest_19 : decode M_Model_shortest.2.1 19 = .ok (.aload_n 0, 1) := by decide +kernel
theorem d_Model_shortest_20 : decode M_Model_shortest.2.1 20 = .ok (.invokevirtual 329, 3) := by decide +kernel
theorem d_Model_shortest_23 : decode M_Model_shortest.2.1 23 = .ok (.istore_n 2, 1) := by decide +kernel
theorem d_Model_shortest_24 : decode M_Model_shortest.2.1 24 = .ok (.aload_n 0, 1) := by decide +kernel
theorem d_Model_shortest_25 : decode M_Model_shortest.2.1 25 = .ok (.aload_n 0, 1) := by decide +kernel
theorem d_Model_shortest_26 : decode M_Model_shortest.2.1 26 = .ok (.getfield 90, 3) := by decide +kernel
theorem d_Model_shortest_29 : decode M_Model_shortest.2.1 29 = .ok (.iconst 0, 1) := by decide +kernel
theorem d_Model_shortest_30 : decode M_Model_shortest.2.1 30 = .ok (.invokevirtual 359, 3) := by decide +kernel
theorem d_Model_shortest_33 : decode M_Model_shortest.2.1 33 = .ok (.aload_n 0, 1) := by decide +kernel
theorem d_Model_shortest_34 : decode M_Model_shortest.2.1 34 = .ok (.getfield 59, 3) := by decide +kernel
theorem d_Model_shortest_37 : decode M_Model_shortest.2.1 37 = .ok (.iload_n 1, 1) := by decide +kernel
theorem d_Model_shortest_38 : decode M_Model_shortest.2.1 38 = .ok (.iaload, 1) := by decide +kernel
theorem d_Model_shortest_39 : decode M_Model_shortest.2.1 39 = .ok (.istore_n 3, 1) := by decide +kernel
theorem d_Model_shortest_40 : decode M_Model_shortest.2.1 40 = .ok (.aload_n 0, 1) := by decide +kernel
theorem d_Model_shortest_41 : decode M_Model_shortest.2.1 41 = .ok (.getfield 59, 3) := by decide +kernel
theorem d_Model_shortest_44 : decode M_Model_shortest.2.1 44 = .ok (.iload_n 1, 1) := by decide +kernel
theorem d_Model_shortest_45 : decode M_Model_shortest.2.1 45 = .ok (.iaload, 1) := by decide +kernel
theorem d_Model_shortest_46 : decode M_Model_shortest.2.1 46 = .ok (.iconst 1, 1) := by decide +kernel
theorem d_Model_shortest_47 : decode M_Model_shortest.2.1 47 = .ok (.isub, 1) := by decide +kernel
theorem d_Model_shortest_48 : decode M_Model_shortest.2.1 48 = .ok (.istore 4, 2) := by decide +kernel
theorem d_Model_shortest_50 : decode M_Model_shortest.2.1 50 = .ok (.iload 4, 2) := by decide +kernel
theorem d_Model_shortest_52 : decode M_Model_shortest.2.1 52 = .ok (.ifCond .lt 27, 3) := by decide +kernel
theorem d_Model_shortest_55 : decode M_Model_shortest.2.1 55 = .ok (.aload_n 0, 1) := by decide +kernel
theorem d_Model_shortest_56 : decode M_Model_shortest.2.1 56 = .ok (.iload_n 1, 1) := by decide +kernel
theorem d_Model_shortest_57 : decode M_Model_shortest.2.1 57 = .ok (.iload 4, 2) := by decide +kernel
theorem d_Model_shortest_59 : decode M_Model_shortest.2.1 59 = .ok (.invokevirtual 406, 3) := by decide +kernel
theorem d_Model_shortest_62 : decode M_Model_shortest.2.1 62 = .ok (.aload_n 0, 1) := by decide +kernel
theorem d_Model_shortest_63 : decode M_Model_shortest.2.1 63 = .ok (.invokevirtual 329, 3) := by decide +kernel
theorem d_Model_shortest_66 : decode M_Model_shortest.2.1 66 = .ok (.iload_n 2, 1) := by decide +kernel
theorem d_Model_shortest_67 : decode M_Model_shortest.2.1 67 = .ok (.if_icmp .ne 6, 3) := by decide +kernel
theorem d_Model_shortest_70 : decode M_Model_shortest.2.1 70 = .ok (.iload 4, 2) := by decide +kernel
theorem d_Model_shortest_72 : decode M_Model_shortest.2.1 72 = .ok (.istore_n 3, 1) := by decide +kernel
theorem d_Model_shortest_73 : decode M_Model_shortest.2.1 73 = .ok (.iinc 4 (-1), 3) := by decide +kernel
theorem d_Model_shortest_76 : decode M_Model_shortest.2.1 76 = .ok (.goto (-26), 3) := by decide +kernel
theorem d_Model_shortest_79 : decode M_Model_shortest.2.1 79 = .ok (.aload_n 0, 1) := by decide +kernel
theorem d_Model_shortest_80 : decode M_Model_shortest.2.1 80 = .ok (.aload_n 0, 1) := by decide +kernel
theorem d_Model_shortest_81 : decode M_Model_shortest.2.1 81 = .ok (.getfield 90, 3) := by decide +kernel
theorem d_Model_shortest_84 : decode M_Model_shortest.2.1 84 = .ok (.iconst 0, 1) := by decide +kernel
theorem d_Model_shortest_85 : decode M_Model_shortest.2.1 85 = .ok (.invokevirtual 393, 3) := by decide +kernel
theorem d_Model_shortest_88 : decode M_Model_shortest.2.1 88 = .ok (.iload_n 3, 1) := by decide +kernel
theorem d_Model_shortest_89 : decode M_Model_shortest.2.1 89 = .ok (.ireturn, 1) := by decide +kernel
theorem d_Model_forgiven_0 : decode M_Model_forgiven.2.1 0 = .ok (.aload_n 0, 1) := by decide +kernel
theorem d_Model_forgiven_1 : decode M_Model_forgiven.2.1 1 = .ok (.invokevirtual 329, 3) := by decide +kernel
theorem d_Model_forgiven_4 : decode M_Model_forgiven.2.1 4 = .ok (.istore 4, 2) := by decide +kernel
theorem d_Model_forgiven_6 : decode M_Model_forgiven.2.1 6 = .ok (.aload_n 0, 1) := by decide +kernel
theorem d_Model_forgiven_7 : decode M_Model_forgiven.2.1 7 = .ok (.aload_n 0, 1) := by decide +kernel
theorem d_Model_forgiven_8 : decode M_Model_forgiven.2.1 8 = .ok (.getfield 90, 3) := by decide +kernel
theorem d_Model_forgiven_11 : decode M_Model_forgiven.2.1 11 = .ok (.iconst 0, 1) := by decide +kernel
theorem d_Model_forgiven_12 : decode M_Model_forgiven.2.1 12 = .ok (.invokevirtual 359, 3) := by decide +kernel
theorem d_Model_forgiven_15 : decode M_Model_forgiven.2.1 15 = .ok (.aload_n 0, 1) := by decide +kernel
theorem d_Model_forgiven_16 : decode M_Model_forgiven.2.1 16 = .ok (.iload_n 1, 1) := by decide +kernel
theorem d_Model_forgiven_17 : decode M_Model_forgiven.2.1 17 = .ok (.iload_n 2, 1) := by decide +kernel
theorem d_Model_forgiven_18 : decode M_Model_forgiven.2.1 18 = .ok (.iload_n 3, 1) := by decide +kernel
theorem d_Model_forgiven_19 : decode M_Model_forgiven.2.1 19 = .ok (.invokevirtual 390, 3) := by decide +kernel
theorem d_Model_forgiven_22 : decode M_Model_forgiven.2.1 22 = .ok (.pop, 1) := by decide +kernel
theorem d_Model_forgiven_23 : decode M_Model_forgiven.2.1 23 = .ok (.iload 4, 2) := by decide +kernel
theorem d_Model_forgiven_25 : decode M_Model_forgiven.2.1 25 = .ok (.aload_n 0, 1) := by decide +kernel
theorem d_Model_forgiven_26 : decode M_Model_forgiven.2.1 26 = .ok (.invokevirtual 329, 3) := by decide +kernel
theorem d_Model_forgiven_29 : decode M_Model_forgiven.2.1 29 = .ok (.iconst (-1), 1) := by decide +kernel
theorem d_Model_forgiven_30 : decode M_Model_forgiven.2.1 30 = .ok (.ixor, 1) := by decide +kernel
theorem d_Model_forgiven_31 : decode M_Model_forgiven.2.1 31 = .ok (.iand, 1) := by decide +kernel
theorem d_Model_forgiven_32 : decode M_Model_forgiven.2.1 32 = .ok (.istore 5, 2) := by decide +kernel
theorem d_Model_forgiven_34 : decode M_Model_forgiven.2.1 34 = .ok (.aload_n 0, 1) := by decide +kernel
theorem d_Model_forgiven_35 : decode M_Model_forgiven.2.1 35 = .ok (.aload_n 0, 1) := by decide +kernel
theorem d_Model_forgiven_36 : decode M_Model_forgiven.2.1 36 = .ok (.getfield 90, 3) := by decide +kernel
theorem d_Model_forgiven_39 : decode M_Model_forgiven.2.1 39 = .ok (.iconst 0, 1) := by decide +kernel
theorem d_Model_forgiven_40 : decode M_Model_forgiven.2.1 40 = .ok (.invokevirtual 393, 3) := by decide +kernel
theorem d_Model_forgiven_43 : decode M_Model_forgiven.2.1 43 = .ok (.iconst 0, 1) := by decide +kernel
theorem d_Model_forgiven_44 : decode M_Model_forgiven.2.1 44 = .ok (.istore 6, 2) := by decide +kernel
theorem d_Model_forgiven_46 : decode M_Model_forgiven.2.1 46 = .ok (.iconst 0, 1) := by decide +kernel
theorem d_Model_forgiven_47 : decode M_Model_forgiven.2.1 47 = .ok (.istore 7, 2) := by decide +kernel
theorem d_Model_forgiven_49 : decode M_Model_forgiven.2.1 49 = .ok (.iload 7, 2) := by decide +kernel
theorem d_Model_forgiven_51 : decode M_Model_forgiven.2.1 51 = .ok (.aload_n 0, 1) := by decide +kernel
theorem d_Model_forgiven_52 : decode M_Model_forgiven.2.1 52 = .ok (.getfield 121, 3) := by decide +kernel
theorem d_Model_forgiven_55 : decode M_Model_forgiven.2.1 55 = .ok (.if_icmp .ge 77, 3) := by decide +kernel
theorem d_Model_forgiven_58 : decode M_Model_forgiven.2.1 58 = .ok (.aload_n 0, 1) := by decide +kernel
theorem d_Model_forgiven_59 : decode M_Model_forgiven.2.1 59 = .ok (.iload 7, 2) := by decide +kernel
theorem d_Model_forgiven_61 : decode M_Model_forgiven.2.1 61 = .ok (.invokevirtual 315, 3) := by decide +kernel
theorem d_Model_forgiven_64 : decode M_Model_forgiven.2.1 64 = .ok (.ifCond .eq 62, 3) := by decide +kernel
theorem d_Model_forgiven_67 : decode M_Model_forgiven.2.1 67 = .ok (.aload_n 0, 1) := by decide +kernel
theorem d_Model_forgiven_68 : decode M_Model_forgiven.2.1 68 = .ok (.iload 7, 2) := by decide +kernel
theorem d_Model_forgiven_70 : decode M_Model_forgiven.2.1 70 = .ok (.iconst 0, 1) := by decide +kernel
theorem d_Model_forgiven_71 : decode M_Model_forgiven.2.1 71 = .ok (.invokevirtual 305, 3) := by decide +kernel
theorem d_Model_forgiven_74 : decode M_Model_forgiven.2.1 74 = .ok (.iconst 1, 1) := by decide +kernel
theorem d_Model_forgiven_75 : decode M_Model_forgiven.2.1 75 = .ok (.if_icmp .ne 51, 3) := by decide +kernel
theorem d_Model_forgiven_78 : decode M_Model_forgiven.2.1 78 = .ok (.iload 5, 2) := by decide +kernel
theorem d_Model_forgiven_80 : decode M_Model_forgiven.2.1 80 = .ok (.aload_n 0, 1) := by decide +kernel
theorem d_Model_forgiven_81 : decode M_Model_forgiven.2.1 81 = .ok (.iload 7, 2) := by decide +kernel
theorem d_Model_forgiven_83 : decode M_Model_forgiven.2.1 83 = .ok (.bipush 7, 2) := by decide +kernel
theorem d_Model_forgiven_85 : decode M_Model_forgiven.2.1 85 = .ok (.invokevirtual 305, 3) := by decide +kernel
theorem d_Model_forgiven_88 : decode M_Model_forgiven.2.1 88 = .ok (.invokestatic 308, 3) := by decide +kernel
theorem d_Model_forgiven_91 : decode M_Model_forgiven.2.1 91 = .ok (.ifCond .ne 6, 3) := by decide +kernel
theorem d_Model_forgiven_94 : decode M_Model_forgiven.2.1 94 = .ok (.goto 32, 3) := by decide +kernel
theorem d_Model_forgiven_97 : decode M_Model_forgiven.2.1 97 = .ok (.iload 6, 2) := by decide +kernel
theorem d_Model_forgiven_99 : decode M_Model_forgiven.2.1 99 = .ok (.aload_n 0, 1) := by decide +kernel
theorem d_Model_forgiven_100 : decode M_Model_forgiven.2.1 100 = .ok (.iload 7, 2) := by decide +kernel
theorem d_Model_forgiven_102 : decode M_Model_forgiven.2.1 102 = .ok (.iconst 4, 1) := by decide +kernel
theorem d_Model_forgiven_103 : decode M_Model_forgiven.2.1 103 = .ok (.invokevirtual 305, 3) := by decide +kernel
theorem d_Model_forgiven_106 : decode M_Model_forgiven.2.1 106 = .ok (.iadd, 1) := by decide +kernel
theorem d_Model_forgiven_107 : decode M_Model_forgiven.2.1 107 = .ok (.istore 6, 2) := by decide +kernel
theorem d_Model_forgiven_109 : decode M_Model_forgiven.2.1 109 = .ok (.iload 5, 2) := by decide +kernel
theorem d_Model_forgiven_111 : decode M_Model_forgiven.2.1 111 = .ok (.iconst 1, 1) := by decide +kernel
theorem d_Model_forgiven_112 : decode M_Model_forgiven.2.1 112 = .ok (.aload_n 0, 1) := by decide +kernel
theorem d_Model_forgiven_113 : decode M_Model_forgiven.2.1 113 = .ok (.iload 7, 2) := by decide +kernel
theorem d_Model_forgiven_115 : decode M_Model_forgiven.2.1 115 = .ok (.bipush 7, 2) := by decide +kernel
theorem d_Model_forgiven_117 : decode M_Model_forgiven.2.1 117 = .ok (.invokevirtual 305, 3) := by decide +kernel
theorem d_Model_forgiven_120 : decode M_Model_forgiven.2.1 120 = .ok (.ishl, 1) := by decide +kernel
theorem d_Model_forgiven_121 : decode M_Model_forgiven.2.1 121 = .ok (.iconst (-1), 1) := by decide +kernel
theorem d_Model_forgiven_122 : decode M_Model_forgiven.2.1 122 = .ok (.ixor, 1) := by decide +kernel
theorem d_Model_forgiven_123 : decode M_Model_forgiven.2.1 123 = .ok (.iand, 1) := by decide +kernel
theorem d_Model_forgiven_124 : decode M_Model_forgiven.2.1 124 = .ok (.istore 5, 2) := by decide +kernel
theorem d_Model_forgiven_126 : decode M_Model_forgiven.2.1 126 = .ok (.iinc 7 1, 3) := by decide +kernel
theorem d_Model_forgiven_129 : decode M_Model_forgiven.2.1 129 = .ok (.goto (-80), 3) := by decide +kernel
theorem d_Model_forgiven_132 : decode M_Model_forgiven.2.1 132 = .ok (.iload 6, 2) := by decide +kernel
theorem d_Model_forgiven_134 : decode M_Model_forgiven.2.1 134 = .ok (.ireturn, 1) := by decide +kernel
theorem d_Model_amnesty_0 : decode M_Model_amnesty.2.1 0 = .ok (.aload_n 0, 1) := by decide +kernel
theorem d_Model_amnesty_1 : decode M_Model_amnesty.2.1 1 = .ok (.iconst 0, 1) := by decide +kernel
theorem d_Model_amnesty_2 : decode M_Model_amnesty.2.1 2 = .ok (.putfield 114, 3) := by decide +kernel
theorem d_Model_amnesty_5 : decode M_Model_amnesty.2.1 5 = .ok (.aload_n 0, 1) := by decide +kernel
theorem d_Model_amnesty_6 : decode M_Model_amnesty.2.1 6 = .ok (.iload_n 1, 1) := by decide +kernel
theorem d_Model_amnesty_7 : decode M_Model_amnesty.2.1 7 = .ok (.invokevirtual 335, 3) := by decide +kernel
theorem d_Model_amnesty_10 : decode M_Model_amnesty.2.1 10 = .ok (.ifCond .eq 12, 3) := by decide +kernel
theorem d_Model_amnesty_13 : decode M_Model_amnesty.2.1 13 = .ok (.iload_n 3, 1) := by decide +kernel
theorem d_Model_amnesty_14 : decode M_Model_amnesty.2.1 14 = .ok (.ifCond .lt 8, 3) := by decide +kernel
theorem d_Model_amnesty_17 : decode M_Model_amnesty.2.1 17 = .ok (.iload_n 3, 1) := by decide +kernel
theorem d_Model_amnesty_18 : decode M_Model_amnesty.2.1 18 = .ok (.iconst 1, 1) := by decide +kernel
theorem d_Model_amnesty_19 : decode M_Model_amnesty.2.1 19 = .ok (.if_icmp .le 9, 3) := by decide +kernel
theorem d_Model_amnesty_22 : decode M_Model_amnesty.2.1 22 = .ok (.aload_n 0, 1) := by decide +kernel
theorem d_Model_amnesty_23 : decode M_Model_amnesty.2.1 23 = .ok (.iconst 1, 1) := by decide +kernel
theorem d_Model_amnesty_24 : decode M_Model_amnesty.2.1 24 = .ok (.invokevirtual 273, 3) := by decide +kernel
theorem d_Model_amnesty_27 : decode M_Model_amnesty.2.1 27 = .ok (.ireturn, 1) := by decide +kernel
theorem d_Model_amnesty_28 : decode M_Model_amnesty.2.1 28 = .ok (.iload_n 2, 1) := by decide +kernel
theorem d_Model_amnesty_29 : decode M_Model_amnesty.2.1 29 = .ok (.i2l, 1) := by decide +kernel
theorem d_Model_amnesty_30 : decode M_Model_amnesty.2.1 30 = .ok (.lconst 0, 1) := by decide +kernel
theorem d_Model_amnesty_31 : decode M_Model_amnesty.2.1 31 = .ok (.ldc2_w 344, 3) := by decide +kernel
theorem d_Model_amnesty_34 : decode M_Model_amnesty.2.1 34 = .ok (.invokestatic 117, 3) := by decide +kernel
theorem d_Model_amnesty_37 : decode M_Model_amnesty.2.1 37 = .ok (.ifCond .ne 9, 3) := by decide +kernel
theorem d_Model_amnesty_40 : decode M_Model_amnesty.2.1 40 = .ok (.aload_n 0, 1) := by decide +kernel
theorem d_Model_amnesty_41 : decode M_Model_amnesty.2.1 41 = .ok (.iconst 2, 1) := by decide +kernel
theorem d_Model_amnesty_42 : decode M_Model_amnesty.2.1 42 = .ok (.invokevirtual 273, 3) := by decide +kernel
theorem d_Model_amnesty_45 : decode M_Model_amnesty.2.1 45 = .ok (.ireturn, 1) := by decide +kernel
theorem d_Model_amnesty_46 : decode M_Model_amnesty.2.1 46 = .ok (.iconst 0, 1) := by decide +kernel
theorem d_Model_amnesty_47 : decode M_Model_amnesty.2.1 47 = .ok (.istore 4, 2) := by decide +kernel
theorem d_Model_amnesty_49 : decode M_Model_amnesty.2.1 49 = .ok (.iconst (-1), 1) := by decide +kernel
theorem d_Model_amnesty_50 : decode M_Model_amnesty.2.1 50 = .ok (.istore 5, 2) := by decide +kernel
theorem d_Model_amnesty_52 : decode M_Model_amnesty.2.1 52 = .ok (.iconst 0, 1) := by decide +kernel
theorem d_Model_amnesty_53 : decode M_Model_amnesty.2.1 53 = .ok (.istore 6, 2) := by decide +kernel
theorem d_Model_amnesty_55 : decode M_Model_amnesty.2.1 55 = .ok (.iload 6, 2) := by decide +kernel
theorem d_Model_amnesty_57 : decode M_Model_amnesty.2.1 57 = .ok (.bipush 60, 2) := by decide +kernel
theorem d_Model_amnesty_59 : decode M_Model_amnesty.2.1 59 = .ok (.if_icmp .gt 40, 3) := by decide +kernel
theorem d_Model_amnesty_62 : decode M_Model_amnesty.2.1 62 = .ok (.aload_n 0, 1) := by decide +kernel
theorem d_Model_amnesty_63 : decode M_Model_amnesty.2.1 63 = .ok (.iload_n 1, 1) := by decide +kernel
theorem d_Model_amnesty_64 : decode M_Model_amnesty.2.1 64 = .ok (.iload 6, 2) := by decide +kernel
theorem d_Model_amnesty_66 : decode M_Model_amnesty.2.1 66 = .ok (.iload 6, 2) := by decide +kernel
theorem d_Model_amnesty_68 : decode M_Model_amnesty.2.1 68 = .ok (.iload_n 2, 1) := by decide +kernel
theorem d_Model_amnesty_69 : decode M_Model_amnesty.2.1 69 = .ok (.iadd, 1) := by decide +kernel
theorem d_Model_amnesty_70 : decode M_Model_amnesty.2.1 70 = .ok (.invokevirtual 418, 3) := by decide +kernel
theorem d_Model_amnesty_73 : decode M_Model_amnesty.2.1 73 = .ok (.istore 7, 2) := by decide +kernel
theorem d_Model_amnesty_75 : decode M_Model_amnesty.2.1 75 = .ok (.iload 7, 2) := by decide +kernel
theorem d_Model_amnesty_77 : decode M_Model_amnesty.2.1 77 = .ok (.iload 5, 2) := by decide +kernel
theorem d_Model_amnesty_79 : decode M_Model_amnesty.2.1 79 = .ok (.if_icmp .gt 6, 3) := by decide +kernel
theorem d_Model_amnesty_82 : decode M_Model_amnesty.2.1 82 = .ok (.goto 11, 3) := by decide +kernel
theorem d_Model_amnesty_85 : decode M_Model_amnesty.2.1 85 = .ok (.iload 6, 2) := by decide +kernel
theorem d_Model_amnesty_87 : decode M_Model_amnesty.2.1 87 = .ok (.istore 4, 2) := by decide +kernel
theorem d_Model_amnesty_89 : decode M_Model_amnesty.2.1 89 = .ok (.iload 7, 2) := by decide +kernel
theorem d_Model_amnesty_91 : decode M_Model_amnesty.2.1 91 = .ok (.istore 5, 2) := by decide +kernel
theorem d_Model_amnesty_93 : decode M_Model_amnesty.2.1 93 = .ok (.iinc 6 1, 3) := by decide +kernel
theorem d_Model_amnesty_96 : decode M_Model_amnesty.2.1 96 = .ok (.goto (-41), 3) := by decide +kernel
theorem d_Model_amnesty_99 : decode M_Model_amnesty.2.1 99 = .ok (.iload_n 3, 1) := by decide +kernel
theorem d_Model_amnesty_100 : decode M_Model_amnesty.2.1 100 = .ok (.ifCond .ne 8, 3) := by decide +kernel
theorem d_Model_amnesty_103 : decode M_Model_amnesty.2.1 103 = .ok (.iload 5, 2) := by decide +kernel
theorem d_Model_amnesty_105 : decode M_Model_amnesty.2.1 105 = .ok (.goto 5, 3) := by decide +kernel
theorem d_Model_amnesty_108 : decode M_Model_amnesty.2.1 108 = .ok (.iload 4, 2) := by decide +kernel
theorem d_Model_amnesty_110 : decode M_Model_amnesty.2.1 110 = .ok (.ireturn, 1) := by decide +kernel
theorem d_Model_week_0 : decode M_Model_week.2.1 0 = .ok (.aload_n 0, 1) := by decide +kernel
theorem d_Model_week_1 : decode M_Model_week.2.1 1 = .ok (.iconst 0, 1) := by decide +kernel
theorem d_Model_week_2 : decode M_Model_week.2.1 2 = .ok (.putfield 114, 3) := by decide +kernel
theorem d_Model_week_5 : decode M_Model_week.2.1 5 = .ok (.aload_n 0, 1) := by decide +kernel
theorem d_Model_week_6 : decode M_Model_week.2.1 6 = .ok (.iload_n 1, 1) := by decide +kernel
theorem d_Model_week_7 : decode M_Model_week.2.1 7 = .ok (.invokevirtual 335, 3) := by decide +kernel
theorem d_Model_week_10 : decode M_Model_week.2.1 10 = .ok (.ifCond .eq 17, 3) := by decide +kernel
theorem d_Model_week_13 : decode M_Model_week.2.1 13 = .ok (.iload_n 2, 1) := by decide +kernel
theorem d_Model_week_14 : decode M_Model_week.2.1 14 = .ok (.i2l, 1) := by decide +kernel
theorem d_Model_week_15 : decode M_Model_week.2.1 15 = .ok (.ldc2_w 421, 3) := by decide +kernel
theorem d_Model_week_18 : decode M_Model_week.2.1 18 = .ok (.ldc2_w 410, 3) := by decide +kernel
theorem d_Model_week_21 : decode M_Model_week.2.1 21 = .ok (.invokestatic 117, 3) := by decide +kernel
theorem d_Model_week_24 : decode M_Model_week.2.1 24 = .ok (.ifCond .ne 9, 3) := by decide +kernel
theorem d_Model_week_27 : decode M_Model_week.2.1 27 = .ok (.aload_n 0, 1) := by decide +kernel
theorem d_Model_week_28 : decode M_Model_week.2.1 28 = .ok (.iconst 1, 1) := by decide +kernel
theorem d_Model_week_29 : decode M_Model_week.2.1 29 = .ok (.invokevirtual 273, 3) := by decide +kernel
theorem d_Model_week_32 : decode M_Model_week.2.1 32 = .ok (.ireturn, 1) := by decide +kernel
theorem d_Model_week_33 : decode M_Model_week.2.1 33 = .ok (.iconst 0, 1) := by decide +kernel
theorem d_Model_week_34 : decode M_Model_week.2.1 34 = .ok (.istore_n 3, 1) := by decide +kernel
theorem d_Model_week_35 : decode M_Model_week.2.1 35 = .ok (.iconst 0, 1) := by decide +kernel
theorem d_Model_week_36 : decode M_Model_week.2.1 36 = .ok (.istore 4, 2) := by decide +kernel
theorem d_Model_week_38 : decode M_Model_week.2.1 38 = .ok (.iload 4, 2) := by decide +kernel
theorem d_Model_week_40 : decode M_Model_week.2.1 40 = .ok (.aload_n 0, 1) := by decide +kernel
theorem d_Model_week_41 : decode M_Model_week.2.1 41 = .ok (.getfield 121, 3) := by decide +kernel
theorem d_Model_week_44 : decode M_Model_week.2.1 44 = .ok (.if_icmp .ge 73, 3) := by decide +kernel
theorem d_Model_week_47 : decode M_Model_week.2.1 47 = .ok (.aload_n 0, 1) := by decide +kernel
theorem d_Model_week_48 : decode M_Model_week.2.1 48 = .ok (.iload 4, 2) := by decide +kernel
theorem d_Model_week_50 : decode M_Model_week.2.1 50 = .ok (.invokevirtual 315, 3) := by decide +kernel
theorem d_Model_week_53 : decode M_Model_week.2.1 53 = .ok (.ifCond .eq 58, 3) := by decide +kernel
theorem d_Model_week_56 : decode M_Model_week.2.1 56 = .ok (.aload_n 0, 1) := by decide +kernel
theorem d_Model_week_57 : decode M_Model_week.2.1 57 = .ok (.iload 4, 2) := by decide +kernel
theorem d_Model_week_59 : decode M_Model_week.2.1 59 = .ok (.iconst 1, 1) := by decide +kernel
theorem d_Model_week_60 : decode M_Model_week.2.1 60 = .ok (.invokevirtual 305, 3) := by decide +kernel
theorem d_Model_week_63 : decode M_Model_week.2.1 63 = .ok (.iload_n 1, 1) := by decide +kernel
theorem d_Model_week_64 : decode M_Model_week.2.1 64 = .ok (.if_icmp .eq 6, 3) := by decide +kernel
theorem d_Model_week_67 : decode M_Model_week.2.1 67 = .ok (.goto 44, 3) := by decide +kernel
theorem d_Model_week_70 : decode M_Model_week.2.1 70 = .ok (.aload_n 0, 1) := by decide +kernel
theorem d_Model_week_71 : decode M_Model_week.2.1 71 = .ok (.iload 4, 2) := by decide +kernel
theorem d_Model_week_73 : decode M_Model_week.2.1 73 = .ok (.invokevirtual 318, 3) := by decide +kernel
theorem d_Model_week_76 : decode M_Model_week.2.1 76 = .ok (.aload_n 0, 1) := by decide +kernel
theorem d_Model_week_77 : decode M_Model_week.2.1 77 = .ok (.getfield 51, 3) := by decide +kernel
theorem d_Model_week_80 : decode M_Model_week.2.1 80 = .ok (.iconst 3, 1) := by decide +kernel
theorem d_Model_week_81 : decode M_Model_week.2.1 81 = .ok (.iaload, 1) := by decide +kernel
theorem d_Model_week_82 : decode M_Model_week.2.1 82 = .ok (.idiv, 1) := by decide +kernel
theorem d_Model_week_83 : decode M_Model_week.2.1 83 = .ok (.istore 5, 2) := by decide +kernel
theorem d_Model_week_85 : decode M_Model_week.2.1 85 = .ok (.iload_n 3, 1) := by decide +kernel
theorem d_Model_week_86 : decode M_Model_week.2.1 86 = .ok (.iload 5, 2) := by decide +kernel
theorem d_Model_week_88 : decode M_Model_week.2.1 88 = .ok (.iload_n 2, 1) := by decide +kernel
theorem d_Model_week_89 : decode M_Model_week.2.1 89 = .ok (.if_icmp .eq 15, 3) := by decide +kernel
theorem d_Model_week_92 : decode M_Model_week.2.1 92 = .ok (.iload_n 2, 1) := by decide +kernel
theorem d_Model_week_93 : decode M_Model_week.2.1 93 = .ok (.iconst (-1), 1) := by decide +kernel
theorem d_Model_week_94 : decode M_Model_week.2.1 94 = .ok (.if_icmp .ne 14, 3) := by decide +kernel
theorem d_Model_week_97 : decode M_Model_week.2.1 97 = .ok (.iload 5, 2) := by decide +kernel
theorem d_Model_week_99 : decode M_Model_week.2.1 99 = .ok (.bipush 7, 2) := by decide +kernel
theorem d_Model_week_101 : decode M_Model_week.2.1 101 = .ok (.if_icmp .lt 7, 3) := by decide +kernel
theorem d_Model_week_104 : decode M_Model_week.2.1 104 = .ok (.iconst 1, 1) := by decide +kernel
theorem d_Model_week_105 : decode M_Model_week.2.1 105 = .ok (.goto 4, 3) := by decide +kernel
theorem d_Model_week_108 : decode M_Model_week.2.1 108 = .ok (.iconst 0, 1) := by decide +kernel
theorem d_Model_week_109 : decode M_Model_week.2.1 109 = .ok (.iadd, 1) := by decide +kernel
theorem d_Model_week_110 : decode M_Model_week.2.1 110 = .ok (.istore_n 3, 1) := by decide +kernel
theorem d_Model_week_111 : decode M_Model_week.2.1 111 = .ok (.iinc 4 1, 3) := by decide +kernel
theorem d_Model_week_114 : decode M_Model_week.2.1 114 = .ok (.goto (-76), 3) := by decide +kernel
theorem d_Model_week_117 : decode M_Model_week.2.1 117 = .ok (.iload_n 3, 1) := by decide +kernel
theorem d_Model_week_118 : decode M_Model_week.2.1 118 = .ok (.ireturn, 1) := by decide +kernel
theorem d_Model_oldest_0 : decode M_Model_oldest.2.1 0 = .ok (.aload_n 0, 1) := by decide +kernel
theorem d_Model_oldest_1 : decode M_Model_oldest.2.1 1 = .ok (.iconst 0, 1) := by decide +kernel
theorem d_Model_oldest_2 : decode M_Model_oldest.2.1 2 = .ok (.putfield 114, 3) := by decide +kernel
theorem d_Model_oldest_5 : decode M_Model_oldest.2.1 5 = .ok (.iload_n 1, 1) := by decide +kernel
theorem d_Model_oldest_6 : decode M_Model_oldest.2.1 6 = .ok (.i2l, 1) := by decide +kernel
theorem d_Model_oldest_7 : decode M_Model_oldest.2.1 7 = .ok (.lconst 0, 1) := by decide +kernel
theorem d_Model_oldest_8 : decode M_Model_oldest.2.1 8 = .ok (.ldc2_w 374, 3) := by decide +kernel
theorem d_Model_oldest_11 : decode M_Model_oldest.2.1 11 = .ok (.invokestatic 117, 3) := by decide +kernel
theorem d_Model_oldest_14 : decode M_Model_oldest.2.1 14 = .ok (.ifCond .eq 10, 3) := by decide +kernel
theorem d_Model_oldest_17 : decode M_Model_oldest.2.1 17 = .ok (.iload_n 2, 1) := by decide +kernel
theorem d_Model_oldest_18 : decode M_Model_oldest.2.1 18 = .ok (.invokestatic 376, 3) := by decide +kernel
theorem d_Model_oldest_21 : decode M_Model_oldest.2.1 21 = .ok (.ifCond .ne 9, 3) := by decide +kernel
theorem d_Model_oldest_24 : decode M_Model_oldest.2.1 24 = .ok (.aload_n 0, 1) := by decide +kernel
theorem d_Model_oldest_25 : decode M_Model_oldest.2.1 25 = .ok (.iconst 1, 1) := by decide +kernel
theorem d_Model_oldest_26 : decode M_Model_oldest.2.1 26 = .ok (.invokevirtual 273, 3) := by decide +kernel
theorem d_Model_oldest_29 : decode M_Model_oldest.2.1 29 = .ok (.ireturn, 1) := by decide +kernel
theorem d_Model_oldest_30 : decode M_Model_oldest.2.1 30 = .ok (.iconst (-1), 1) := by decide +kernel
theorem d_Model_oldest_31 : decode M_Model_oldest.2.1 31 = .ok (.istore_n 3, 1) := by decide +kernel
theorem d_Model_oldest_32 : decode M_Model_oldest.2.1 32 = .ok (.iconst 0, 1) := by decide +kernel
theorem d_Model_oldest_33 : decode M_Model_oldest.2.1 33 = .ok (.istore 4, 2) := by decide +kernel
theorem d_Model_oldest_35 : decode M_Model_oldest.2.1 35 = .ok (.iload 4, 2) := by decide +kernel
theorem d_Model_oldest_37 : decode M_Model_oldest.2.1 37 = .ok (.aload_n 0, 1) := by decide +kernel
theorem d_Model_oldest_38 : decode M_Model_oldest.2.1 38 = .ok (.getfield 121, 3) := by decide +kernel
theorem d_Model_oldest_41 : decode M_Model_oldest.2.1 41 = .ok (.if_icmp .ge 44, 3) := by decide +kernel
theorem d_Model_oldest_44 : decode M_Model_oldest.2.1 44 = .ok (.aload_n 0, 1) := by decide +kernel
theorem d_Model_oldest_45 : decode M_Model_oldest.2.1 45 = .ok (.iload 4, 2) := by decide +kernel
theorem d_Model_oldest_47 : decode M_Model_oldest.2.1 47 = .ok (.iload_n 1, 1) := by decide +kernel
theorem d_Model_oldest_48 : decode M_Model_oldest.2.1 48 = .ok (.iload_n 2, 1) := by decide +kernel
theorem d_Model_oldest_49 : decode M_Model_oldest.2.1 49 = .ok (.invokevirtual 396, 3) := by decide +kernel
theorem d_Model_oldest_52 : decode M_Model_oldest.2.1 52 = .ok (.ifCond .eq 27, 3) := by decide +kernel
theorem d_Model_oldest_55 : decode M_Model_oldest.2.1 55 = .ok (.iload_n 3, 1) := by decide +kernel
theorem d_Model_oldest_56 : decode M_Model_oldest.2.1 56 = .ok (.iconst (-1), 1) := by decide +kernel
theorem d_Model_oldest_57 : decode M_Model_oldest.2.1 57 = .ok (.if_icmp .eq 19, 3) := by decide +kernel
theorem d_Model_oldest_60 : decode M_Model_oldest.2.1 60 = .ok (.aload_n 0, 1) := by decide +kernel
theorem d_Model_oldest_61 : decode M_Model_oldest.2.1 61 = .ok (.iload 4, 2) := by decide +kernel
theorem d_Model_oldest_63 : decode M_Model_oldest.2.1 63 = .ok (.iconst 2, 1) := by decide +kernel
theorem d_Model_oldest_64 : decode M_Model_oldest.2.1 64 = .ok (.invokevirtual 305, 3) := by decide +kernel
theorem d_Model_oldest_67 : decode M_Model_oldest.2.1 67 = .ok (.aload_n 0, 1) := by decide +kernel
theorem d_Model_oldest_68 : decode M_Model_oldest.2.1 68 = .ok (.iload_n 3, 1) := by decide +kernel
theorem d_Model_oldest_69 : decode M_Model_oldest.2.1 69 = .ok (.iconst 2, 1) := by decide +kernel
theorem d_Model_oldest_70 : decode M_Model_oldest.2.1 70 = .ok (.invokevirtual 305, 3) := by decide +kernel
theorem d_Model_oldest_73 : decode M_Model_oldest.2.1 73 = .ok (.if_icmp .ge 6, 3) := by decide +kernel
theorem d_Model_oldest_76 : decode M_Model_oldest.2.1 76 = .ok (.iload 4, 2) := by decide +kernel
theorem d_Model_oldest_78 : decode M_Model_oldest.2.1 78 = .ok (.istore_n 3, 1) := by decide +kernel
theorem d_Model_oldest_79 : decode M_Model_oldest.2.1 79 = .ok (.iinc 4 1, 3) := by decide +kernel
theorem d_Model_oldest_82 : decode M_Model_oldest.2.1 82 = .ok (.goto (-47), 3) := by decide +kernel
theorem d_Model_oldest_85 : decode M_Model_oldest.2.1 85 = .ok (.iload_n 3, 1) := by decide +kernel
theorem d_Model_oldest_86 : decode M_Model_oldest.2.1 86 = .ok (.ireturn, 1) := by decide +kernel
theorem d_Model_believers_0 : decode M_Model_believers.2.1 0 = .ok (.iconst 0, 1) := by decide +kernel
theorem d_Model_believers_1 : decode M_Model_believers.2.1 1 = .ok (.istore_n 3, 1) := by decide +kernel
theorem d_Model_believers_2 : decode M_Model_believers.2.1 2 = .ok (.iconst 0, 1) := by decide +kernel
theorem d_Model_believers_3 : decode M_Model_believers.2.1 3 = .ok (.istore 4, 2) := by decide +kernel
theorem d_Model_believers_5 : decode M_Model_believers.2.1 5 = .ok (.iload 4, 2) := by decide +kernel
theorem d_Model_believers_7 : decode M_Model_believers.2.1 7 = .ok (.aload_n 0, 1) := by decide +kernel
theorem d_Model_believers_8 : decode M_Model_believers.2.1 8 = .ok (.getfield 121, 3) := by decide +kernel
theorem d_Model_believers_11 : decode M_Model_believers.2.1 11 = .ok (.if_icmp .ge 43, 3) := by decide +kernel
theorem d_Model_believers_14 : decode M_Model_believers.2.1 14 = .ok (.aload_n 0, 1) := by decide +kernel
theorem d_Model_believers_15 : decode M_Model_believers.2.1 15 = .ok (.iload 4, 2) := by decide +kernel
theorem d_Model_believers_17 : decode M_Model_believers.2.1 17 = .ok (.iconst 0, 1) := by decide +kernel
theorem d_Model_believers_18 : decode M_Model_believers.2.1 18 = .ok (.iload_n 1, 1) := by decide +kernel
theorem d_Model_believers_19 : decode M_Model_believers.2.1 19 = .ok (.invokevirtual 396, 3) := by decide +kernel
theorem d_Model_believers_22 : decode M_Model_believers.2.1 22 = .ok (.ifCond .eq 26, 3) := by decide +kernel
theorem d_Model_believers_25 : decode M_Model_believers.2.1 25 = .ok (.aload_n 0, 1) := by decide +kernel
theorem d_Model_believers_26 : decode M_Model_believers.2.1 26 = .ok (.iload 4, 2) := by decide +kernel
theorem d_Model_believers_28 : decode M_Model_believers.2.1 28 = .ok (.iconst 4, 1) := by decide +kernel
theorem d_Model_believers_29 : decode M_Model_believers.2.1 29 = .ok (.invokevirtual 305, 3) := by decide +kernel
theorem d_Model_believers_32 : decode M_Model_believers.2.1 32 = .ok (.iload_n 2, 1) := by decide +kernel
theorem d_Model_believers_33 : decode M_Model_believers.2.1 33 = .ok (.if_icmp .ne 15, 3) := by decide +kernel
theorem d_Model_believers_36 : decode M_Model_believers.2.1 36 = .ok (.iload_n 3, 1) := by decide +kernel
theorem d_Model_believers_37 : decode M_Model_believers.2.1 37 = .ok (.iconst 1, 1) := by decide +kernel
theorem d_Model_believers_38 : decode M_Model_believers.2.1 38 = .ok (.aload_n 0, 1) := by decide +kernel
theorem d_Model_believers_39 : decode M_Model_believers.2.1 39 = .ok (.iload 4, 2) := by decide +kernel
theorem d_Model_believers_41 : decode M_Model_believers.2.1 41 = .ok (.iconst 1, 1) := by decide +kernel
theorem d_Model_believers_42 : decode M_Model_believers.2.1 42 = .ok (.invokevirtual 305, 3) := by decide +kernel
theorem d_Model_believers_45 : decode M_Model_believers.2.1 45 = .ok (.ishl, 1) := by decide +kernel
theorem d_Model_believers_46 : decode M_Model_believers.2.1 46 = .ok (.ior, 1) := by decide +kernel
theorem d_Model_believers_47 : decode M_Model_believers.2.1 47 = .ok (.istore_n 3, 1) := by decide +kernel
theorem d_Model_believers_48 : decode M_Model_believers.2.1 48 = .ok (.iinc 4 1, 3) := by decide +kernel
theorem d_Model_believers_51 : decode M_Model_believers.2.1 51 = .ok (.goto (-46), 3) := by decide +kernel
theorem d_Model_believers_54 : decode M_Model_believers.2.1 54 = .ok (.iload_n 3, 1) := by decide +kernel
theorem d_Model_believers_55 : decode M_Model_believers.2.1 55 = .ok (.invokestatic 332, 3) := by decide +kernel
theorem d_Model_believers_58 : decode M_Model_believers.2.1 58 = .ok (.ireturn, 1) := by decide +kernel
theorem d_Model_believed_0 : decode M_Model_believed.2.1 0 = .ok (.aload_n 0, 1) := by decide +kernel
theorem d_Model_believed_1 : decode M_Model_believed.2.1 1 = .ok (.iconst 0, 1) := by decide +kernel
theorem d_Model_believed_2 : decode M_Model_believed.2.1 2 = .ok (.putfield 114, 3) := by decide +kernel
theorem d_Model_believed_5 : decode M_Model_believed.2.1 5 = .ok (.iload_n 1, 1) := by decide +kernel
theorem d_Model_believed_6 : decode M_Model_believed.2.1 6 = .ok (.invokestatic 376, 3) := by decide +kernel
theorem d_Model_believed_9 : decode M_Model_believed.2.1 9 = .ok (.ifCond .ne 9, 3) := by decide +kernel
theorem d_Model_believed_12 : decode M_Model_believed.2.1 12 = .ok (.aload_n 0, 1) := by decide +kernel
theorem d_Model_believed_13 : decode M_Model_believed.2.1 13 = .ok (.iconst 1, 1) := by decide +kernel
theorem d_Model_believed_14 : decode M_Model_believed.2.1 14 = .ok (.invokevirtual 273, 3) := by decide +kernel
theorem d_Model_believed_17 : decode M_Model_believed.2.1 17 = .ok (.ireturn, 1) := by decide +kernel
theorem d_Model_believed_18 : decode M_Model_believed.2.1 18 = .ok (.iconst (-1), 1) := by decide +kernel
theorem d_Model_believed_19 : decode M_Model_believed.2.1 19 = .ok (.istore_n 2, 1) := by decide +kernel
theorem d_Model_believed_20 : decode M_Model_believed.2.1 20 = .ok (.iconst 0, 1) := by decide +kernel
theorem d_Model_believed_21 : decode M_Model_believed.2.1 21 = .ok (.istore_n 3, 1) := by decide +kernel
theorem d_Model_believed_22 : decode M_Model_believed.2.1 22 = .ok (.iconst 0, 1) := by decide +kernel
theorem d_Model_believed_23 : decode M_Model_believed.2.1 23 = .ok (.istore 4, 2) := by decide +kernel
theorem d_Model_believed_25 : decode M_Model_believed.2.1 25 = .ok (.iload 4, 2) := by decide +kernel
theorem d_Model_believed_27 : decode M_Model_believed.2.1 27 = .ok (.aload_n 0, 1) := by decide +kernel
theorem d_Model_believed_28 : decode M_Model_believed.2.1 28 = .ok (.getfield 121, 3) := by decide +kernel
theorem d_Model_believed_31 : decode M_Model_believed.2.1 31 = .ok (.if_icmp .ge 68, 3) := by decide +kernel
theorem d_Model_believed_34 : decode M_Model_believed.2.1 34 = .ok (.aload_n 0, 1) := by decide +kernel
theorem d_Model_believed_35 : decode M_Model_believed.2.1 35 = .ok (.iload 4, 2) := by decide +kernel
theorem d_Model_believed_37 : decode M_Model_believed.2.1 37 = .ok (.iconst 0, 1) := by decide +kernel
theorem d_Model_believed_38 : decode M_Model_believed.2.1 38 = .ok (.iload_n 1, 1) := by decide +kernel
theorem d_Model_believed_39 : decode M_Model_believed.2.1 39 = .ok (.invokevirtual 396, 3) := by decide +kernel
theorem d_Model_believed_42 : decode M_Model_believed.2.1 42 = .ok (.ifCond .ne 6, 3) := by decide +kernel
theorem d_Model_believed_45 : decode M_Model_believed.2.1 45 = .ok (.goto 48, 3) := by decide +kernel
theorem d_Model_believed_48 : decode M_Model_believed.2.1 48 = .ok (.aload_n 0, 1) := by decide +kernel
theorem d_Model_believed_49 : decode M_Model_believed.2.1 49 = .ok (.iload 4, 2) := by decide +kernel
theorem d_Model_believed_51 : decode M_Model_believed.2.1 51 = .ok (.iconst 4, 1) := by decide +kernel
theorem d_Model_believed_52 : decode M_Model_believed.2.1 52 = .ok (.invokevirtual 305, 3) := by decide +kernel
theorem d_Model_believed_55 : decode M_Model_believed.2.1 55 = .ok (.istore 5, 2) := by decide +kernel
theorem d_Model_believed_57 : decode M_Model_believed.2.1 57 = .ok (.aload_n 0, 1) := by decide +kernel
theorem d_Model_believed_58 : decode M_Model_believed.2.1 58 = .ok (.iload_n 1, 1) := by decide +kernel
theorem d_Model_believed_59 : decode M_Model_believed.2.1 59 = .ok (.iload 5, 2) := by decide +kernel
theorem d_Model_believed_61 : decode M_Model_believed.2.1 61 = .ok (.invokevirtual 423, 3) := by decide +kernel
theorem d_Model_believed_64 : decode M_Model_believed.2.1 64 = .ok (.istore 6, 2) := by decide +kernel
theorem d_Model_believed_66 : decode M_Model_believed.2.1 66 = .ok (.iload 6, 2) := by decide +kernel
theorem d_Model_believed_68 : decode M_Model_believed.2.1 68 = .ok (.iload_n 3, 1) := by decide +kernel
theorem d_Model_believed_69 : decode M_Model_believed.2.1 69 = .ok (.if_icmp .lt 24, 3) := by decide +kernel
theorem d_Model_believed_72 : decode M_Model_believed.2.1 72 = .ok (.iload 6, 2) := by decide +kernel
theorem d_Model_believed_74 : decode M_Model_believed.2.1 74 = .ok (.iload_n 3, 1) := by decide +kernel
theorem d_Model_believed_75 : decode M_Model_believed.2.1 75 = .ok (.if_icmp .ne 12, 3) := by decide +kernel
theorem d_Model_believed_78 : decode M_Model_believed.2.1 78 = .ok (.iload 5, 2) := by decide +kernel
theorem d_Model_believed_80 : decode M_Model_believed.2.1 80 = .ok (.iload_n 2, 1) := by decide +kernel
theorem d_Model_believed_81 : decode M_Model_believed.2.1 81 = .ok (.if_icmp .lt 6, 3) := by decide +kernel
theorem d_Model_believed_84 : decode M_Model_believed.2.1 84 = .ok (.goto 9, 3) := by decide +kernel
theorem d_Model_believed_87 : decode M_Model_believed.2.1 87 = .ok (.iload 5, 2) := by decide +kernel
theorem d_Model_believed_89 : decode M_Model_believed.2.1 89 = .ok (.istore_n 2, 1) := by decide +kernel
theorem d_Model_believed_90 : decode M_Model_believed.2.1 90 = .ok (.iload 6, 2) := by decide +kernel
theorem d_Model_believed_92 : decode M_Model_believed.2.1 92 = .ok (.istore_n 3, 1) := by decide +kernel
theorem d_Model_believed_93 : decode M_Model_believed.2.1 93 = .ok (.iinc 4 1, 3) := by decide +kernel
theorem d_Model_believed_96 : decode M_Model_believed.2.1 96 = .ok (.goto (-71), 3) := by decide +kernel
theorem d_Model_believed_99 : decode M_Model_believed.2.1 99 = .ok (.iload_n 2, 1) := by decide +kernel
theorem d_Model_believed_100 : decode M_Model_believed.2.1 100 = .ok (.ireturn, 1) := by decide +kernel
theorem d_Model_until_0 : decode M_Model_until.2.1 0 = .ok (.aload_n 0, 1) := by decide +kernel
theorem d_Model_until_1 : decode M_Model_until.2.1 1 = .ok (.iconst 0, 1) := by decide +kernel
theorem d_Model_until_2 : decode M_Model_until.2.1 2 = .ok (.putfield 114, 3) := by decide +kernel
theorem d_Model_until_5 : decode M_Model_until.2.1 5 = .ok (.aload_n 0, 1) := by decide +kernel
theorem d_Model_until_6 : decode M_Model_until.2.1 6 = .ok (.iload_n 1, 1) := by decide +kernel
theorem d_Model_until_7 : decode M_Model_until.2.1 7 = .ok (.invokevirtual 341, 3) := by decide +kernel
theorem d_Model_until_10 : decode M_Model_until.2.1 10 = .ok (.ifCond .ne 9, 3) := by decide +kernel
theorem d_Model_until_13 : decode M_Model_until.2.1 13 = .ok (.aload_n 0, 1) := by decide +kernel
theorem d_Model_until_14 : decode M_Model_until.2.1 14 = .ok (.iconst 1, 1) := by decide +kernel
theorem d_Model_until_15 : decode M_Model_until.2.1 15 = .ok (.invokevirtual 273, 3) := by decide +kernel
theorem d_Model_until_18 : decode M_Model_until.2.1 18 = .ok (.ireturn, 1) := by decide +kernel
theorem d_Model_until_19 : decode M_Model_until.2.1 19 = .ok (.aload_n 0, 1) := by decide +kernel
theorem d_Model_until_20 : decode M_Model_until.2.1 20 = .ok (.iload_n 1, 1) := by decide +kernel
theorem d_Model_until_21 : decode M_Model_until.2.1 21 = .ok (.iconst 1, 1) := by decide +kernel
theorem d_Model_until_22 : decode M_Model_until.2.1 22 = .ok (.invokevirtual 305, 3) := by decide +kernel
theorem d_Model_until_25 : decode M_Model_until.2.1 25 = .ok (.istore_n 2, 1) := by decide +kernel
theorem d_Model_until_26 : decode M_Model_until.2.1 26 = .ok (.aload_n 0, 1) := by decide +kernel
theorem d_Model_until_27 : decode M_Model_until.2.1 27 = .ok (.iload_n 1, 1) := by decide +kernel
theorem d_Model_until_28 : decode M_Model_until.2.1 28 = .ok (.invokevirtual 315, 3) := by decide +kernel
theorem d_Model_until_31 : decode M_Model_until.2.1 31 = .ok (.ifCond .ne 7, 3) := by decide +kernel
theorem d_Model_until_34 : decode M_Model_until.2.1 34 = .ok (.iconst (-1), 1) := by decide +kernel
theorem d_Model_until_35 : decode M_Model_until.2.1 35 = .ok (.goto 40, 3) := by decide +kernel
theorem d_Model_until_38 : decode M_Model_until.2.1 38 = .ok (.aload_n 0, 1) := by decide +kernel
theorem d_Model_until_39 : decode M_Model_until.2.1 39 = .ok (.getfield 289, 3) := by decide +kernel
theorem d_Model_until_42 : decode M_Model_until.2.1 42 = .ok (.iload_n 2, 1) := by decide +kernel
theorem d_Model_until_43 : decode M_Model_until.2.1 43 = .ok (.invokestatic 308, 3) := by decide +kernel
theorem d_Model_until_46 : decode M_Model_until.2.1 46 = .ok (.ifCond .eq 8, 3) := by decide +kernel
theorem d_Model_until_49 : decode M_Model_until.2.1 49 = .ok (.bipush (-2), 2) := by decide +kernel
theorem d_Model_until_51 : decode M_Model_until.2.1 51 = .ok (.goto 24, 3) := by decide +kernel
theorem d_Model_until_54 : decode M_Model_until.2.1 54 = .ok (.aload_n 0, 1) := by decide +kernel
theorem d_Model_until_55 : decode M_Model_until.2.1 55 = .ok (.getfield 55, 3) := by decide +kernel
theorem d_Model_until_58 : decode M_Model_until.2.1 58 = .ok (.iload_n 2, 1) := by decide +kernel
theorem d_Model_until_59 : decode M_Model_until.2.1 59 = .ok (.iaload, 1) := by decide +kernel
theorem d_Model_until_60 : decode M_Model_until.2.1 60 = .ok (.aload_n 0, 1) := by decide +kernel
theorem d_Model_until_61 : decode M_Model_until.2.1 61 = .ok (.getfield 51, 3) := by decide +kernel
theorem d_Model_until_64 : decode M_Model_until.2.1 64 = .ok (.iconst 1, 1) := by decide +kernel
theorem d_Model_until_65 : decode M_Model_until.2.1 65 = .ok (.iaload, 1) := by decide +kernel
theorem d_Model_until_66 : decode M_Model_until.2.1 66 = .ok (.invokestatic 239, 3) := by decide +kernel
theorem d_Model_until_69 : decode M_Model_until.2.1 69 = .ok (.aload_n 0, 1) := by decide +kernel
theorem d_Model_until_70 : decode M_Model_until.2.1 70 = .ok (.iload_n 1, 1) := by decide +kernel
theorem d_Model_until_71 : decode M_Model_until.2.1 71 = .ok (.invokevirtual 318, 3) := by decide +kernel
theorem d_Model_until_74 : decode M_Model_until.2.1 74 = .ok (.isub, 1) := by decide +kernel
theorem d_Model_until_75 : decode M_Model_until.2.1 75 = .ok (.ireturn, 1) := by decide +kernel
theorem d_Model_doomed_0 : decode M_Model_doomed.2.1 0 = .ok (.aload_n 0, 1) := by decide +kernel
theorem d_Model_doomed_1 : decode M_Model_doomed.2.1 1 = .ok (.iconst 0, 1) := by decide +kernel
theorem d_Model_doomed_2 : decode M_Model_doomed.2.1 2 = .ok (.putfield 114, 3) := by decide +kernel
theorem d_Model_doomed_5 : decode M_Model_doomed.2.1 5 = .ok (.iload_n 1, 1) := by decide +kernel
theorem d_Model_doomed_6 : decode M_Model_doomed.2.1 6 = .ok (.i2l, 1) := by decide +kernel
theorem d_Model_doomed_7 : decode M_Model_doomed.2.1 7 = .ok (.lconst 0, 1) := by decide +kernel
theorem d_Model_doomed_8 : decode M_Model_doomed.2.1 8 = .ok (.ldc2_w 388, 3) := by decide +kernel
theorem d_Model_doomed_11 : decode M_Model_doomed.2.1 11 = .ok (.invokestatic 117, 3) := by decide +kernel
theorem d_Model_doomed_14 : decode M_Model_doomed.2.1 14 = .ok (.ifCond .ne 9, 3) := by decide +kernel
theorem d_Model_doomed_17 : decode M_Model_doomed.2.1 17 = .ok (.aload_n 0, 1) := by decide +kernel
theorem d_Model_doomed_18 : decode M_Model_doomed.2.1 18 = .ok (.iconst 1, 1) := by decide +kernel
theorem d_Model_doomed_19 : decode M_Model_doomed.2.1 19 = .ok (.invokevirtual 273, 3) := by decide +kernel
theorem d_Model_doomed_22 : decode M_Model_doomed.2.1 22 = .ok (.ireturn, 1) := by decide +kernel
theorem d_Model_doomed_23 : decode M_Model_doomed.2.1 23 = .ok (.aload_n 0, 1) := by decide +kernel
theorem d_Model_doomed_24 : decode M_Model_doomed.2.1 24 = .ok (.invokevirtual 329, 3) := by decide +kernel
theorem d_Model_doomed_27 : decode M_Model_doomed.2.1 27 = .ok (.istore_n 2, 1) := by decide +kernel
theorem d_Model_doomed_28 : decode M_Model_doomed.2.1 28 = .ok (.aload_n 0, 1) := by decide +kernel
theorem d_Model_doomed_29 : decode M_Model_doomed.2.1 29 = .ok (.aload_n 0, 1) := by decide +kernel
theorem d_Model_doomed_30 : decode M_Model_doomed.2.1 30 = .ok (.getfield 90, 3) := by decide +kernel
theorem d_Model_doomed_33 : decode M_Model_doomed.2.1 33 = .ok (.iconst 0, 1) := by decide +kernel
theorem d_Model_doomed_34 : decode M_Model_doomed.2.1 34 = .ok (.invokevirtual 359, 3) := by decide +kernel
theorem d_Model_doomed_37 : decode M_Model_doomed.2.1 37 = .ok (.iconst 0, 1) := by decide +kernel
theorem d_Model_doomed_38 : decode M_Model_doomed.2.1 38 = .ok (.istore_n 3, 1) := by decide +kernel
theorem d_Model_doomed_39 : decode M_Model_doomed.2.1 39 = .ok (.iload_n 3, 1) := by decide +kernel
theorem d_Model_doomed_40 : decode M_Model_doomed.2.1 40 = .ok (.iload_n 1, 1) := by decide +kernel
theorem d_Model_doomed_41 : decode M_Model_doomed.2.1 41 = .ok (.if_icmp .ge 13, 3) := by decide +kernel
theorem d_Model_doomed_44 : decode M_Model_doomed.2.1 44 = .ok (.aload_n 0, 1) := by decide +kernel
theorem d_Model_doomed_45 : decode M_Model_doomed.2.1 45 = .ok (.invokevirtual 371, 3) := by decide +kernel
theorem d_Model_doomed_48 : decode M_Model_doomed.2.1 48 = .ok (.iinc 3 1, 3) := by decide +kernel
theorem d_Model_doomed_51 : decode M_Model_doomed.2.1 51 = .ok (.goto (-12), 3) := by decide +kernel
theorem d_Model_doomed_54 : decode M_Model_doomed.2.1 54 = .ok (.aload_n 0, 1) := by decide +kernel
theorem d_Model_doomed_55 : decode M_Model_doomed.2.1 55 = .ok (.invokevirtual 329, 3) := by decide +kernel
theorem d_Model_doomed_58 : decode M_Model_doomed.2.1 58 = .ok (.istore_n 3, 1) := by decide +kernel
theorem d_Model_doomed_59 : decode M_Model_doomed.2.1 59 = .ok (.aload_n 0, 1) := by decide +kernel
theorem d_Model_doomed_60 : decode M_Model_doomed.2.1 60 = .ok (.aload_n 0, 1) := by decide +kernel
theorem d_Model_doomed_61 : decode M_Model_doomed.2.1 61 = .ok (.getfield 90, 3) := by decide +kernel
theorem d_Model_doomed_64 : decode M_Model_doomed.2.1 64 = .ok (.iconst 0, 1) := by decide +kernel
theorem d_Model_doomed_65 : decode M_Model_doomed.2.1 65 = .ok (.invokevirtual 393, 3) := by decide +kernel
theorem d_Model_doomed_68 : decode M_Model_doomed.2.1 68 = .ok (.iload_n 2, 1) := by decide +kernel
theorem d_Model_doomed_69 : decode M_Model_doomed.2.1 69 = .ok (.iload_n 3, 1) := by decide +kernel
theorem d_Model_doomed_70 : decode M_Model_doomed.2.1 70 = .ok (.iconst (-1), 1) := by decide +kernel
theorem d_Model_doomed_71 : decode M_Model_doomed.2.1 71 = .ok (.ixor, 1) := by decide +kernel
theorem d_Model_doomed_72 : decode M_Model_doomed.2.1 72 = .ok (.iand, 1) := by decide +kernel
theorem d_Model_doomed_73 : decode M_Model_doomed.2.1 73 = .ok (.invokestatic 332, 3) := by decide +kernel
theorem d_Model_doomed_76 : decode M_Model_doomed.2.1 76 = .ok (.ireturn, 1) := by decide +kernel
theorem d_Model_safest_0 : decode M_Model_safest.2.1 0 = .ok (.aload_n 0, 1) := by decide +kernel
theorem d_Model_safest_1 : decode M_Model_safest.2.1 1 = .ok (.iconst 0, 1) := by decide +kernel
theorem d_Model_safest_2 : decode M_Model_safest.2.1 2 = .ok (.putfield 114, 3) := by decide +kernel
theorem d_Model_safest_5 : decode M_Model_safest.2.1 5 = .ok (.iconst (-1), 1) := by decide +kernel
theorem d_Model_safest_6 : decode M_Model_safest.2.1 6 = .ok (.istore_n 1, 1) := by decide +kernel
theorem d_Model_safest_7 : decode M_Model_safest.2.1 7 = .ok (.iconst 0, 1) := by decide +kernel
theorem d_Model_safest_8 : decode M_Model_safest.2.1 8 = .ok (.istore_n 2, 1) := by decide +kernel
theorem d_Model_safest_9 : decode M_Model_safest.2.1 9 = .ok (.iload_n 2, 1) := by decide +kernel
theorem d_Model_safest_10 : decode M_Model_safest.2.1 10 = .ok (.aload_n 0, 1) := by decide +kernel
theorem d_Model_safest_11 : decode M_Model_safest.2.1 11 = .ok (.getfield 51, 3) := by decide +kernel
theorem d_Model_safest_14 : decode M_Model_safest.2.1 14 = .ok (.iconst 0, 1) := by decide +kernel
theorem d_Model_safest_15 : decode M_Model_safest.2.1 15 = .ok (.iaload, 1) := by decide +kernel
theorem d_Model_safest_16 : decode M_Model_safest.2.1 16 = .ok (.if_icmp .ge 60, 3) := by decide +kernel
theorem d_Model_safest_19 : decode M_Model_safest.2.1 19 = .ok (.aload_n 0, 1) := by decide +kernel
theorem d_Model_safest_20 : decode M_Model_safest.2.1 20 = .ok (.getfield 289, 3) := by decide +kernel
theorem d_Model_safest_23 : decode M_Model_safest.2.1 23 = .ok (.iload_n 2, 1) := by decide +kernel
theorem d_Model_safest_24 : decode M_Model_safest.2.1 24 = .ok (.invokestatic 308, 3) := by decide +kernel
theorem d_Model_safest_27 : decode M_Model_safest.2.1 27 = .ok (.ifCond .ne 43, 3) := by decide +kernel
theorem d_Model_safest_30 : decode M_Model_safest.2.1 30 = .ok (.iload_n 1, 1) := by decide +kernel
theorem d_Model_safest_31 : decode M_Model_safest.2.1 31 = .ok (.iconst (-1), 1) := by decide +kernel
theorem d_Model_safest_32 : decode M_Model_safest.2.1 32 = .ok (.if_icmp .eq 36, 3) := by decide +kernel
theorem d_Model_safest_35 : decode M_Model_safest.2.1 35 = .ok (.aload_n 0, 1) := by decide +kernel
theorem d_Model_safest_36 : decode M_Model_safest.2.1 36 = .ok (.getfield 55, 3) := by decide +kernel
theorem d_Model_safest_39 : decode M_Model_safest.2.1 39 = .ok (.iload_n 2, 1) := by decide +kernel
theorem d_Model_safest_40 : decode M_Model_safest.2.1 40 = .ok (.iaload, 1) := by decide +kernel
theorem d_Model_safest_41 : decode M_Model_safest.2.1 41 = .ok (.aload_n 0, 1) := by decide +kernel
theorem d_Model_safest_42 : decode M_Model_safest.2.1 42 = .ok (.getfield 51, 3) := by decide +kernel
theorem d_Model_safest_45 : decode M_Model_safest.2.1 45 = .ok (.iconst 1, 1) := by decide +kernel
theorem d_Model_safest_46 : decode M_Model_safest.2.1 46 = .ok (.iaload, 1) := by decide +kernel
theorem d_Model_safest_47 : decode M_Model_safest.2.1 47 = .ok (.invokestatic 239, 3) := by decide +kernel
theorem d_Model_safest_50 : decode M_Model_safest.2.1 50 = .ok (.aload_n 0, 1) := by decide +kernel
theorem d_Model_safest_51 : decode M_Model_safest.2.1 51 = .ok (.getfield 55, 3) := by decide +kernel
theorem d_Model_safest_54 : decode M_Model_safest.2.1 54 = .ok (.iload_n 1, 1) := by decide +kernel
theorem d_Model_safest_55 : decode M_Model_safest.2.1 55 = .ok (.iaload, 1) := by decide +kernel
theorem d_Model_safest_56 : decode M_Model_safest.2.1 56 = .ok (.aload_n 0, 1) := by decide +kernel
theorem d_Model_safest_57 : decode M_Model_safest.2.1 57 = .ok (.getfield 51, 3) := by decide +kernel
theorem d_Model_safest_60 : decode M_Model_safest.2.1 60 = .ok (.iconst 1, 1) := by decide +kernel
theorem d_Model_safest_61 : decode M_Model_safest.2.1 61 = .ok (.iaload, 1) := by decide +kernel
theorem d_Model_safest_62 : decode M_Model_safest.2.1 62 = .ok (.invokestatic 239, 3) := by decide +kernel
theorem d_Model_safest_65 : decode M_Model_safest.2.1 65 = .ok (.if_icmp .le 5, 3) := by decide +kernel
theorem d_Model_safest_68 : decode M_Model_safest.2.1 68 = .ok (.iload_n 2, 1) := by decide +kernel
theorem d_Model_safest_69 : decode M_Model_safest.2.1 69 = .ok (.istore_n 1, 1) := by decide +kernel
theorem d_Model_safest_70 : decode M_Model_safest.2.1 70 = .ok (.iinc 2 1, 3) := by decide +kernel
theorem d_Model_safest_73 : decode M_Model_safest.2.1 73 = .ok (.goto (-64), 3) := by decide +kernel
theorem d_Model_safest_76 : decode M_Model_safest.2.1 76 = .ok (.iload_n 1, 1) := by decide +kernel
theorem d_Model_safest_77 : decode M_Model_safest.2.1 77 = .ok (.ireturn, 1) := by decide +kernel
theorem d_Model_recordsOf_0 : decode M_Model_recordsOf.2.1 0 = .ok (.iconst 0, 1) := by decide +kernel
theorem d_Model_recordsOf_1 : decode M_Model_recordsOf.2.1 1 = .ok (.istore_n 2, 1) := by decide +kernel
theorem d_Model_recordsOf_2 : decode M_Model_recordsOf.2.1 2 = .ok (.iconst 0, 1) := by decide +kernel
theorem d_Model_recordsOf_3 : decode M_Model_recordsOf.2.1 3 = .ok (.istore_n 3, 1) := by decide +kernel
theorem d_Model_recordsOf_4 : decode M_Model_recordsOf.2.1 4 = .ok (.iload_n 3, 1) := by decide +kernel
theorem d_Model_recordsOf_5 : decode M_Model_recordsOf.2.1 5 = .ok (.aload_n 0, 1) := by decide +kernel
theorem d_Model_recordsOf_6 : decode M_Model_recordsOf.2.1 6 = .ok (.getfield 121, 3) := by decide +kernel
theorem d_Model_recordsOf_9 : decode M_Model_recordsOf.2.1 9 = .ok (.if_icmp .ge 39, 3) := by decide +kernel
theorem d_Model_recordsOf_12 : decode M_Model_recordsOf.2.1 12 = .ok (.aload_n 0, 1) := by decide +kernel
theorem d_Model_recordsOf_13 : decode M_Model_recordsOf.2.1 13 = .ok (.iload_n 3, 1) := by decide +kernel
theorem d_Model_recordsOf_14 : decode M_Model_recordsOf.2.1 14 = .ok (.invokevirtual 315, 3) := by decide +kernel
theorem d_Model_recordsOf_17 : decode M_Model_recordsOf.2.1 17 = .ok (.ifCond .eq 25, 3) := by decide +kernel
theorem d_Model_recordsOf_20 : decode M_Model_recordsOf.2.1 20 = .ok (.aload_n 0, 1) := by decide +kernel
theorem d_Model_recordsOf_21 : decode M_Model_recordsOf.2.1 21 = .ok (.iload_n 3, 1) := by decide +kernel
theorem d_Model_recordsOf_22 : decode M_Model_recordsOf.2.1 22 = .ok (.iconst 1, 1) := by decide +kernel
theorem d_Model_recordsOf_23 : decode M_Model_recordsOf.2.1 23 = .ok (.invokevirtual 305, 3) := by decide +kernel
theorem d_Model_recordsOf_26 : decode M_Model_recordsOf.2.1 26 = .ok (.iload_n 1, 1) := by decide +kernel
theorem d_Model_recordsOf_27 : decode M_Model_recordsOf.2.1 27 = .ok (.if_icmp .ne 15, 3) := by decide +kernel
theorem d_Model_recordsOf_30 : decode M_Model_recordsOf.2.1 30 = .ok (.iload_n 2, 1) := by decide +kernel
theorem d_Model_recordsOf_31 : decode M_Model_recordsOf.2.1 31 = .ok (.iconst 1, 1) := by decide +kernel
theorem d_Model_recordsOf_32 : decode M_Model_recordsOf.2.1 32 = .ok (.aload_n 0, 1) := by decide +kernel
theorem d_Model_recordsOf_33 : decode M_Model_recordsOf.2.1 33 = .ok (.iload_n 3, 1) := by decide +kernel
theorem d_Model_recordsOf_34 : decode M_Model_recordsOf.2.1 34 = .ok (.bipush 7, 2) := by decide +kernel
theorem d_Model_recordsOf_36 : decode M_Model_recordsOf.2.1 36 = .ok (.invokevirtual 305, 3) := by decide +kernel
theorem d_Model_recordsOf_39 : decode M_Model_recordsOf.2.1 39 = .ok (.ishl, 1) := by decide +kernel
theorem d_Model_recordsOf_40 : decode M_Model_recordsOf.2.1 40 = .ok (.ior, 1) := by decide +kernel
theorem d_Model_recordsOf_41 : decode M_Model_recordsOf.2.1 41 = .ok (.istore_n 2, 1) := by decide +kernel
theorem d_Model_recordsOf_42 : decode M_Model_recordsOf.2.1 42 = .ok (.iinc 3 1, 3) := by decide +kernel
theorem d_Model_recordsOf_45 : decode M_Model_recordsOf.2.1 45 = .ok (.goto (-41), 3) := by decide +kernel
theorem d_Model_recordsOf_48 : decode M_Model_recordsOf.2.1 48 = .ok (.iload_n 2, 1) := by decide +kernel
theorem d_Model_recordsOf_49 : decode M_Model_recordsOf.2.1 49 = .ok (.ireturn, 1) := by decide +kernel
theorem d_Model_heir_0 : decode M_Model_heir.2.1 0 = .ok (.aload_n 0, 1) := by decide +kernel
theorem d_Model_heir_1 : decode M_Model_heir.2.1 1 = .ok (.iconst 0, 1) := by decide +kernel
theorem d_Model_heir_2 : decode M_Model_heir.2.1 2 = .ok (.putfield 114, 3) := by decide +kernel
theorem d_Model_heir_5 : decode M_Model_heir.2.1 5 = .ok (.aload_n 0, 1) := by decide +kernel
theorem d_Model_heir_6 : decode M_Model_heir.2.1 6 = .ok (.iload_n 1, 1) := by decide +kernel
theorem d_Model_heir_7 : decode M_Model_heir.2.1 7 = .ok (.invokevirtual 335, 3) := by decide +kernel
theorem d_Model_heir_10 : decode M_Model_heir.2.1 10 = .ok (.ifCond .ne 9, 3) := by decide +kernel
theorem d_Model_heir_13 : decode M_Model_heir.2.1 13 = .ok (.aload_n 0, 1) := by decide +kernel
theorem d_Model_heir_14 : decode M_Model_heir.2.1 14 = .ok (.iconst 1, 1) := by decide +kernel
theorem d_Model_heir_15 : decode M_Model_heir.2.1 15 = .ok (.invokevirtual 273, 3) := by decide +kernel
theorem d_Model_heir_18 : decode M_Model_heir.2.1 18 = .ok (.ireturn, 1) := by decide +kernel
theorem d_Model_heir_19 : decode M_Model_heir.2.1 19 = .ok (.aload_n 0, 1) := by decide +kernel
theorem d_Model_heir_20 : decode M_Model_heir.2.1 20 = .ok (.iload_n 1, 1) := by decide +kernel
theorem d_Model_heir_21 : decode M_Model_heir.2.1 21 = .ok (.invokevirtual 426, 3) := by decide +kernel
theorem d_Model_heir_24 : decode M_Model_heir.2.1 24 = .ok (.istore_n 2, 1) := by decide +kernel
theorem d_Model_heir_25 : decode M_Model_heir.2.1 25 = .ok (.iconst (-1), 1) := by decide +kernel
theorem d_Model_heir_26 : decode M_Model_heir.2.1 26 = .ok (.istore_n 3, 1) := by decide +kernel
theorem d_Model_heir_27 : decode M_Model_heir.2.1 27 = .ok (.iconst 0, 1) := by decide +kernel
theorem d_Model_heir_28 : decode M_Model_heir.2.1 28 = .ok (.istore 4, 2) := by decide +kernel
theorem d_Model_heir_30 : decode M_Model_heir.2.1 30 = .ok (.iload 4, 2) := by decide +kernel
theorem d_Model_heir_32 : decode M_Model_heir.2.1 32 = .ok (.aload_n 0, 1) := by decide +kernel
theorem d_Model_heir_33 : decode M_Model_heir.2.1 33 = .ok (.getfield 51, 3) := by decide +kernel
theorem d_Model_heir_36 : decode M_Model_heir.2.1 36 = .ok (.iconst 0, 1) := by decide +kernel
theorem d_Model_heir_37 : decode M_Model_heir.2.1 37 = .ok (.iaload, 1) := by decide +kernel
theorem d_Model_heir_38 : decode M_Model_heir.2.1 38 = .ok (.if_icmp .ge 62, 3) := by decide +kernel
theorem d_Model_heir_41 : decode M_Model_heir.2.1 41 = .ok (.iload 4, 2) := by decide +kernel
theorem d_Model_heir_43 : decode M_Model_heir.2.1 43 = .ok (.iload_n 1, 1) := by decide +kernel
theorem d_Model_heir_44 : decode M_Model_heir.2.1 44 = .ok (.if_icmp .eq 50, 3) := by decide +kernel
theorem d_Model_heir_47 : decode M_Model_heir.2.1 47 = .ok (.aload_n 0, 1) := by decide +kernel
theorem d_Model_heir_48 : decode M_Model_heir.2.1 48 = .ok (.getfield 289, 3) := by decide +kernel
theorem d_Model_heir_51 : decode M_Model_heir.2.1 51 = .ok (.iload 4, 2) := by decide +kernel
theorem d_Model_heir_53 : decode M_Model_heir.2.1 53 = .ok (.invokestatic 308, 3) := by decide +kernel
theorem d_Model_heir_56 : decode M_Model_heir.2.1 56 = .ok (.ifCond .eq 6, 3) := by decide +kernel
theorem d_Model_heir_59 : decode M_Model_heir.2.1 59 = .ok (.goto 35, 3) := by decide +kernel
theorem d_Model_heir_62 : decode M_Model_heir.2.1 62 = .ok (.iload_n 3, 1) := by decide +kernel
theorem d_Model_heir_63 : decode M_Model_heir.2.1 63 = .ok (.iconst (-1), 1) := by decide +kernel
theorem d_Model_heir_64 : decode M_Model_heir.2.1 64 = .ok (.if_icmp .eq 27, 3) := by decide +kernel
theorem d_Model_heir_67 : decode M_Model_heir.2.1 67 = .ok (.aload_n 0, 1) := by decide +kernel
theorem d_Model_heir_68 : decode M_Model_heir.2.1 68 = .ok (.iload 4, 2) := by decide +kernel
theorem d_Model_heir_70 : decode M_Model_heir.2.1 70 = .ok (.invokevirtual 426, 3) := by decide +kernel
theorem d_Model_heir_73 : decode M_Model_heir.2.1 73 = .ok (.iload_n 2, 1) := by decide +kernel
theorem d_Model_heir_74 : decode M_Model_heir.2.1 74 = .ok (.iand, 1) := by decide +kernel
theorem d_Model_heir_75 : decode M_Model_heir.2.1 75 = .ok (.invokestatic 332, 3) := by decide +kernel
theorem d_Model_heir_78 : decode M_Model_heir.2.1 78 = .ok (.aload_n 0, 1) := by decide +kernel
theorem d_Model_heir_79 : decode M_Model_heir.2.1 79 = .ok (.iload_n 3, 1) := by decide +kernel
theorem d_Model_heir_80 : decode M_Model_heir.2.1 80 = .ok (.invokevirtual 426, 3) := by decide +kernel
theorem d_Model_heir_83 : decode M_Model_heir.2.1 83 = .ok (.iload_n 2, 1) := by decide +kernel
theorem d_Model_heir_84 : decode M_Model_heir.2.1 84 = .ok (.iand, 1) := by decide +kernel
theorem d_Model_heir_85 : decode M_Model_heir.2.1 85 = .ok (.invokestatic 332, 3) := by decide +kernel
theorem d_Model_heir_88 : decode M_Model_heir.2.1 88 = .ok (.if_icmp .le 6, 3) := by decide +kernel
theorem d_Model_heir_91 : decode M_Model_heir.2.1 91 = .ok (.iload 4, 2) := by decide +kernel
theorem d_Model_heir_93 : decode M_Model_heir.2.1 93 = .ok (.istore_n 3, 1) := by decide +kernel
theorem d_Model_heir_94 : decode M_Model_heir.2.1 94 = .ok (.iinc 4 1, 3) := by decide +kernel
theorem d_Model_heir_97 : decode M_Model_heir.2.1 97 = .ok (.goto (-67), 3) := by decide +kernel
theorem d_Model_heir_100 : decode M_Model_heir.2.1 100 = .ok (.iload_n 3, 1) := by decide +kernel
theorem d_Model_heir_101 : decode M_Model_heir.2.1 101 = .ok (.ireturn, 1) := by decide +kernel
theorem d_Model_lice_0 : decode M_Model_lice.2.1 0 = .ok (.aload_n 0, 1) := by decide +kernel
theorem d_Model_lice_1 : decode M_Model_lice.2.1 1 = .ok (.iconst 0, 1) := by decide +kernel
theorem d_Model_lice_2 : decode M_Model_lice.2.1 2 = .ok (.putfield 114, 3) := by decide +kernel
theorem d_Model_lice_5 : decode M_Model_lice.2.1 5 = .ok (.aload_n 0, 1) := by decide +kernel
theorem d_Model_lice_6 : decode M_Model_lice.2.1 6 = .ok (.iload_n 1, 1) := by decide +kernel
theorem d_Model_lice_7 : decode M_Model_lice.2.1 7 = .ok (.invokevirtual 335, 3) := by decide +kernel
theorem d_Model_lice_10 : decode M_Model_lice.2.1 10 = .ok (.ifCond .ne 9, 3) := by decide +kernel
theorem d_Model_lice_13 : decode M_Model_lice.2.1 13 = .ok (.aload_n 0, 1) := by decide +kernel
theorem d_Model_lice_14 : decode M_Model_lice.2.1 14 = .ok (.iconst 1, 1) := by decide +kernel
theorem d_Model_lice_15 : decode M_Model_lice.2.1 15 = .ok (.invokevirtual 273, 3) := by decide +kernel
theorem d_Model_lice_18 : decode M_Model_lice.2.1 18 = .ok (.ireturn, 1) := by decide +kernel
theorem d_Model_lice_19 : decode M_Model_lice.2.1 19 = .ok (.iconst 0, 1) := by decide +kernel
theorem d_Model_lice_20 : decode M_Model_lice.2.1 20 = .ok (.istore_n 2, 1) := by decide +kernel
theorem d_Model_lice_21 : decode M_Model_lice.2.1 21 = .ok (.iconst 0, 1) := by decide +kernel
theorem d_Model_lice_22 : decode M_Model_lice.2.1 22 = .ok (.istore_n 3, 1) := by decide +kernel
theorem d_Model_lice_23 : decode M_Model_lice.2.1 23 = .ok (.iload_n 3, 1) := by decide +kernel
theorem d_Model_lice_24 : decode M_Model_lice.2.1 24 = .ok (.aload_n 0, 1) := by decide +kernel
theorem d_Model_lice_25 : decode M_Model_lice.2.1 25 = .ok (.getfield 121, 3) := by decide +kernel
theorem d_Model_lice_28 : decode M_Model_lice.2.1 28 = .ok (.if_icmp .ge 48, 3) := by decide +kernel
theorem d_Model_lice_31 : decode M_Model_lice.2.1 31 = .ok (.iload_n 2, 1) := by decide +kernel
theorem d_Model_lice_32 : decode M_Model_lice.2.1 32 = .ok (.aload_n 0, 1) := by decide +kernel
theorem d_Model_lice_33 : decode M_Model_lice.2.1 33 = .ok (.iload_n 3, 1) := by decide +kernel
theorem d_Model_lice_34 : decode M_Model_lice.2.1 34 = .ok (.invokevirtual 315, 3) := by decide +kernel
theorem d_Model_lice_37 : decode M_Model_lice.2.1 37 = .ok (.ifCond .eq 30, 3) := by decide +kernel
theorem d_Model_lice_40 : decode M_Model_lice.2.1 40 = .ok (.aload_n 0, 1) := by decide +kernel
theorem d_Model_lice_41 : decode M_Model_lice.2.1 41 = .ok (.iload_n 3, 1) := by decide +kernel
theorem d_Model_lice_42 : decode M_Model_lice.2.1 42 = .ok (.iconst 1, 1) := by decide +kernel
theorem d_Model_lice_43 : decode M_Model_lice.2.1 43 = .ok (.invokevirtual 305, 3) := by decide +kernel
theorem d_Model_lice_46 : decode M_Model_lice.2.1 46 = .ok (.iload_n 1, 1) := by decide +kernel
theorem d_Model_lice_47 : decode M_Model_lice.2.1 47 = .ok (.if_icmp .ne 20, 3) := by decide +kernel
theorem d_Model_lice_50 : decode M_Model_lice.2.1 50 = .ok (.aload_n 0, 1) := by decide +kernel
theorem d_Model_lice_51 : decode M_Model_lice.2.1 51 = .ok (.iload_n 3, 1) := by decide +kernel
theorem d_Model_lice_52 : decode M_Model_lice.2.1 52 = .ok (.iconst 4, 1) := by decide +kernel
theorem d_Model_lice_53 : decode M_Model_lice.2.1 53 = .ok (.invokevirtual 305, 3) := by decide +kernel
theorem d_Model_lice_56 : decode M_Model_lice.2.1 56 = .ok (.aload_n 0, 1) := by decide +kernel
theorem d_Model_lice_57 : decode M_Model_lice.2.1 57 = .ok (.iload_n 3, 1) := by decide +kernel
theorem d_Model_lice_58 : decode M_Model_lice.2.1 58 = .ok (.invokevirtual 318, 3) := by decide +kernel
theorem d_Model_lice_61 : decode M_Model_lice.2.1 61 = .ok (.iconst 1, 1) := by decide +kernel
theorem d_Model_lice_62 : decode M_Model_lice.2.1 62 = .ok (.iadd, 1) := by decide +kernel
theorem d_Model_lice_63 : decode M_Model_lice.2.1 63 = .ok (.imul, 1) := by decide +kernel
theorem d_Model_lice_64 : decode M_Model_lice.2.1 64 = .ok (.goto 4, 3) := by decide +kernel
theorem d_Model_lice_67 : decode M_Model_lice.2.1 67 = .ok (.iconst 0, 1) := by decide +kernel
theorem d_Model_lice_68 : decode M_Model_lice.2.1 68 = .ok (.iadd, 1) := by decide +kernel
theorem d_Model_lice_69 : decode M_Model_lice.2.1 69 = .ok (.istore_n 2, 1) := by decide +kernel
theorem d_Model_lice_70 : decode M_Model_lice.2.1 70 = .ok (.iinc 3 1, 3) := by decide +kernel
theorem d_Model_lice_73 : decode M_Model_lice.2.1 73 = .ok (.goto (-50), 3) := by decide +kernel
theorem d_Model_lice_76 : decode M_Model_lice.2.1 76 = .ok (.iload_n 2, 1) := by decide +kernel
theorem d_Model_lice_77 : decode M_Model_lice.2.1 77 = .ok (.bipush 97, 2) := by decide +kernel
theorem d_Model_lice_79 : decode M_Model_lice.2.1 79 = .ok (.irem, 1) := by decide +kernel
theorem d_Model_lice_80 : decode M_Model_lice.2.1 80 = .ok (.ireturn, 1) := by decide +kernel
theorem d_Model_see_0 : decode M_Model_see.2.1 0 = .ok (.aload_n 0, 1) := by decide +kernel
theorem d_Model_see_1 : decode M_Model_see.2.1 1 = .ok (.iconst 0, 1) := by decide +kernel
theorem d_Model_see_2 : decode M_Model_see.2.1 2 = .ok (.putfield 114, 3) := by decide +kernel
theorem d_Model_see_5 : decode M_Model_see.2.1 5 = .ok (.aload_n 0, 1) := by decide +kernel
theorem d_Model_see_6 : decode M_Model_see.2.1 6 = .ok (.iload_n 1, 1) := by decide +kernel
theorem d_Model_see_7 : decode M_Model_see.2.1 7 = .ok (.invokevirtual 341, 3) := by decide +kernel
theorem d_Model_see_10 : decode M_Model_see.2.1 10 = .ok (.ifCond .ne 9, 3) := by decide +kernel
theorem d_Model_see_13 : decode M_Model_see.2.1 13 = .ok (.aload_n 0, 1) := by decide +kernel
theorem d_Model_see_14 : decode M_Model_see.2.1 14 = .ok (.iconst 1, 1) := by decide +kernel
theorem d_Model_see_15 : decode M_Model_see.2.1 15 = .ok (.invokevirtual 273, 3) := by decide +kernel
theorem d_Model_see_18 : decode M_Model_see.2.1 18 = .ok (.ireturn, 1) := by decide +kernel
theorem d_Model_see_19 : decode M_Model_see.2.1 19 = .ok (.aload_n 0, 1) := by decide +kernel
theorem d_Model_see_20 : decode M_Model_see.2.1 20 = .ok (.getfield 298, 3) := by decide +kernel
theorem d_Model_see_23 : decode M_Model_see.2.1 23 = .ok (.bipush 8, 2) := by decide +kernel
theorem d_Model_see_25 : decode M_Model_see.2.1 25 = .ok (.if_icmp .ne 9, 3) := by decide +kernel
theorem d_Model_see_28 : decode M_Model_see.2.1 28 = .ok (.aload_n 0, 1) := by decide +kernel
theorem d_Model_see_29 : decode M_Model_see.2.1 29 = .ok (.iconst 2, 1) := by decide +kernel
theorem d_Model_see_30 : decode M_Model_see.2.1 30 = .ok (.invokevirtual 365, 3) := by decide +kernel
theorem d_Model_see_33 : decode M_Model_see.2.1 33 = .ok (.ireturn, 1) := by decide +kernel
theorem d_Model_see_34 : decode M_Model_see.2.1 34 = .ok (.aload_n 0, 1) := by decide +kernel
theorem d_Model_see_35 : decode M_Model_see.2.1 35 = .ok (.getfield 93, 3) := by decide +kernel
theorem d_Model_see_38 : decode M_Model_see.2.1 38 = .ok (.aload_n 0, 1) := by decide +kernel
theorem d_Model_see_39 : decode M_Model_see.2.1 39 = .ok (.getfield 298, 3) := by decide +kernel
theorem d_Model_see_42 : decode M_Model_see.2.1 42 = .ok (.iload_n 1, 1) := by decide +kernel
theorem d_Model_see_43 : decode M_Model_see.2.1 43 = .ok (.iastore, 1) := by decide +kernel
theorem d_Model_see_44 : decode M_Model_see.2.1 44 = .ok (.aload_n 0, 1) := by decide +kernel
theorem d_Model_see_45 : decode M_Model_see.2.1 45 = .ok (.getfield 96, 3) := by decide +kernel
theorem d_Model_see_48 : decode M_Model_see.2.1 48 = .ok (.aload_n 0, 1) := by decide +kernel
theorem d_Model_see_49 : decode M_Model_see.2.1 49 = .ok (.getfield 298, 3) := by decide +kernel
theorem d_Model_see_52 : decode M_Model_see.2.1 52 = .ok (.iload_n 2, 1) := by decide +kernel
theorem d_Model_see_53 : decode M_Model_see.2.1 53 = .ok (.ifCond .eq 7, 3) := by decide +kernel
theorem d_Model_see_56 : decode M_Model_see.2.1 56 = .ok (.iconst 1, 1) := by decide +kernel
theorem d_Model_see_57 : decode M_Model_see.2.1 57 = .ok (.goto 4, 3) := by decide +kernel
theorem d_Model_see_60 : decode M_Model_see.2.1 60 = .ok (.iconst 0, 1) := by decide +kernel
theorem d_Model_see_61 : decode M_Model_see.2.1 61 = .ok (.iastore, 1) := by decide +kernel
theorem d_Model_see_62 : decode M_Model_see.2.1 62 = .ok (.aload_n 0, 1) := by decide +kernel
theorem d_Model_see_63 : decode M_Model_see.2.1 63 = .ok (.dup, 1) := by decide +kernel
theorem d_Model_see_64 : decode M_Model_see.2.1 64 = .ok (.getfield 298, 3) := by decide +kernel
theorem d_Model_see_67 : decode M_Model_see.2.1 67 = .ok (.iconst 1, 1) := by decide +kernel
theorem d_Model_see_68 : decode M_Model_see.2.1 68 = .ok (.iadd, 1) := by decide +kernel
theorem d_Model_see_69 : decode M_Model_see.2.1 69 = .ok (.putfield 298, 3) := by decide +kernel
theorem d_Model_see_72 : decode M_Model_see.2.1 72 = .ok (.aload_n 0, 1) := by decide +kernel
theorem d_Model_see_73 : decode M_Model_see.2.1 73 = .ok (.getfield 298, 3) := by decide +kernel
theorem d_Model_see_76 : decode M_Model_see.2.1 76 = .ok (.ireturn, 1) := by decide +kernel
theorem d_Model_isAsSeen_0 : decode M_Model_isAsSeen.2.1 0 = .ok (.iconst 0, 1) := by decide +kernel
theorem d_Model_isAsSeen_1 : decode M_Model_isAsSeen.2.1 1 = .ok (.istore_n 1, 1) := by decide +kernel
theorem d_Model_isAsSeen_2 : decode M_Model_isAsSeen.2.1 2 = .ok (.iload_n 1, 1) := by decide +kernel
theorem d_Model_isAsSeen_3 : decode M_Model_isAsSeen.2.1 3 = .ok (.aload_n 0, 1) := by decide +kernel
theorem d_Model_isAsSeen_4 : decode M_Model_isAsSeen.2.1 4 = .ok (.getfield 298, 3) := by decide +kernel
theorem d_Model_isAsSeen_7 : decode M_Model_isAsSeen.2.1 7 = .ok (.if_icmp .ge 51, 3) := by decide +kernel
theorem d_Model_isAsSeen_10 : decode M_Model_isAsSeen.2.1 10 = .ok (.aload_n 0, 1) := by decide +kernel
theorem d_Model_isAsSeen_11 : decode M_Model_isAsSeen.2.1 11 = .ok (.aload_n 0, 1) := by decide +kernel
theorem d_Model_isAsSeen_12 : decode M_Model_isAsSeen.2.1 12 = .ok (.getfield 93, 3) := by decide +kernel
theorem d_Model_isAsSeen_15 : decode M_Model_isAsSeen.2.1 15 = .ok (.iload_n 1, 1) := by decide +kernel
theorem d_Model_isAsSeen_16 : decode M_Model_isAsSeen.2.1 16 = .ok (.iaload, 1) := by decide +kernel
theorem d_Model_isAsSeen_17 : decode M_Model_isAsSeen.2.1 17 = .ok (.invokevirtual 341, 3) := by decide +kernel
theorem d_Model_isAsSeen_20 : decode M_Model_isAsSeen.2.1 20 = .ok (.ifCond .eq 20, 3) := by decide +kernel
theorem d_Model_isAsSeen_23 : decode M_Model_isAsSeen.2.1 23 = .ok (.aload_n 0, 1) := by decide +kernel
theorem d_Model_isAsSeen_24 : decode M_Model_isAsSeen.2.1 24 = .ok (.aload_n 0, 1) := by decide +kernel
theorem d_Model_isAsSeen_25 : decode M_Model_isAsSeen.2.1 25 = .ok (.getfield 93, 3) := by decide +kernel
theorem d_Model_isAsSeen_28 : decode M_Model_isAsSeen.2.1 28 = .ok (.iload_n 1, 1) := by decide +kernel
theorem d_Model_isAsSeen_29 : decode M_Model_isAsSeen.2.1 29 = .ok (.iaload, 1) := by decide +kernel
theorem d_Model_isAsSeen_30 : decode M_Model_isAsSeen.2.1 30 = .ok (.invokevirtual 315, 3) := by decide +kernel
theorem d_Model_isAsSeen_33 : decode M_Model_isAsSeen.2.1 33 = .ok (.ifCond .eq 7, 3) := by decide +kernel
theorem d_Model_isAsSeen_36 : decode M_Model_isAsSeen.2.1 36 = .ok (.iconst 1, 1) := by decide +kernel
theorem d_Model_isAsSeen_37 : decode M_Model_isAsSeen.2.1 37 = .ok (.goto 4, 3) := by decide +kernel
theorem d_Model_isAsSeen_40 : decode M_Model_isAsSeen.2.1 40 = .ok (.iconst 0, 1) := by decide +kernel
theorem d_Model_isAsSeen_41 : decode M_Model_isAsSeen.2.1 41 = .ok (.aload_n 0, 1) := by decide +kernel
theorem d_Model_isAsSeen_42 : decode M_Model_isAsSeen.2.1 42 = .ok (.getfield 96, 3) := by decide +kernel
theorem d_Model_isAsSeen_45 : decode M_Model_isAsSeen.2.1 45 = .ok (.iload_n 1, 1) := by decide +kernel
theorem d_Model_isAsSeen_46 : decode M_Model_isAsSeen.2.1 46 = .ok (.iaload, 1) := by decide +kernel
theorem d_Model_isAsSeen_47 : decode M_Model_isAsSeen.2.1 47 = .ok (.if_icmp .eq 5, 3) := by decide +kernel
theorem d_Model_isAsSeen_50 : decode M_Model_isAsSeen.2.1 50 = .ok (.iconst 0, 1) := by decide +kernel
theorem d_Model_isAsSeen_51 : decode M_Model_isAsSeen.2.1 51 = .ok (.ireturn, 1) := by decide +kernel
theorem d_Model_isAsSeen_52 : decode M_Model_isAsSeen.2.1 52 = .ok (.iinc 1 1, 3) := by decide +kernel
theorem d_Model_isAsSeen_55 : decode M_Model_isAsSeen.2.1 55 = .ok (.goto (-53), 3) := by decide +kernel
theorem d_Model_isAsSeen_58 : decode M_Model_isAsSeen.2.1 58 = .ok (.iconst 1, 1) := by decide +kernel
theorem d_Model_isAsSeen_59 : decode M_Model_isAsSeen.2.1 59 = .ok (.ireturn, 1) := by decide +kernel
theorem d_Model_ate_0 : decode M_Model_ate.2.1 0 = .ok (.aload_n 0, 1) := by decide +kernel
theorem d_Model_ate_1 : decode M_Model_ate.2.1 1 = .ok (.iconst 0, 1) := by decide +kernel
theorem d_Model_ate_2 : decode M_Model_ate.2.1 2 = .ok (.putfield 114, 3) := by decide +kernel
theorem d_Model_ate_5 : decode M_Model_ate.2.1 5 = .ok (.aload_n 0, 1) := by decide +kernel
theorem d_Model_ate_6 : decode M_Model_ate.2.1 6 = .ok (.iload_n 1, 1) := by decide +kernel
theorem d_Model_ate_7 : decode M_Model_ate.2.1 7 = .ok (.invokevirtual 335, 3) := by decide +kernel
theorem d_Model_ate_10 : decode M_Model_ate.2.1 10 = .ok (.ifCond .eq 12, 3) := by decide +kernel
theorem d_Model_ate_13 : decode M_Model_ate.2.1 13 = .ok (.iload_n 2, 1) := by decide +kernel
theorem d_Model_ate_14 : decode M_Model_ate.2.1 14 = .ok (.ifCond .lt 8, 3) := by decide +kernel
theorem d_Model_ate_17 : decode M_Model_ate.2.1 17 = .ok (.iload_n 2, 1) := by decide +kernel
theorem d_Model_ate_18 : decode M_Model_ate.2.1 18 = .ok (.iconst 1, 1) := by decide +kernel
theorem d_Model_ate_19 : decode M_Model_ate.2.1 19 = .ok (.if_icmp .le 9, 3) := by decide +kernel
theorem d_Model_ate_22 : decode M_Model_ate.2.1 22 = .ok (.aload_n 0, 1) := by decide +kernel
theorem d_Model_ate_23 : decode M_Model_ate.2.1 23 = .ok (.iconst 1, 1) := by decide +kernel
theorem d_Model_ate_24 : decode M_Model_ate.2.1 24 = .ok (.invokevirtual 273, 3) := by decide +kernel
theorem d_Model_ate_27 : decode M_Model_ate.2.1 27 = .ok (.ireturn, 1) := by decide +kernel
theorem d_Model_ate_28 : decode M_Model_ate.2.1 28 = .ok (.iconst 0, 1) := by decide +kernel
theorem d_Model_ate_29 : decode M_Model_ate.2.1 29 = .ok (.istore_n 3, 1) := by decide +kernel
theorem d_Model_ate_30 : decode M_Model_ate.2.1 30 = .ok (.iconst (-1), 1) := by decide +kernel
theorem d_Model_ate_31 : decode M_Model_ate.2.1 31 = .ok (.istore 4, 2) := by decide +kernel
theorem d_Model_ate_33 : decode M_Model_ate.2.1 33 = .ok (.aload_n 0, 1) := by decide +kernel
theorem d_Model_ate_34 : decode M_Model_ate.2.1 34 = .ok (.aload_n 0, 1) := by decide +kernel
theorem d_Model_ate_35 : decode M_Model_ate.2.1 35 = .ok (.getfield 90, 3) := by decide +kernel
theorem d_Model_ate_38 : decode M_Model_ate.2.1 38 = .ok (.iconst 0, 1) := by decide +kernel
theorem d_Model_ate_39 : decode M_Model_ate.2.1 39 = .ok (.invokevirtual 359, 3) := by decide +kernel
theorem d_Model_ate_42 : decode M_Model_ate.2.1 42 = .ok (.iconst 0, 1) := by decide +kernel
theorem d_Model_ate_43 : decode M_Model_ate.2.1 43 = .ok (.istore 5, 2) := by decide +kernel
theorem d_Model_ate_45 : decode M_Model_ate.2.1 45 = .ok (.iload 5, 2) := by decide +kernel
theorem d_Model_ate_47 : decode M_Model_ate.2.1 47 = .ok (.bipush 20, 2) := by decide +kernel
theorem d_Model_ate_49 : decode M_Model_ate.2.1 49 = .ok (.if_icmp .gt 83, 3) := by decide +kernel
theorem d_Model_ate_52 : decode M_Model_ate.2.1 52 = .ok (.iload 5, 2) := by decide +kernel
theorem d_Model_ate_54 : decode M_Model_ate.2.1 54 = .ok (.istore 6, 2) := by decide +kernel
theorem d_Model_ate_56 : decode M_Model_ate.2.1 56 = .ok (.iload 6, 2) := by decide +kernel
theorem d_Model_ate_58 : decode M_Model_ate.2.1 58 = .ok (.bipush 20, 2) := by decide +kernel
theorem d_Model_ate_60 : decode M_Model_ate.2.1 60 = .ok (.if_icmp .gt 66, 3) := by decide +kernel
theorem d_Model_ate_63 : decode M_Model_ate.2.1 63 = .ok (.aload_n 0, 1) := by decide +kernel
theorem d_Model_ate_64 : decode M_Model_ate.2.1 64 = .ok (.iload_n 1, 1) := by decide +kernel
theorem d_Model_ate_65 : decode M_Model_ate.2.1 65 = .ok (.iload 5, 2) := by decide +kernel
theorem d_Model_ate_67 : decode M_Model_ate.2.1 67 = .ok (.iload 6, 2) := by decide +kernel
theorem d_Model_ate_69 : decode M_Model_ate.2.1 69 = .ok (.invokevirtual 390, 3) := by decide +kernel
theorem d_Model_ate_72 : decode M_Model_ate.2.1 72 = .ok (.pop, 1) := by decide +kernel
theorem d_Model_ate_73 : decode M_Model_ate.2.1 73 = .ok (.aload_n 0, 1) := by decide +kernel
theorem d_Model_ate_74 : decode M_Model_ate.2.1 74 = .ok (.invokevirtual 429, 3) := by decide +kernel
theorem d_Model_ate_77 : decode M_Model_ate.2.1 77 = .ok (.istore 7, 2) := by decide +kernel
theorem d_Model_ate_79 : decode M_Model_ate.2.1 79 = .ok (.aload_n 0, 1) := by decide +kernel
theorem d_Model_ate_80 : decode M_Model_ate.2.1 80 = .ok (.aload_n 0, 1) := by decide +kernel
theorem d_Model_ate_81 : decode M_Model_ate.2.1 81 = .ok (.getfield 90, 3) := by decide +kernel
theorem d_Model_ate_84 : decode M_Model_ate.2.1 84 = .ok (.iconst 0, 1) := by decide +kernel
theorem d_Model_ate_85 : decode M_Model_ate.2.1 85 = .ok (.invokevirtual 393, 3) := by decide +kernel
theorem d_Model_ate_88 : decode M_Model_ate.2.1 88 = .ok (.iload 7, 2) := by decide +kernel
theorem d_Model_ate_90 : decode M_Model_ate.2.1 90 = .ok (.ifCond .ne 6, 3) := by decide +kernel
theorem d_Model_ate_93 : decode M_Model_ate.2.1 93 = .ok (.goto 27, 3) := by decide +kernel
theorem d_Model_ate_96 : decode M_Model_ate.2.1 96 = .ok (.iinc 3 1, 3) := by decide +kernel
theorem d_Model_ate_99 : decode M_Model_ate.2.1 99 = .ok (.iload 4, 2) := by decide +kernel
theorem d_Model_ate_101 : decode M_Model_ate.2.1 101 = .ok (.iconst (-1), 1) := by decide +kernel
theorem d_Model_ate_102 : decode M_Model_ate.2.1 102 = .ok (.if_icmp .ne 14, 3) := by decide +kernel
theorem d_Model_ate_105 : decode M_Model_ate.2.1 105 = .ok (.bipush 100, 2) := by decide +kernel
theorem d_Model_ate_107 : decode M_Model_ate.2.1 107 = .ok (.iload 5, 2) := by decide +kernel
theorem d_Model_ate_109 : decode M_Model_ate.2.1 109 = .ok (.imul, 1) := by decide +kernel
theorem d_Model_ate_110 : decode M_Model_ate.2.1 110 = .ok (.iload 6, 2) := by decide +kernel
theorem d_Model_ate_112 : decode M_Model_ate.2.1 112 = .ok (.iadd, 1) := by decide +kernel
theorem d_Model_ate_113 : decode M_Model_ate.2.1 113 = .ok (.goto 5, 3) := by decide +kernel
theorem d_Model_ate_116 : decode M_Model_ate.2.1 116 = .ok (.iload 4, 2) := by decide +kernel
theorem d_Model_ate_118 : decode M_Model_ate.2.1 118 = .ok (.istore 4, 2) := by decide +kernel
theorem d_Model_ate_120 : decode M_Model_ate.2.1 120 = .ok (.iinc 6 1, 3) := by decide +kernel
theorem d_Model_ate_123 : decode M_Model_ate.2.1 123 = .ok (.goto (-67), 3) := by decide +kernel
theorem d_Model_ate_126 : decode M_Model_ate.2.1 126 = .ok (.iinc 5 1, 3) := by decide +kernel
theorem d_Model_ate_129 : decode M_Model_ate.2.1 129 = .ok (.goto (-84), 3) := by decide +kernel
theorem d_Model_ate_132 : decode M_Model_ate.2.1 132 = .ok (.iload_n 2, 1) := by decide +kernel
theorem d_Model_ate_133 : decode M_Model_ate.2.1 133 = .ok (.ifCond .ne 7, 3) := by decide +kernel
theorem d_Model_ate_136 : decode M_Model_ate.2.1 136 = .ok (.iload_n 3, 1) := by decide +kernel
theorem d_Model_ate_137 : decode M_Model_ate.2.1 137 = .ok (.goto 5, 3) := by decide +kernel
theorem d_Model_ate_140 : decode M_Model_ate.2.1 140 = .ok (.iload 4, 2) := by decide +kernel
theorem d_Model_ate_142 : decode M_Model_ate.2.1 142 = .ok (.ireturn, 1) := by decide +kernel
theorem d_Model_forget_0 : decode M_Model_forget.2.1 0 = .ok (.aload_n 0, 1) := by decide +kernel
theorem d_Model_forget_1 : decode M_Model_forget.2.1 1 = .ok (.iconst 0, 1) := by decide +kernel
theorem d_Model_forget_2 : decode M_Model_forget.2.1 2 = .ok (.putfield 114, 3) := by decide +kernel
theorem d_Model_forget_5 : decode M_Model_forget.2.1 5 = .ok (.aload_n 0, 1) := by decide +kernel
theorem d_Model_forget_6 : decode M_Model_forget.2.1 6 = .ok (.getfield 298, 3) := by decide +kernel
theorem d_Model_forget_9 : decode M_Model_forget.2.1 9 = .ok (.ifCond .ne 5, 3) := by decide +kernel
theorem d_Model_forget_12 : decode M_Model_forget.2.1 12 = .ok (.iconst (-1), 1) := by decide +kernel
theorem d_Model_forget_13 : decode M_Model_forget.2.1 13 = .ok (.ireturn, 1) := by decide +kernel
theorem d_Model_forget_14 : decode M_Model_forget.2.1 14 = .ok (.aload_n 0, 1) := by decide +kernel
theorem d_Model_forget_15 : decode M_Model_forget.2.1 15 = .ok (.dup, 1) := by decide +kernel
theorem d_Model_forget_16 : decode M_Model_forget.2.1 16 = .ok (.getfield 298, 3) := by decide +kernel
theorem d_Model_forget_19 : decode M_Model_forget.2.1 19 = .ok (.iconst 1, 1) := by decide +kernel
theorem d_Model_forget_20 : decode M_Model_forget.2.1 20 = .ok (.isub, 1) := by decide +kernel
theorem d_Model_forget_21 : decode M_Model_forget.2.1 21 = .ok (.putfield 298, 3) := by decide +kernel
theorem d_Model_forget_24 : decode M_Model_forget.2.1 24 = .ok (.aload_n 0, 1) := by decide +kernel
theorem d_Model_forget_25 : decode M_Model_forget.2.1 25 = .ok (.getfield 298, 3) := by decide +kernel
theorem d_Model_forget_28 : decode M_Model_forget.2.1 28 = .ok (.ireturn, 1) := by decide +kernel
theorem d_Model_gain_0 : decode M_Model_gain.2.1 0 = .ok (.aload_n 0, 1) := by decide +kernel
theorem d_Model_gain_1 : decode M_Model_gain.2.1 1 = .ok (.iconst 1, 1) := by decide +kernel
theorem d_Model_gain_2 : decode M_Model_gain.2.1 2 = .ok (.iload_n 1, 1) := by decide +kernel
theorem d_Model_gain_3 : decode M_Model_gain.2.1 3 = .ok (.ishl, 1) := by decide +kernel
theorem d_Model_gain_4 : decode M_Model_gain.2.1 4 = .ok (.iconst 1, 1) := by decide +kernel
theorem d_Model_gain_5 : decode M_Model_gain.2.1 5 = .ok (.iload_n 2, 1) := by decide +kernel
theorem d_Model_gain_6 : decode M_Model_gain.2.1 6 = .ok (.ishl, 1) := by decide +kernel
theorem d_Model_gain_7 : decode M_Model_gain.2.1 7 = .ok (.ior, 1) := by decide +kernel
theorem d_Model_gain_8 : decode M_Model_gain.2.1 8 = .ok (.invokevirtual 415, 3) := by decide +kernel
theorem d_Model_gain_11 : decode M_Model_gain.2.1 11 = .ok (.istore 4, 2) := by decide +kernel
theorem d_Model_gain_13 : decode M_Model_gain.2.1 13 = .ok (.iconst 0, 1) := by decide +kernel
theorem d_Model_gain_14 : decode M_Model_gain.2.1 14 = .ok (.istore 5, 2) := by decide +kernel
theorem d_Model_gain_16 : decode M_Model_gain.2.1 16 = .ok (.iconst 0, 1) := by decide +kernel
theorem d_Model_gain_17 : decode M_Model_gain.2.1 17 = .ok (.istore 6, 2) := by decide +kernel
theorem d_Model_gain_19 : decode M_Model_gain.2.1 19 = .ok (.iload 6, 2) := by decide +kernel
theorem d_Model_gain_21 : decode M_Model_gain.2.1 21 = .ok (.aload_n 0, 1) := by decide +kernel
theorem d_Model_gain_22 : decode M_Model_gain.2.1 22 = .ok (.getfield 121, 3) := by decide +kernel
theorem d_Model_gain_25 : decode M_Model_gain.2.1 25 = .ok (.if_icmp .ge 81, 3) := by decide +kernel
theorem d_Model_gain_28 : decode M_Model_gain.2.1 28 = .ok (.aload_n 0, 1) := by decide +kernel
theorem d_Model_gain_29 : decode M_Model_gain.2.1 29 = .ok (.iload 6, 2) := by decide +kernel
theorem d_Model_gain_31 : decode M_Model_gain.2.1 31 = .ok (.invokevirtual 315, 3) := by decide +kernel
theorem d_Model_gain_34 : decode M_Model_gain.2.1 34 = .ok (.ifCond .eq 66, 3) := by decide +kernel
theorem d_Model_gain_37 : decode M_Model_gain.2.1 37 = .ok (.iload 4, 2) := by decide +kernel
theorem d_Model_gain_39 : decode M_Model_gain.2.1 39 = .ok (.aload_n 0, 1) := by decide +kernel
theorem d_Model_gain_40 : decode M_Model_gain.2.1 40 = .ok (.iload 6, 2) := by decide +kernel
theorem d_Model_gain_42 : decode M_Model_gain.2.1 42 = .ok (.bipush 7, 2) := by decide +kernel
theorem d_Model_gain_44 : decode M_Model_gain.2.1 44 = .ok (.invokevirtual 305, 3) := by decide +kernel
theorem d_Model_gain_47 : decode M_Model_gain.2.1 47 = .ok (.invokestatic 308, 3) := by decide +kernel
theorem d_Model_gain_50 : decode M_Model_gain.2.1 50 = .ok (.ifCond .ne 6, 3) := by decide +kernel
theorem d_Model_gain_53 : decode M_Model_gain.2.1 53 = .ok (.goto 47, 3) := by decide +kernel
theorem d_Model_gain_56 : decode M_Model_gain.2.1 56 = .ok (.iload 4, 2) := by decide +kernel
theorem d_Model_gain_58 : decode M_Model_gain.2.1 58 = .ok (.iconst 1, 1) := by decide +kernel
theorem d_Model_gain_59 : decode M_Model_gain.2.1 59 = .ok (.aload_n 0, 1) := by decide +kernel
theorem d_Model_gain_60 : decode M_Model_gain.2.1 60 = .ok (.iload 6, 2) := by decide +kernel
theorem d_Model_gain_62 : decode M_Model_gain.2.1 62 = .ok (.bipush 7, 2) := by decide +kernel
theorem d_Model_gain_64 : decode M_Model_gain.2.1 64 = .ok (.invokevirtual 305, 3) := by decide +kernel
theorem d_Model_gain_67 : decode M_Model_gain.2.1 67 = .ok (.ishl, 1) := by decide +kernel
theorem d_Model_gain_68 : decode M_Model_gain.2.1 68 = .ok (.iconst (-1), 1) := by decide +kernel
theorem d_Model_gain_69 : decode M_Model_gain.2.1 69 = .ok (.ixor, 1) := by decide +kernel
theorem d_Model_gain_70 : decode M_Model_gain.2.1 70 = .ok (.iand, 1) := by decide +kernel
theorem d_Model_gain_71 : decode M_Model_gain.2.1 71 = .ok (.istore 4, 2) := by decide +kernel
theorem d_Model_gain_73 : decode M_Model_gain.2.1 73 = .ok (.iload 5, 2) := by decide +kernel
theorem d_Model_gain_75 : decode M_Model_gain.2.1 75 = .ok (.aload_n 0, 1) := by decide +kernel
theorem d_Model_gain_76 : decode M_Model_gain.2.1 76 = .ok (.iload 6, 2) := by decide +kernel
theorem d_Model_gain_78 : decode M_Model_gain.2.1 78 = .ok (.iconst 0, 1) := by decide +kernel
theorem d_Model_gain_79 : decode M_Model_gain.2.1 79 = .ok (.invokevirtual 305, 3) := by decide +kernel
theorem d_Model_gain_82 : decode M_Model_gain.2.1 82 = .ok (.iload_n 3, 1) := by decide +kernel
theorem d_Model_gain_83 : decode M_Model_gain.2.1 83 = .ok (.if_icmp .ne 13, 3) := by decide +kernel
theorem d_Model_gain_86 : decode M_Model_gain.2.1 86 = .ok (.aload_n 0, 1) := by decide +kernel
theorem d_Model_gain_87 : decode M_Model_gain.2.1 87 = .ok (.iload 6, 2) := by decide +kernel
theorem d_Model_gain_89 : decode M_Model_gain.2.1 89 = .ok (.iconst 4, 1) := by decide +kernel
theorem d_Model_gain_90 : decode M_Model_gain.2.1 90 = .ok (.invokevirtual 305, 3) := by decide +kernel
theorem d_Model_gain_93 : decode M_Model_gain.2.1 93 = .ok (.goto 4, 3) := by decide +kernel
theorem d_Model_gain_96 : decode M_Model_gain.2.1 96 = .ok (.iconst 0, 1) := by decide +kernel
theorem d_Model_gain_97 : decode M_Model_gain.2.1 97 = .ok (.iadd, 1) := by decide +kernel
theorem d_Model_gain_98 : decode M_Model_gain.2.1 98 = .ok (.istore 5, 2) := by decide +kernel
theorem d_Model_gain_100 : decode M_Model_gain.2.1 100 = .ok (.iinc 6 1, 3) := by decide +kernel
theorem d_Model_gain_103 : decode M_Model_gain.2.1 103 = .ok (.goto (-84), 3) := by decide +kernel
theorem d_Model_gain_106 : decode M_Model_gain.2.1 106 = .ok (.iload 5, 2) := by decide +kernel
theorem d_Model_gain_108 : decode M_Model_gain.2.1 108 = .ok (.ireturn, 1) := by decide +kernel

/-! decode rows of 21.roll (by program) -/
theorem d_Rule_clear_0 : decode M_Rule_clear.2.1 0 = .ok (.aload_n 0, 1) := by decide +kernel
theorem d_Rule_clear_1 : decode M_Rule_clear.2.1 1 = .ok (.iconst 0, 1) := by decide +kernel
theorem d_Rule_clear_2 : decode M_Rule_clear.2.1 2 = .ok (.putfield 21, 3) := by decide +kernel
theorem d_Rule_clear_5 : decode M_Rule_clear.2.1 5 = .ok (.return_, 1) := by decide +kernel
theorem d_Roll_clear_0 : decode M_Roll_clear.2.1 0 = .ok (.aload_n 0, 1) := by decide +kernel
theorem d_Roll_clear_1 : decode M_Roll_clear.2.1 1 = .ok (.iconst 0, 1) := by decide +kernel
theorem d_Roll_clear_2 : decode M_Roll_clear.2.1 2 = .ok (.putfield 28, 3) := by decide +kernel
theorem d_Roll_clear_5 : decode M_Roll_clear.2.1 5 = .ok (.aload_n 0, 1) := by decide +kernel
theorem d_Roll_clear_6 : decode M_Roll_clear.2.1 6 = .ok (.bipush 40, 2) := by decide +kernel
theorem d_Roll_clear_8 : decode M_Roll_clear.2.1 8 = .ok (.putfield 32, 3) := by decide +kernel
theorem d_Roll_clear_11 : decode M_Roll_clear.2.1 11 = .ok (.aload_n 0, 1) := by decide +kernel
theorem d_Roll_clear_12 : decode M_Roll_clear.2.1 12 = .ok (.bipush 60, 2) := by decide +kernel
theorem d_Roll_clear_14 : decode M_Roll_clear.2.1 14 = .ok (.putfield 35, 3) := by decide +kernel
theorem d_Roll_clear_17 : decode M_Roll_clear.2.1 17 = .ok (.aload_n 0, 1) := by decide +kernel
theorem d_Roll_clear_18 : decode M_Roll_clear.2.1 18 = .ok (.iconst 3, 1) := by decide +kernel
theorem d_Roll_clear_19 : decode M_Roll_clear.2.1 19 = .ok (.putfield 38, 3) := by decide +kernel
theorem d_Roll_clear_22 : decode M_Roll_clear.2.1 22 = .ok (.aload_n 0, 1) := by decide +kernel
theorem d_Roll_clear_23 : decode M_Roll_clear.2.1 23 = .ok (.getfield 24, 3) := by decide +kernel
theorem d_Roll_clear_26 : decode M_Roll_clear.2.1 26 = .ok (.invokevirtual 41, 3) := by decide +kernel
theorem d_Roll_clear_29 : decode M_Roll_clear.2.1 29 = .ok (.return_, 1) := by decide +kernel
theorem d_Rule_take_0 : decode M_Rule_take.2.1 0 = .ok (.aload_n 0, 1) := by decide +kernel
theorem d_Rule_take_1 : decode M_Rule_take.2.1 1 = .ok (.aload_n 1, 1) := by decide +kernel
theorem d_Rule_take_2 : decode M_Rule_take.2.1 2 = .ok (.getfield 21, 3) := by decide +kernel
theorem d_Rule_take_5 : decode M_Rule_take.2.1 5 = .ok (.putfield 21, 3) := by decide +kernel
theorem d_Rule_take_8 : decode M_Rule_take.2.1 8 = .ok (.aload_n 1, 1) := by decide +kernel
theorem d_Rule_take_9 : decode M_Rule_take.2.1 9 = .ok (.getfield 9, 3) := by decide +kernel
theorem d_Rule_take_12 : decode M_Rule_take.2.1 12 = .ok (.iconst 0, 1) := by decide +kernel
theorem d_Rule_take_13 : decode M_Rule_take.2.1 13 = .ok (.aload_n 0, 1) := by decide +kernel
theorem d_Rule_take_14 : decode M_Rule_take.2.1 14 = .ok (.getfield 9, 3) := by decide +kernel
theorem d_Rule_take_17 : decode M_Rule_take.2.1 17 = .ok (.iconst 0, 1) := by decide +kernel
theorem d_Rule_take_18 : decode M_Rule_take.2.1 18 = .ok (.aload_n 0, 1) := by decide +kernel
theorem d_Rule_take_19 : decode M_Rule_take.2.1 19 = .ok (.getfield 21, 3) := by decide +kernel
theorem d_Rule_take_22 : decode M_Rule_take.2.1 22 = .ok (.invokestatic 25, 3) := by decide +kernel
theorem d_Rule_take_25 : decode M_Rule_take.2.1 25 = .ok (.return_, 1) := by decide +kernel
theorem d_Roll_take_0 : decode M_Roll_take.2.1 0 = .ok (.aload_n 0, 1) := by decide +kernel
theorem d_Roll_take_1 : decode M_Roll_take.2.1 1 = .ok (.aload_n 1, 1) := by decide +kernel
theorem d_Roll_take_2 : decode M_Roll_take.2.1 2 = .ok (.getfield 28, 3) := by decide +kernel
theorem d_Roll_take_5 : decode M_Roll_take.2.1 5 = .ok (.putfield 28, 3) := by decide +kernel
theorem d_Roll_take_8 : decode M_Roll_take.2.1 8 = .ok (.aload_n 0, 1) := by decide +kernel
theorem d_Roll_take_9 : decode M_Roll_take.2.1 9 = .ok (.aload_n 1, 1) := by decide +kernel
theorem d_Roll_take_10 : decode M_Roll_take.2.1 10 = .ok (.getfield 32, 3) := by decide +kernel
theorem d_Roll_take_13 : decode M_Roll_take.2.1 13 = .ok (.putfield 32, 3) := by decide +kernel
theorem d_Roll_take_16 : decode M_Roll_take.2.1 16 = .ok (.aload_n 0, 1) := by decide +kernel
theorem d_Roll_take_17 : decode M_Roll_take.2.1 17 = .ok (.aload_n 1, 1) := by decide +kernel
theorem d_Roll_take_18 : decode M_Roll_take.2.1 18 = .ok (.getfield 35, 3) := by decide +kernel
theorem d_Roll_take_21 : decode M_Roll_take.2.1 21 = .ok (.putfield 35, 3) := by decide +kernel
theorem d_Roll_take_24 : decode M_Roll_take.2.1 24 = .ok (.aload_n 0, 1) := by decide +kernel
theorem d_Roll_take_25 : decode M_Roll_take.2.1 25 = .ok (.aload_n 1, 1) := by decide +kernel
theorem d_Roll_take_26 : decode M_Roll_take.2.1 26 = .ok (.getfield 38, 3) := by decide +kernel
theorem d_Roll_take_29 : decode M_Roll_take.2.1 29 = .ok (.putfield 38, 3) := by decide +kernel
theorem d_Roll_take_32 : decode M_Roll_take.2.1 32 = .ok (.aload_n 1, 1) := by decide +kernel
theorem d_Roll_take_33 : decode M_Roll_take.2.1 33 = .ok (.getfield 9, 3) := by decide +kernel
theorem d_Roll_take_36 : decode M_Roll_take.2.1 36 = .ok (.iconst 0, 1) := by decide +kernel
theorem d_Roll_take_37 : decode M_Roll_take.2.1 37 = .ok (.aload_n 0, 1) := by decide +kernel
theorem d_Roll_take_38 : decode M_Roll_take.2.1 38 = .ok (.getfield 9, 3) := by decide +kernel
theorem d_Roll_take_41 : decode M_Roll_take.2.1 41 = .ok (.iconst 0, 1) := by decide +kernel
theorem d_Roll_take_42 : decode M_Roll_take.2.1 42 = .ok (.bipush 6, 2) := by decide +kernel
theorem d_Roll_take_44 : decode M_Roll_take.2.1 44 = .ok (.invokestatic 44, 3) := by decide +kernel
theorem d_Roll_take_47 : decode M_Roll_take.2.1 47 = .ok (.aload_n 1, 1) := by decide +kernel
theorem d_Roll_take_48 : decode M_Roll_take.2.1 48 = .ok (.getfield 15, 3) := by decide +kernel
theorem d_Roll_take_51 : decode M_Roll_take.2.1 51 = .ok (.iconst 0, 1) := by decide +kernel
theorem d_Roll_take_52 : decode M_Roll_take.2.1 52 = .ok (.aload_n 0, 1) := by decide +kernel
theorem d_Roll_take_53 : decode M_Roll_take.2.1 53 = .ok (.getfield 15, 3) := by decide +kernel
theorem d_Roll_take_56 : decode M_Roll_take.2.1 56 = .ok (.iconst 0, 1) := by decide +kernel
theorem d_Roll_take_57 : decode M_Roll_take.2.1 57 = .ok (.bipush 6, 2) := by decide +kernel
theorem d_Roll_take_59 : decode M_Roll_take.2.1 59 = .ok (.invokestatic 44, 3) := by decide +kernel
theorem d_Roll_take_62 : decode M_Roll_take.2.1 62 = .ok (.aload_n 1, 1) := by decide +kernel
theorem d_Roll_take_63 : decode M_Roll_take.2.1 63 = .ok (.getfield 18, 3) := by decide +kernel
theorem d_Roll_take_66 : decode M_Roll_take.2.1 66 = .ok (.iconst 0, 1) := by decide +kernel
theorem d_Roll_take_67 : decode M_Roll_take.2.1 67 = .ok (.aload_n 0, 1) := by decide +kernel
theorem d_Roll_take_68 : decode M_Roll_take.2.1 68 = .ok (.getfield 18, 3) := by decide +kernel
theorem d_Roll_take_71 : decode M_Roll_take.2.1 71 = .ok (.iconst 0, 1) := by decide +kernel
theorem d_Roll_take_72 : decode M_Roll_take.2.1 72 = .ok (.aload_n 0, 1) := by decide +kernel
theorem d_Roll_take_73 : decode M_Roll_take.2.1 73 = .ok (.getfield 18, 3) := by decide +kernel
theorem d_Roll_take_76 : decode M_Roll_take.2.1 76 = .ok (.arraylength, 1) := by decide +kernel
theorem d_Roll_take_77 : decode M_Roll_take.2.1 77 = .ok (.invokestatic 44, 3) := by decide +kernel
theorem d_Roll_take_80 : decode M_Roll_take.2.1 80 = .ok (.aload_n 0, 1) := by decide +kernel
theorem d_Roll_take_81 : decode M_Roll_take.2.1 81 = .ok (.getfield 24, 3) := by decide +kernel
theorem d_Roll_take_84 : decode M_Roll_take.2.1 84 = .ok (.aload_n 1, 1) := by decide +kernel
theorem d_Roll_take_85 : decode M_Roll_take.2.1 85 = .ok (.getfield 24, 3) := by decide +kernel
theorem d_Roll_take_88 : decode M_Roll_take.2.1 88 = .ok (.invokevirtual 50, 3) := by decide +kernel
theorem d_Roll_take_91 : decode M_Roll_take.2.1 91 = .ok (.return_, 1) := by decide +kernel
theorem d_Roll_cell_0 : decode M_Roll_cell.2.1 0 = .ok (.aload_n 0, 1) := by decide +kernel
theorem d_Roll_cell_1 : decode M_Roll_cell.2.1 1 = .ok (.getfield 18, 3) := by decide +kernel
theorem d_Roll_cell_4 : decode M_Roll_cell.2.1 4 = .ok (.iload_n 1, 1) := by decide +kernel
theorem d_Roll_cell_5 : decode M_Roll_cell.2.1 5 = .ok (.bipush 8, 2) := by decide +kernel
theorem d_Roll_cell_7 : decode M_Roll_cell.2.1 7 = .ok (.imul, 1) := by decide +kernel
theorem d_Roll_cell_8 : decode M_Roll_cell.2.1 8 = .ok (.iload_n 2, 1) := by decide +kernel
theorem d_Roll_cell_9 : decode M_Roll_cell.2.1 9 = .ok (.iadd, 1) := by decide +kernel
theorem d_Roll_cell_10 : decode M_Roll_cell.2.1 10 = .ok (.iaload, 1) := by decide +kernel
theorem d_Roll_cell_11 : decode M_Roll_cell.2.1 11 = .ok (.ireturn, 1) := by decide +kernel
theorem d_Roll_put_0 : decode M_Roll_put.2.1 0 = .ok (.aload_n 0, 1) := by decide +kernel
theorem d_Roll_put_1 : decode M_Roll_put.2.1 1 = .ok (.getfield 18, 3) := by decide +kernel
theorem d_Roll_put_4 : decode M_Roll_put.2.1 4 = .ok (.iload_n 1, 1) := by decide +kernel
theorem d_Roll_put_5 : decode M_Roll_put.2.1 5 = .ok (.bipush 8, 2) := by decide +kernel
theorem d_Roll_put_7 : decode M_Roll_put.2.1 7 = .ok (.imul, 1) := by decide +kernel
theorem d_Roll_put_8 : decode M_Roll_put.2.1 8 = .ok (.iload_n 2, 1) := by decide +kernel
theorem d_Roll_put_9 : decode M_Roll_put.2.1 9 = .ok (.iadd, 1) := by decide +kernel
theorem d_Roll_put_10 : decode M_Roll_put.2.1 10 = .ok (.iload_n 3, 1) := by decide +kernel
theorem d_Roll_put_11 : decode M_Roll_put.2.1 11 = .ok (.iastore, 1) := by decide +kernel
theorem d_Roll_put_12 : decode M_Roll_put.2.1 12 = .ok (.return_, 1) := by decide +kernel
theorem d_Roll_longest_0 : decode M_Roll_longest.2.1 0 = .ok (.aload_n 0, 1) := by decide +kernel
theorem d_Roll_longest_1 : decode M_Roll_longest.2.1 1 = .ok (.getfield 9, 3) := by decide +kernel
theorem d_Roll_longest_4 : decode M_Roll_longest.2.1 4 = .ok (.iload_n 1, 1) := by decide +kernel
theorem d_Roll_longest_5 : decode M_Roll_longest.2.1 5 = .ok (.iaload, 1) := by decide +kernel
theorem d_Roll_longest_6 : decode M_Roll_longest.2.1 6 = .ok (.lookupswitch 37 #[(1, 26), (2, 35)], 26) := by decide +kernel
theorem d_Roll_longest_32 : decode M_Roll_longest.2.1 32 = .ok (.iconst 5, 1) := by decide +kernel
theorem d_Roll_longest_33 : decode M_Roll_longest.2.1 33 = .ok (.aload_n 0, 1) := by decide +kernel
theorem d_Roll_longest_34 : decode M_Roll_longest.2.1 34 = .ok (.getfield 32, 3) := by decide +kernel
theorem d_Roll_longest_37 : decode M_Roll_longest.2.1 37 = .ok (.invokestatic 54, 3) := by decide +kernel
theorem d_Roll_longest_40 : decode M_Roll_longest.2.1 40 = .ok (.ireturn, 1) := by decide +kernel
theorem d_Roll_longest_41 : decode M_Roll_longest.2.1 41 = .ok (.iconst 0, 1) := by decide +kernel
theorem d_Roll_longest_42 : decode M_Roll_longest.2.1 42 = .ok (.ireturn, 1) := by decide +kernel
theorem d_Roll_longest_43 : decode M_Roll_longest.2.1 43 = .ok (.aload_n 0, 1) := by decide +kernel
theorem d_Roll_longest_44 : decode M_Roll_longest.2.1 44 = .ok (.getfield 32, 3) := by decide +kernel
theorem d_Roll_longest_47 : decode M_Roll_longest.2.1 47 = .ok (.ireturn, 1) := by decide +kernel
theorem d_Rule_isNone_0 : decode M_Rule_isNone.2.1 0 = .ok (.aload_n 0, 1) := by decide +kernel
theorem d_Rule_isNone_1 : decode M_Rule_isNone.2.1 1 = .ok (.getfield 21, 3) := by decide +kernel
theorem d_Rule_isNone_4 : decode M_Rule_isNone.2.1 4 = .ok (.ifCond .ne 7, 3) := by decide +kernel
theorem d_Rule_isNone_7 : decode M_Rule_isNone.2.1 7 = .ok (.iconst 1, 1) := by decide +kernel
theorem d_Rule_isNone_8 : decode M_Rule_isNone.2.1 8 = .ok (.goto 4, 3) := by decide +kernel
theorem d_Rule_isNone_11 : decode M_Rule_isNone.2.1 11 = .ok (.iconst 0, 1) := by decide +kernel
theorem d_Rule_isNone_12 : decode M_Rule_isNone.2.1 12 = .ok (.ireturn, 1) := by decide +kernel
theorem d_Rule_add_0 : decode M_Rule_add.2.1 0 = .ok (.aload_n 0, 1) := by decide +kernel
theorem d_Rule_add_1 : decode M_Rule_add.2.1 1 = .ok (.getfield 21, 3) := by decide +kernel
theorem d_Rule_add_4 : decode M_Rule_add.2.1 4 = .ok (.sipush 700, 3) := by decide +kernel
theorem d_Rule_add_7 : decode M_Rule_add.2.1 7 = .ok (.if_icmp .ge 23, 3) := by decide +kernel
theorem d_Rule_add_10 : decode M_Rule_add.2.1 10 = .ok (.aload_n 0, 1) := by decide +kernel
theorem d_Rule_add_11 : decode M_Rule_add.2.1 11 = .ok (.getfield 9, 3) := by decide +kernel
theorem d_Rule_add_14 : decode M_Rule_add.2.1 14 = .ok (.aload_n 0, 1) := by decide +kernel
theorem d_Rule_add_15 : decode M_Rule_add.2.1 15 = .ok (.getfield 21, 3) := by decide +kernel
theorem d_Rule_add_18 : decode M_Rule_add.2.1 18 = .ok (.iload_n 1, 1) := by decide +kernel
theorem d_Rule_add_19 : decode M_Rule_add.2.1 19 = .ok (.iastore, 1) := by decide +kernel
theorem d_Rule_add_20 : decode M_Rule_add.2.1 20 = .ok (.aload_n 0, 1) := by decide +kernel
theorem d_Rule_add_21 : decode M_Rule_add.2.1 21 = .ok (.dup, 1) := by decide +kernel
theorem d_Rule_add_22 : decode M_Rule_add.2.1 22 = .ok (.getfield 21, 3) := by decide +kernel
theorem d_Rule_add_25 : decode M_Rule_add.2.1 25 = .ok (.iconst 1, 1) := by decide +kernel
theorem d_Rule_add_26 : decode M_Rule_add.2.1 26 = .ok (.iadd, 1) := by decide +kernel
theorem d_Rule_add_27 : decode M_Rule_add.2.1 27 = .ok (.putfield 21, 3) := by decide +kernel
theorem d_Rule_add_30 : decode M_Rule_add.2.1 30 = .ok (.return_, 1) := by decide +kernel
theorem d_Rule_truth_0 : decode M_Rule_truth.2.1 0 = .ok (.iload_n 0, 1) := by decide +kernel
theorem d_Rule_truth_1 : decode M_Rule_truth.2.1 1 = .ok (.ifCond .eq 7, 3) := by decide +kernel
theorem d_Rule_truth_4 : decode M_Rule_truth.2.1 4 = .ok (.iconst 1, 1) := by decide +kernel
theorem d_Rule_truth_5 : decode M_Rule_truth.2.1 5 = .ok (.goto 4, 3) := by decide +kernel
theorem d_Rule_truth_8 : decode M_Rule_truth.2.1 8 = .ok (.iconst 0, 1) := by decide +kernel
theorem d_Rule_truth_9 : decode M_Rule_truth.2.1 9 = .ok (.ireturn, 1) := by decide +kernel
theorem d_Rule_joined_0 : decode M_Rule_joined.2.1 0 = .ok (.iload_n 0, 1) := by decide +kernel
theorem d_Rule_joined_1 : decode M_Rule_joined.2.1 1 = .ok (.tableswitch 137 (-19) (-11) #[125, 121, 117, 113, 99, 85, 137, 68, 51], 51) := by decide +kernel
theorem d_Rule_joined_52 : decode M_Rule_joined.2.1 52 = .ok (.iload_n 1, 1) := by decide +kernel
theorem d_Rule_joined_53 : decode M_Rule_joined.2.1 53 = .ok (.ifCond .ne 7, 3) := by decide +kernel
theorem d_Rule_joined_56 : decode M_Rule_joined.2.1 56 = .ok (.iload_n 2, 1) := by decide +kernel
theorem d_Rule_joined_57 : decode M_Rule_joined.2.1 57 = .ok (.ifCond .eq 7, 3) := by decide +kernel
theorem d_Rule_joined_60 : decode M_Rule_joined.2.1 60 = .ok (.iconst 1, 1) := by decide +kernel
theorem d_Rule_joined_61 : decode M_Rule_joined.2.1 61 = .ok (.goto 4, 3) := by decide +kernel
theorem d_Rule_joined_64 : decode M_Rule_joined.2.1 64 = .ok (.iconst 0, 1) := by decide +kernel
theorem d_Rule_joined_65 : decode M_Rule_joined.2.1 65 = .ok (.invokestatic 31, 3) := by decide +kernel
theorem d_Rule_joined_68 : decode M_Rule_joined.2.1 68 = .ok (.ireturn, 1) := by decide +kernel
theorem d_Rule_joined_69 : decode M_Rule_joined.2.1 69 = .ok (.iload_n 1, 1) := by decide +kernel
theorem d_Rule_joined_70 : decode M_Rule_joined.2.1 70 = .ok (.ifCond .eq 11, 3) := by decide +kernel
theorem d_Rule_joined_73 : decode M_Rule_joined.2.1 73 = .ok (.iload_n 2, 1) := by decide +kernel
theorem d_Rule_joined_74 : decode M_Rule_joined.2.1 74 = .ok (.ifCond .eq 7, 3) := by decide +kernel
theorem d_Rule_joined_77 : decode M_Rule_joined.2.1 77 = .ok (.iconst 1, 1) := by decide +kernel
theorem d_Rule_joined_78 : decode M_Rule_joined.2.1 78 = .ok (.goto 4, 3) := by decide +kernel
theorem d_Rule_joined_81 : decode M_Rule_joined.2.1 81 = .ok (.iconst 0, 1) := by decide +kernel
theorem d_Rule_joined_82 : decode M_Rule_joined.2.1 82 = .ok (.invokestatic 31, 3) := by decide +kernel
theorem d_Rule_joined_85 : decode M_Rule_joined.2.1 85 = .ok (.ireturn, 1) := by decide +kernel
theorem d_Rule_joined_86 : decode M_Rule_joined.2.1 86 = .ok (.iload_n 1, 1) := by decide +kernel
theorem d_Rule_joined_87 : decode M_Rule_joined.2.1 87 = .ok (.iload_n 2, 1) := by decide +kernel
theorem d_Rule_joined_88 : decode M_Rule_joined.2.1 88 = .ok (.if_icmp .ge 7, 3) := by decide +kernel
theorem d_Rule_joined_91 : decode M_Rule_joined.2.1 91 = .ok (.iconst 1, 1) := by decide +kernel
theorem d_Rule_joined_92 : decode M_Rule_joined.2.1 92 = .ok (.goto 4, 3) := by decide +kernel
theorem d_Rule_joined_95 : decode M_Rule_joined.2.1 95 = .ok (.iconst 0, 1) := by decide +kernel
theorem d_Rule_joined_96 : decode M_Rule_joined.2.1 96 = .ok (.invokestatic 31, 3) := by decide +kernel
theorem d_Rule_joined_99 : decode M_Rule_joined.2.1 99 = .ok (.ireturn, 1) := by decide +kernel
theorem d_Rule_joined_100 : decode M_Rule_joined.2.1 100 = .ok (.iload_n 1, 1) := by decide +kernel
theorem d_Rule_joined_101 : decode M_Rule_joined.2.1 101 = .ok (.iload_n 2, 1) := by decide +kernel
theorem d_Rule_joined_102 : decode M_Rule_joined.2.1 102 = .ok (.if_icmp .ne 7, 3) := by decide +kernel
theorem d_Rule_joined_105 : decode M_Rule_joined.2.1 105 = .ok (.iconst 1, 1) := by decide +kernel
theorem d_Rule_joined_106 : decode M_Rule_joined.2.1 106 = .ok (.goto 4, 3) := by decide +kernel
theorem d_Rule_joined_109 : decode M_Rule_joined.2.1 109 = .ok (.iconst 0, 1) := by decide +kernel
theorem d_Rule_joined_110 : decode M_Rule_joined.2.1 110 = .ok (.invokestatic 31, 3) := by decide +kernel
theorem d_Rule_joined_113 : decode M_Rule_joined.2.1 113 = .ok (.ireturn, 1) := by decide +kernel
theorem d_Rule_joined_114 : decode M_Rule_joined.2.1 114 = .ok (.iload_n 1, 1) := by decide +kernel
theorem d_Rule_joined_115 : decode M_Rule_joined.2.1 115 = .ok (.iload_n 2, 1) := by decide +kernel
theorem d_Rule_joined_116 : decode M_Rule_joined.2.1 116 = .ok (.iadd, 1) := by decide +kernel
theorem d_Rule_joined_117 : decode M_Rule_joined.2.1 117 = .ok (.ireturn, 1) := by decide +kernel
theorem d_Rule_joined_118 : decode M_Rule_joined.2.1 118 = .ok (.iload_n 1, 1) := by decide +kernel
theorem d_Rule_joined_119 : decode M_Rule_joined.2.1 119 = .ok (.iload_n 2, 1) := by decide +kernel
theorem d_Rule_joined_120 : decode M_Rule_joined.2.1 120 = .ok (.isub, 1) := by decide +kernel
theorem d_Rule_joined_121 : decode M_Rule_joined.2.1 121 = .ok (.ireturn, 1) := by decide +kernel
theorem d_Rule_joined_122 : decode M_Rule_joined.2.1 122 = .ok (.iload_n 1, 1) := by decide +kernel
theorem d_Rule_joined_123 : decode M_Rule_joined.2.1 123 = .ok (.iload_n 2, 1) := by decide +kernel
theorem d_Rule_joined_124 : decode M_Rule_joined.2.1 124 = .ok (.imul, 1) := by decide +kernel
theorem d_Rule_joined_125 : decode M_Rule_joined.2.1 125 = .ok (.ireturn, 1) := by decide +kernel
theorem d_Rule_joined_126 : decode M_Rule_joined.2.1 126 = .ok (.iload_n 2, 1) := by decide +kernel
theorem d_Rule_joined_127 : decode M_Rule_joined.2.1 127 = .ok (.ifCond .ne 7, 3) := by decide +kernel
theorem d_Rule_joined_130 : decode M_Rule_joined.2.1 130 = .ok (.iconst 0, 1) := by decide +kernel
theorem d_Rule_joined_131 : decode M_Rule_joined.2.1 131 = .ok (.goto 6, 3) := by decide +kernel
theorem d_Rule_joined_134 : decode M_Rule_joined.2.1 134 = .ok (.iload_n 1, 1) := by decide +kernel
theorem d_Rule_joined_135 : decode M_Rule_joined.2.1 135 = .ok (.iload_n 2, 1) := by decide +kernel
theorem d_Rule_joined_136 : decode M_Rule_joined.2.1 136 = .ok (.idiv, 1) := by decide +kernel
theorem d_Rule_joined_137 : decode M_Rule_joined.2.1 137 = .ok (.ireturn, 1) := by decide +kernel
theorem d_Rule_joined_138 : decode M_Rule_joined.2.1 138 = .ok (.iconst 0, 1) := by decide +kernel
theorem d_Rule_joined_139 : decode M_Rule_joined.2.1 139 = .ok (.ireturn, 1) := by decide +kernel
theorem d_Rule_holds_0 : decode M_Rule_holds.2.1 0 = .ok (.iconst 0, 1) := by decide +kernel
theorem d_Rule_holds_1 : decode M_Rule_holds.2.1 1 = .ok (.istore_n 1, 1) := by decide +kernel
theorem d_Rule_holds_2 : decode M_Rule_holds.2.1 2 = .ok (.iconst 0, 1) := by decide +kernel
theorem d_Rule_holds_3 : decode M_Rule_holds.2.1 3 = .ok (.istore_n 2, 1) := by decide +kernel
theorem d_Rule_holds_4 : decode M_Rule_holds.2.1 4 = .ok (.iload_n 2, 1) := by decide +kernel
theorem d_Rule_holds_5 : decode M_Rule_holds.2.1 5 = .ok (.aload_n 0, 1) := by decide +kernel
theorem d_Rule_holds_6 : decode M_Rule_holds.2.1 6 = .ok (.getfield 21, 3) := by decide +kernel
theorem d_Rule_holds_9 : decode M_Rule_holds.2.1 9 = .ok (.if_icmp .ge 139, 3) := by decide +kernel
theorem d_Rule_holds_12 : decode M_Rule_holds.2.1 12 = .ok (.aload_n 0, 1) := by decide +kernel
theorem d_Rule_holds_13 : decode M_Rule_holds.2.1 13 = .ok (.getfield 9, 3) := by decide +kernel
theorem d_Rule_holds_16 : decode M_Rule_holds.2.1 16 = .ok (.iload_n 2, 1) := by decide +kernel
theorem d_Rule_holds_17 : decode M_Rule_holds.2.1 17 = .ok (.iaload, 1) := by decide +kernel
theorem d_Rule_holds_18 : decode M_Rule_holds.2.1 18 = .ok (.istore_n 3, 1) := by decide +kernel
theorem d_Rule_holds_19 : decode M_Rule_holds.2.1 19 = .ok (.iload_n 3, 1) := by decide +kernel
theorem d_Rule_holds_20 : decode M_Rule_holds.2.1 20 = .ok (.bipush (-7), 2) := by decide +kernel
theorem d_Rule_holds_22 : decode M_Rule_holds.2.1 22 = .ok (.if_icmp .lt 37, 3) := by decide +kernel
theorem d_Rule_holds_25 : decode M_Rule_holds.2.1 25 = .ok (.iload_n 1, 1) := by decide +kernel
theorem d_Rule_holds_26 : decode M_Rule_holds.2.1 26 = .ok (.bipush 40, 2) := by decide +kernel
theorem d_Rule_holds_28 : decode M_Rule_holds.2.1 28 = .ok (.if_icmp .ge 31, 3) := by decide +kernel
theorem d_Rule_holds_31 : decode M_Rule_holds.2.1 31 = .ok (.aload_n 0, 1) := by decide +kernel
theorem d_Rule_holds_32 : decode M_Rule_holds.2.1 32 = .ok (.getfield 18, 3) := by decide +kernel
theorem d_Rule_holds_35 : decode M_Rule_holds.2.1 35 = .ok (.iload_n 1, 1) := by decide +kernel
theorem d_Rule_holds_36 : decode M_Rule_holds.2.1 36 = .ok (.iload_n 3, 1) := by decide +kernel
theorem d_Rule_holds_37 : decode M_Rule_holds.2.1 37 = .ok (.ifCond .lt 7, 3) := by decide +kernel
theorem d_Rule_holds_40 : decode M_Rule_holds.2.1 40 = .ok (.iload_n 3, 1) := by decide +kernel
theorem d_Rule_holds_41 : decode M_Rule_holds.2.1 41 = .ok (.goto 11, 3) := by decide +kernel
theorem d_Rule_holds_44 : decode M_Rule_holds.2.1 44 = .ok (.aload_n 0, 1) := by decide +kernel
theorem d_Rule_holds_45 : decode M_Rule_holds.2.1 45 = .ok (.getfield 15, 3) := by decide +kernel
theorem d_Rule_holds_48 : decode M_Rule_holds.2.1 48 = .ok (.iconst (-1), 1) := by decide +kernel
theorem d_Rule_holds_49 : decode M_Rule_holds.2.1 49 = .ok (.iload_n 3, 1) := by decide +kernel
theorem d_Rule_holds_50 : decode M_Rule_holds.2.1 50 = .ok (.isub, 1) := by decide +kernel
theorem d_Rule_holds_51 : decode M_Rule_holds.2.1 51 = .ok (.iaload, 1) := by decide +kernel
theorem d_Rule_holds_52 : decode M_Rule_holds.2.1 52 = .ok (.iastore, 1) := by decide +kernel
theorem d_Rule_holds_53 : decode M_Rule_holds.2.1 53 = .ok (.iinc 1 1, 3) := by decide +kernel
theorem d_Rule_holds_56 : decode M_Rule_holds.2.1 56 = .ok (.goto 86, 3) := by decide +kernel
theorem d_Rule_holds_59 : decode M_Rule_holds.2.1 59 = .ok (.iload_n 3, 1) := by decide +kernel
theorem d_Rule_holds_60 : decode M_Rule_holds.2.1 60 = .ok (.bipush (-13), 2) := by decide +kernel
theorem d_Rule_holds_62 : decode M_Rule_holds.2.1 62 = .ok (.if_icmp .ne 38, 3) := by decide +kernel
theorem d_Rule_holds_65 : decode M_Rule_holds.2.1 65 = .ok (.iload_n 1, 1) := by decide +kernel
theorem d_Rule_holds_66 : decode M_Rule_holds.2.1 66 = .ok (.iconst 1, 1) := by decide +kernel
theorem d_Rule_holds_67 : decode M_Rule_holds.2.1 67 = .ok (.if_icmp .lt 33, 3) := by decide +kernel
theorem d_Rule_holds_70 : decode M_Rule_holds.2.1 70 = .ok (.aload_n 0, 1) := by decide +kernel
theorem d_Rule_holds_71 : decode M_Rule_holds.2.1 71 = .ok (.getfield 18, 3) := by decide +kernel
theorem d_Rule_holds_74 : decode M_Rule_holds.2.1 74 = .ok (.iload_n 1, 1) := by decide +kernel
theorem d_Rule_holds_75 : decode M_Rule_holds.2.1 75 = .ok (.iconst 1, 1) := by decide +kernel
theorem d_Rule_holds_76 : decode M_Rule_holds.2.1 76 = .ok (.isub, 1) := by decide +kernel
theorem d_Rule_holds_77 : decode M_Rule_holds.2.1 77 = .ok (.aload_n 0, 1) := by decide +kernel
theorem d_Rule_holds_78 : decode M_Rule_holds.2.1 78 = .ok (.getfield 18, 3) := by decide +kernel
theorem d_Rule_holds_81 : decode M_Rule_holds.2.1 81 = .ok (.iload_n 1, 1) := by decide +kernel
theorem d_Rule_holds_82 : decode M_Rule_holds.2.1 82 = .ok (.iconst 1, 1) := by decide +kernel
theorem d_Rule_holds_83 : decode M_Rule_holds.2.1 83 = .ok (.isub, 1) := by decide +kernel
theorem d_Rule_holds_84 : decode M_Rule_holds.2.1 84 = .ok (.iaload, 1) := by decide +kernel
theorem d_Rule_holds_85 : decode M_Rule_holds.2.1 85 = .ok (.ifCond .ne 7, 3) := by decide +kernel
theorem d_Rule_holds_88 : decode M_Rule_holds.2.1 88 = .ok (.iconst 1, 1) := by decide +kernel
theorem d_Rule_holds_89 : decode M_Rule_holds.2.1 89 = .ok (.goto 4, 3) := by decide +kernel
theorem d_Rule_holds_92 : decode M_Rule_holds.2.1 92 = .ok (.iconst 0, 1) := by decide +kernel
theorem d_Rule_holds_93 : decode M_Rule_holds.2.1 93 = .ok (.invokestatic 31, 3) := by decide +kernel
theorem d_Rule_holds_96 : decode M_Rule_holds.2.1 96 = .ok (.iastore, 1) := by decide +kernel
theorem d_Rule_holds_97 : decode M_Rule_holds.2.1 97 = .ok (.goto 45, 3) := by decide +kernel
theorem d_Rule_holds_100 : decode M_Rule_holds.2.1 100 = .ok (.iload_n 3, 1) := by decide +kernel
theorem d_Rule_holds_101 : decode M_Rule_holds.2.1 101 = .ok (.bipush (-7), 2) := by decide +kernel
theorem d_Rule_holds_103 : decode M_Rule_holds.2.1 103 = .ok (.if_icmp .ge 39, 3) := by decide +kernel
theorem d_Rule_holds_106 : decode M_Rule_holds.2.1 106 = .ok (.iload_n 1, 1) := by decide +kernel
theorem d_Rule_holds_107 : decode M_Rule_holds.2.1 107 = .ok (.iconst 2, 1) := by decide +kernel
theorem d_Rule_holds_108 : decode M_Rule_holds.2.1 108 = .ok (.if_icmp .lt 34, 3) := by decide +kernel
theorem d_Rule_holds_111 : decode M_Rule_holds.2.1 111 = .ok (.aload_n 0, 1) := by decide +kernel
theorem d_Rule_holds_112 : decode M_Rule_holds.2.1 112 = .ok (.getfield 18, 3) := by decide +kernel
theorem d_Rule_holds_115 : decode M_Rule_holds.2.1 115 = .ok (.iload_n 1, 1) := by decide +kernel
theorem d_Rule_holds_116 : decode M_Rule_holds.2.1 116 = .ok (.iconst 2, 1) := by decide +kernel
theorem d_Rule_holds_117 : decode M_Rule_holds.2.1 117 = .ok (.isub, 1) := by decide +kernel
theorem d_Rule_holds_118 : decode M_Rule_holds.2.1 118 = .ok (.iload_n 3, 1) := by decide +kernel
theorem d_Rule_holds_119 : decode M_Rule_holds.2.1 119 = .ok (.aload_n 0, 1) := by decide +kernel
theorem d_Rule_holds_120 : decode M_Rule_holds.2.1 120 = .ok (.getfield 18, 3) := by decide +kernel
theorem d_Rule_holds_123 : decode M_Rule_holds.2.1 123 = .ok (.iload_n 1, 1) := by decide +kernel
theorem d_Rule_holds_124 : decode M_Rule_holds.2.1 124 = .ok (.iconst 2, 1) := by decide +kernel
theorem d_Rule_holds_125 : decode M_Rule_holds.2.1 125 = .ok (.isub, 1) := by decide +kernel
theorem d_Rule_holds_126 : decode M_Rule_holds.2.1 126 = .ok (.iaload, 1) := by decide +kernel
theorem d_Rule_holds_127 : decode M_Rule_holds.2.1 127 = .ok (.aload_n 0, 1) := by decide +kernel
theorem d_Rule_holds_128 : decode M_Rule_holds.2.1 128 = .ok (.getfield 18, 3) := by decide +kernel
theorem d_Rule_holds_131 : decode M_Rule_holds.2.1 131 = .ok (.iload_n 1, 1) := by decide +kernel
theorem d_Rule_holds_132 : decode M_Rule_holds.2.1 132 = .ok (.iconst 1, 1) := by decide +kernel
theorem d_Rule_holds_133 : decode M_Rule_holds.2.1 133 = .ok (.isub, 1) := by decide +kernel
theorem d_Rule_holds_134 : decode M_Rule_holds.2.1 134 = .ok (.iaload, 1) := by decide +kernel
theorem d_Rule_holds_135 : decode M_Rule_holds.2.1 135 = .ok (.invokestatic 35, 3) := by decide +kernel
theorem d_Rule_holds_138 : decode M_Rule_holds.2.1 138 = .ok (.iastore, 1) := by decide +kernel
theorem d_Rule_holds_139 : decode M_Rule_holds.2.1 139 = .ok (.iinc 1 (-1), 3) := by decide +kernel
theorem d_Rule_holds_142 : decode M_Rule_holds.2.1 142 = .ok (.iinc 2 1, 3) := by decide +kernel
theorem d_Rule_holds_145 : decode M_Rule_holds.2.1 145 = .ok (.goto (-141), 3) := by decide +kernel
theorem d_Rule_holds_148 : decode M_Rule_holds.2.1 148 = .ok (.aload_n 0, 1) := by decide +kernel
theorem d_Rule_holds_149 : decode M_Rule_holds.2.1 149 = .ok (.getfield 18, 3) := by decide +kernel
theorem d_Rule_holds_152 : decode M_Rule_holds.2.1 152 = .ok (.iconst 0, 1) := by decide +kernel
theorem d_Rule_holds_153 : decode M_Rule_holds.2.1 153 = .ok (.iaload, 1) := by decide +kernel
theorem d_Rule_holds_154 : decode M_Rule_holds.2.1 154 = .ok (.ifCond .eq 7, 3) := by decide +kernel
theorem d_Rule_holds_157 : decode M_Rule_holds.2.1 157 = .ok (.iconst 1, 1) := by decide +kernel
theorem d_Rule_holds_158 : decode M_Rule_holds.2.1 158 = .ok (.goto 4, 3) := by decide +kernel
theorem d_Rule_holds_161 : decode M_Rule_holds.2.1 161 = .ok (.iconst 0, 1) := by decide +kernel
theorem d_Rule_holds_162 : decode M_Rule_holds.2.1 162 = .ok (.ireturn, 1) := by decide +kernel
theorem d_Hall_isWithin_0 : decode M_Hall_isWithin.2.1 0 = .ok (.iload_n 0, 1) := by decide +kernel
theorem d_Hall_isWithin_1 : decode M_Hall_isWithin.2.1 1 = .ok (.ifCond .lt 12, 3) := by decide +kernel
theorem d_Hall_isWithin_4 : decode M_Hall_isWithin.2.1 4 = .ok (.iload_n 0, 1) := by decide +kernel
theorem d_Hall_isWithin_5 : decode M_Hall_isWithin.2.1 5 = .ok (.iload_n 1, 1) := by decide +kernel
theorem d_Hall_isWithin_6 : decode M_Hall_isWithin.2.1 6 = .ok (.if_icmp .gt 7, 3) := by decide +kernel
theorem d_Hall_isWithin_9 : decode M_Hall_isWithin.2.1 9 = .ok (.iconst 1, 1) := by decide +kernel
theorem d_Hall_isWithin_10 : decode M_Hall_isWithin.2.1 10 = .ok (.goto 4, 3) := by decide +kernel
theorem d_Hall_isWithin_13 : decode M_Hall_isWithin.2.1 13 = .ok (.iconst 0, 1) := by decide +kernel
theorem d_Hall_isWithin_14 : decode M_Hall_isWithin.2.1 14 = .ok (.ireturn, 1) := by decide +kernel
theorem d_Hall_isKind_0 : decode M_Hall_isKind.2.1 0 = .ok (.iload_n 0, 1) := by decide +kernel
theorem d_Hall_isKind_1 : decode M_Hall_isKind.2.1 1 = .ok (.iconst 3, 1) := by decide +kernel
theorem d_Hall_isKind_2 : decode M_Hall_isKind.2.1 2 = .ok (.invokestatic 266, 3) := by decide +kernel
theorem d_Hall_isKind_5 : decode M_Hall_isKind.2.1 5 = .ok (.ireturn, 1) := by decide +kernel
theorem d_Hall_isAbout_0 : decode M_Hall_isAbout.2.1 0 = .ok (.iload_n 0, 1) := by decide +kernel
theorem d_Hall_isAbout_1 : decode M_Hall_isAbout.2.1 1 = .ok (.bipush 7, 2) := by decide +kernel
theorem d_Hall_isAbout_3 : decode M_Hall_isAbout.2.1 3 = .ok (.invokestatic 266, 3) := by decide +kernel
theorem d_Hall_isAbout_6 : decode M_Hall_isAbout.2.1 6 = .ok (.ireturn, 1) := by decide +kernel
theorem d_Hall_hasBit_0 : decode M_Hall_hasBit.2.1 0 = .ok (.iload_n 0, 1) := by decide +kernel
theorem d_Hall_hasBit_1 : decode M_Hall_hasBit.2.1 1 = .ok (.iload_n 1, 1) := by decide +kernel
theorem d_Hall_hasBit_2 : decode M_Hall_hasBit.2.1 2 = .ok (.iushr, 1) := by decide +kernel
theorem d_Hall_hasBit_3 : decode M_Hall_hasBit.2.1 3 = .ok (.iconst 1, 1) := by decide +kernel
theorem d_Hall_hasBit_4 : decode M_Hall_hasBit.2.1 4 = .ok (.iand, 1) := by decide +kernel
theorem d_Hall_hasBit_5 : decode M_Hall_hasBit.2.1 5 = .ok (.ifCond .eq 7, 3) := by decide +kernel
theorem d_Hall_hasBit_8 : decode M_Hall_hasBit.2.1 8 = .ok (.iconst 1, 1) := by decide +kernel
theorem d_Hall_hasBit_9 : decode M_Hall_hasBit.2.1 9 = .ok (.goto 4, 3) := by decide +kernel
theorem d_Hall_hasBit_12 : decode M_Hall_hasBit.2.1 12 = .ok (.iconst 0, 1) := by decide +kernel
theorem d_Hall_hasBit_13 : decode M_Hall_hasBit.2.1 13 = .ok (.ireturn, 1) := by decide +kernel

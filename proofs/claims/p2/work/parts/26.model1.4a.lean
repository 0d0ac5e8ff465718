/-! decode rows of 26.model1 (by program) -/
theorem d_Model_rests_0 : decode M_Model_rests.2.1 0 = .ok (.iconst 0, 1) := by decide +kernel
theorem d_Model_rests_1 : decode M_Model_rests.2.1 1 = .ok (.istore 4, 2) := by decide +kernel
theorem d_Model_rests_3 : decode M_Model_rests.2.1 3 = .ok (.iload 4, 2) := by decide +kernel
theorem d_Model_rests_5 : decode M_Model_rests.2.1 5 = .ok (.aload_n 0, 1) := by decide +kernel
theorem d_Model_rests_6 : decode M_Model_rests.2.1 6 = .ok (.getfield 51, 3) := by decide +kernel
theorem d_Model_rests_9 : decode M_Model_rests.2.1 9 = .ok (.iconst 0, 1) := by decide +kernel
theorem d_Model_rests_10 : decode M_Model_rests.2.1 10 = .ok (.iaload, 1) := by decide +kernel
theorem d_Model_rests_11 : decode M_Model_rests.2.1 11 = .ok (.if_icmp .ge 56, 3) := by decide +kernel
theorem d_Model_rests_14 : decode M_Model_rests.2.1 14 = .ok (.iload_n 3, 1) := by decide +kernel
theorem d_Model_rests_15 : decode M_Model_rests.2.1 15 = .ok (.iload 4, 2) := by decide +kernel
theorem d_Model_rests_17 : decode M_Model_rests.2.1 17 = .ok (.invokestatic 308, 3) := by decide +kernel
theorem d_Model_rests_20 : decode M_Model_rests.2.1 20 = .ok (.ifCond .eq 41, 3) := by decide +kernel
theorem d_Model_rests_23 : decode M_Model_rests.2.1 23 = .ok (.aload_n 0, 1) := by decide +kernel
theorem d_Model_rests_24 : decode M_Model_rests.2.1 24 = .ok (.iload 4, 2) := by decide +kernel
theorem d_Model_rests_26 : decode M_Model_rests.2.1 26 = .ok (.iload_n 2, 1) := by decide +kernel
theorem d_Model_rests_27 : decode M_Model_rests.2.1 27 = .ok (.iconst 0, 1) := by decide +kernel
theorem d_Model_rests_28 : decode M_Model_rests.2.1 28 = .ok (.invokevirtual 432, 3) := by decide +kernel
theorem d_Model_rests_31 : decode M_Model_rests.2.1 31 = .ok (.aload_n 0, 1) := by decide +kernel
theorem d_Model_rests_32 : decode M_Model_rests.2.1 32 = .ok (.iload_n 1, 1) := by decide +kernel
theorem d_Model_rests_33 : decode M_Model_rests.2.1 33 = .ok (.iload_n 2, 1) := by decide +kernel
theorem d_Model_rests_34 : decode M_Model_rests.2.1 34 = .ok (.iconst 0, 1) := by decide +kernel
theorem d_Model_rests_35 : decode M_Model_rests.2.1 35 = .ok (.invokevirtual 432, 3) := by decide +kernel
theorem d_Model_rests_38 : decode M_Model_rests.2.1 38 = .ok (.if_icmp .gt 21, 3) := by decide +kernel
theorem d_Model_rests_41 : decode M_Model_rests.2.1 41 = .ok (.aload_n 0, 1) := by decide +kernel
theorem d_Model_rests_42 : decode M_Model_rests.2.1 42 = .ok (.iload_n 1, 1) := by decide +kernel
theorem d_Model_rests_43 : decode M_Model_rests.2.1 43 = .ok (.iload 4, 2) := by decide +kernel
theorem d_Model_rests_45 : decode M_Model_rests.2.1 45 = .ok (.iconst 1, 1) := by decide +kernel
theorem d_Model_rests_46 : decode M_Model_rests.2.1 46 = .ok (.invokevirtual 432, 3) := by decide +kernel
theorem d_Model_rests_49 : decode M_Model_rests.2.1 49 = .ok (.aload_n 0, 1) := by decide +kernel
theorem d_Model_rests_50 : decode M_Model_rests.2.1 50 = .ok (.iload_n 1, 1) := by decide +kernel
theorem d_Model_rests_51 : decode M_Model_rests.2.1 51 = .ok (.iload_n 2, 1) := by decide +kernel
theorem d_Model_rests_52 : decode M_Model_rests.2.1 52 = .ok (.iconst 1, 1) := by decide +kernel
theorem d_Model_rests_53 : decode M_Model_rests.2.1 53 = .ok (.invokevirtual 432, 3) := by decide +kernel
theorem d_Model_rests_56 : decode M_Model_rests.2.1 56 = .ok (.if_icmp .le 5, 3) := by decide +kernel
theorem d_Model_rests_59 : decode M_Model_rests.2.1 59 = .ok (.iconst 0, 1) := by decide +kernel
theorem d_Model_rests_60 : decode M_Model_rests.2.1 60 = .ok (.ireturn, 1) := by decide +kernel
theorem d_Model_rests_61 : decode M_Model_rests.2.1 61 = .ok (.iinc 4 1, 3) := by decide +kernel
theorem d_Model_rests_64 : decode M_Model_rests.2.1 64 = .ok (.goto (-61), 3) := by decide +kernel
theorem d_Model_rests_67 : decode M_Model_rests.2.1 67 = .ok (.iconst 1, 1) := by decide +kernel
theorem d_Model_rests_68 : decode M_Model_rests.2.1 68 = .ok (.ireturn, 1) := by decide +kernel
theorem d_Model_game_0 : decode M_Model_game.2.1 0 = .ok (.aload_n 0, 1) := by decide +kernel
theorem d_Model_game_1 : decode M_Model_game.2.1 1 = .ok (.iconst 0, 1) := by decide +kernel
theorem d_Model_game_2 : decode M_Model_game.2.1 2 = .ok (.putfield 114, 3) := by decide +kernel
theorem d_Model_game_5 : decode M_Model_game.2.1 5 = .ok (.iload_n 1, 1) := by decide +kernel
theorem d_Model_game_6 : decode M_Model_game.2.1 6 = .ok (.ifCond .lt 8, 3) := by decide +kernel
theorem d_Model_game_9 : decode M_Model_game.2.1 9 = .ok (.iload_n 1, 1) := by decide +kernel
theorem d_Model_game_10 : decode M_Model_game.2.1 10 = .ok (.iconst 1, 1) := by decide +kernel
theorem d_Model_game_11 : decode M_Model_game.2.1 11 = .ok (.if_icmp .le 9, 3) := by decide +kernel
theorem d_Model_game_14 : decode M_Model_game.2.1 14 = .ok (.aload_n 0, 1) := by decide +kernel
theorem d_Model_game_15 : decode M_Model_game.2.1 15 = .ok (.iconst 1, 1) := by decide +kernel
theorem d_Model_game_16 : decode M_Model_game.2.1 16 = .ok (.invokevirtual 273, 3) := by decide +kernel
theorem d_Model_game_19 : decode M_Model_game.2.1 19 = .ok (.ireturn, 1) := by decide +kernel
theorem d_Model_game_20 : decode M_Model_game.2.1 20 = .ok (.aload_n 0, 1) := by decide +kernel
theorem d_Model_game_21 : decode M_Model_game.2.1 21 = .ok (.invokevirtual 412, 3) := by decide +kernel
theorem d_Model_game_24 : decode M_Model_game.2.1 24 = .ok (.istore_n 2, 1) := by decide +kernel
theorem d_Model_game_25 : decode M_Model_game.2.1 25 = .ok (.iconst 0, 1) := by decide +kernel
theorem d_Model_game_26 : decode M_Model_game.2.1 26 = .ok (.istore_n 3, 1) := by decide +kernel
theorem d_Model_game_27 : decode M_Model_game.2.1 27 = .ok (.iconst (-1), 1) := by decide +kernel
theorem d_Model_game_28 : decode M_Model_game.2.1 28 = .ok (.istore 4, 2) := by decide +kernel
theorem d_Model_game_30 : decode M_Model_game.2.1 30 = .ok (.iconst 0, 1) := by decide +kernel
theorem d_Model_game_31 : decode M_Model_game.2.1 31 = .ok (.istore 5, 2) := by decide +kernel
theorem d_Model_game_33 : decode M_Model_game.2.1 33 = .ok (.iload 5, 2) := by decide +kernel
theorem d_Model_game_35 : decode M_Model_game.2.1 35 = .ok (.aload_n 0, 1) := by decide +kernel
theorem d_Model_game_36 : decode M_Model_game.2.1 36 = .ok (.getfield 51, 3) := by decide +kernel
theorem d_Model_game_39 : decode M_Model_game.2.1 39 = .ok (.iconst 0, 1) := by decide +kernel
theorem d_Model_game_40 : decode M_Model_game.2.1 40 = .ok (.iaload, 1) := by decide +kernel
theorem d_Model_game_41 : decode M_Model_game.2.1 41 = .ok (.if_icmp .ge 86, 3) := by decide +kernel
theorem d_Model_game_44 : decode M_Model_game.2.1 44 = .ok (.iconst 0, 1) := by decide +kernel
theorem d_Model_game_45 : decode M_Model_game.2.1 45 = .ok (.istore 6, 2) := by decide +kernel
theorem d_Model_game_47 : decode M_Model_game.2.1 47 = .ok (.iload 6, 2) := by decide +kernel
theorem d_Model_game_49 : decode M_Model_game.2.1 49 = .ok (.aload_n 0, 1) := by decide +kernel
theorem d_Model_game_50 : decode M_Model_game.2.1 50 = .ok (.getfield 51, 3) := by decide +kernel
theorem d_Model_game_53 : decode M_Model_game.2.1 53 = .ok (.iconst 0, 1) := by decide +kernel
theorem d_Model_game_54 : decode M_Model_game.2.1 54 = .ok (.iaload, 1) := by decide +kernel
theorem d_Model_game_55 : decode M_Model_game.2.1 55 = .ok (.if_icmp .ge 66, 3) := by decide +kernel
theorem d_Model_game_58 : decode M_Model_game.2.1 58 = .ok (.iload_n 2, 1) := by decide +kernel
theorem d_Model_game_59 : decode M_Model_game.2.1 59 = .ok (.iload 5, 2) := by decide +kernel
theorem d_Model_game_61 : decode M_Model_game.2.1 61 = .ok (.invokestatic 308, 3) := by decide +kernel
theorem d_Model_game_64 : decode M_Model_game.2.1 64 = .ok (.ifCond .eq 51, 3) := by decide +kernel
theorem d_Model_game_67 : decode M_Model_game.2.1 67 = .ok (.iload_n 2, 1) := by decide +kernel
theorem d_Model_game_68 : decode M_Model_game.2.1 68 = .ok (.iload 6, 2) := by decide +kernel
theorem d_Model_game_70 : decode M_Model_game.2.1 70 = .ok (.invokestatic 308, 3) := by decide +kernel
theorem d_Model_game_73 : decode M_Model_game.2.1 73 = .ok (.ifCond .eq 42, 3) := by decide +kernel
theorem d_Model_game_76 : decode M_Model_game.2.1 76 = .ok (.aload_n 0, 1) := by decide +kernel
theorem d_Model_game_77 : decode M_Model_game.2.1 77 = .ok (.iload 5, 2) := by decide +kernel
theorem d_Model_game_79 : decode M_Model_game.2.1 79 = .ok (.iload 6, 2) := by decide +kernel
theorem d_Model_game_81 : decode M_Model_game.2.1 81 = .ok (.iload_n 2, 1) := by decide +kernel
theorem d_Model_game_82 : decode M_Model_game.2.1 82 = .ok (.invokevirtual 435, 3) := by decide +kernel
theorem d_Model_game_85 : decode M_Model_game.2.1 85 = .ok (.ifCond .ne 6, 3) := by decide +kernel
theorem d_Model_game_88 : decode M_Model_game.2.1 88 = .ok (.goto 27, 3) := by decide +kernel
theorem d_Model_game_91 : decode M_Model_game.2.1 91 = .ok (.iinc 3 1, 3) := by decide +kernel
theorem d_Model_game_94 : decode M_Model_game.2.1 94 = .ok (.iload 4, 2) := by decide +kernel
theorem d_Model_game_96 : decode M_Model_game.2.1 96 = .ok (.iconst (-1), 1) := by decide +kernel
theorem d_Model_game_97 : decode M_Model_game.2.1 97 = .ok (.if_icmp .ne 14, 3) := by decide +kernel
theorem d_Model_game_100 : decode M_Model_game.2.1 100 = .ok (.bipush 10, 2) := by decide +kernel
theorem d_Model_game_102 : decode M_Model_game.2.1 102 = .ok (.iload 5, 2) := by decide +kernel
theorem d_Model_game_104 : decode M_Model_game.2.1 104 = .ok (.imul, 1) := by decide +kernel
theorem d_Model_game_105 : decode M_Model_game.2.1 105 = .ok (.iload 6, 2) := by decide +kernel
theorem d_Model_game_107 : decode M_Model_game.2.1 107 = .ok (.iadd, 1) := by decide +kernel
theorem d_Model_game_108 : decode M_Model_game.2.1 108 = .ok (.goto 5, 3) := by decide +kernel
theorem d_Model_game_111 : decode M_Model_game.2.1 111 = .ok (.iload 4, 2) := by decide +kernel
theorem d_Model_game_113 : decode M_Model_game.2.1 113 = .ok (.istore 4, 2) := by decide +kernel
theorem d_Model_game_115 : decode M_Model_game.2.1 115 = .ok (.iinc 6 1, 3) := by decide +kernel
theorem d_Model_game_118 : decode M_Model_game.2.1 118 = .ok (.goto (-71), 3) := by decide +kernel
theorem d_Model_game_121 : decode M_Model_game.2.1 121 = .ok (.iinc 5 1, 3) := by decide +kernel
theorem d_Model_game_124 : decode M_Model_game.2.1 124 = .ok (.goto (-91), 3) := by decide +kernel
theorem d_Model_game_127 : decode M_Model_game.2.1 127 = .ok (.iload_n 1, 1) := by decide +kernel
theorem d_Model_game_128 : decode M_Model_game.2.1 128 = .ok (.ifCond .ne 7, 3) := by decide +kernel
theorem d_Model_game_131 : decode M_Model_game.2.1 131 = .ok (.iload_n 3, 1) := by decide +kernel
theorem d_Model_game_132 : decode M_Model_game.2.1 132 = .ok (.goto 5, 3) := by decide +kernel
theorem d_Model_game_135 : decode M_Model_game.2.1 135 = .ok (.iload 4, 2) := by decide +kernel
theorem d_Model_game_137 : decode M_Model_game.2.1 137 = .ok (.ireturn, 1) := by decide +kernel
theorem d_Model_drawOf_0 : decode M_Model_drawOf.2.1 0 = .ok (.aload_n 0, 1) := by decide +kernel
theorem d_Model_drawOf_1 : decode M_Model_drawOf.2.1 1 = .ok (.aload_n 0, 1) := by decide +kernel
theorem d_Model_drawOf_2 : decode M_Model_drawOf.2.1 2 = .ok (.getfield 438, 3) := by decide +kernel
theorem d_Model_drawOf_5 : decode M_Model_drawOf.2.1 5 = .ok (.ldc_w 441, 3) := by decide +kernel
theorem d_Model_drawOf_8 : decode M_Model_drawOf.2.1 8 = .ok (.imul, 1) := by decide +kernel
theorem d_Model_drawOf_9 : decode M_Model_drawOf.2.1 9 = .ok (.sipush 12345, 3) := by decide +kernel
theorem d_Model_drawOf_12 : decode M_Model_drawOf.2.1 12 = .ok (.iadd, 1) := by decide +kernel
theorem d_Model_drawOf_13 : decode M_Model_drawOf.2.1 13 = .ok (.putfield 438, 3) := by decide +kernel
theorem d_Model_drawOf_16 : decode M_Model_drawOf.2.1 16 = .ok (.aload_n 0, 1) := by decide +kernel
theorem d_Model_drawOf_17 : decode M_Model_drawOf.2.1 17 = .ok (.getfield 438, 3) := by decide +kernel
theorem d_Model_drawOf_20 : decode M_Model_drawOf.2.1 20 = .ok (.bipush 16, 2) := by decide +kernel
theorem d_Model_drawOf_22 : decode M_Model_drawOf.2.1 22 = .ok (.ishr, 1) := by decide +kernel
theorem d_Model_drawOf_23 : decode M_Model_drawOf.2.1 23 = .ok (.sipush 32767, 3) := by decide +kernel
theorem d_Model_drawOf_26 : decode M_Model_drawOf.2.1 26 = .ok (.iand, 1) := by decide +kernel
theorem d_Model_drawOf_27 : decode M_Model_drawOf.2.1 27 = .ok (.iload_n 1, 1) := by decide +kernel
theorem d_Model_drawOf_28 : decode M_Model_drawOf.2.1 28 = .ok (.irem, 1) := by decide +kernel
theorem d_Model_drawOf_29 : decode M_Model_drawOf.2.1 29 = .ok (.ireturn, 1) := by decide +kernel
theorem d_Model_season_0 : decode M_Model_season.2.1 0 = .ok (.aload_n 0, 1) := by decide +kernel
theorem d_Model_season_1 : decode M_Model_season.2.1 1 = .ok (.iconst 0, 1) := by decide +kernel
theorem d_Model_season_2 : decode M_Model_season.2.1 2 = .ok (.putfield 114, 3) := by decide +kernel
theorem d_Model_season_5 : decode M_Model_season.2.1 5 = .ok (.iload_n 3, 1) := by decide +kernel
theorem d_Model_season_6 : decode M_Model_season.2.1 6 = .ok (.i2l, 1) := by decide +kernel
theorem d_Model_season_7 : decode M_Model_season.2.1 7 = .ok (.lconst 0, 1) := by decide +kernel
theorem d_Model_season_8 : decode M_Model_season.2.1 8 = .ok (.ldc2_w 442, 3) := by decide +kernel
theorem d_Model_season_11 : decode M_Model_season.2.1 11 = .ok (.invokestatic 117, 3) := by decide +kernel
theorem d_Model_season_14 : decode M_Model_season.2.1 14 = .ok (.ifCond .ne 9, 3) := by decide +kernel
theorem d_Model_season_17 : decode M_Model_season.2.1 17 = .ok (.aload_n 0, 1) := by decide +kernel
theorem d_Model_season_18 : decode M_Model_season.2.1 18 = .ok (.iconst 1, 1) := by decide +kernel
theorem d_Model_season_19 : decode M_Model_season.2.1 19 = .ok (.invokevirtual 273, 3) := by decide +kernel
theorem d_Model_season_22 : decode M_Model_season.2.1 22 = .ok (.ireturn, 1) := by decide +kernel
theorem d_Model_season_23 : decode M_Model_season.2.1 23 = .ok (.iload_n 2, 1) := by decide +kernel
theorem d_Model_season_24 : decode M_Model_season.2.1 24 = .ok (.i2l, 1) := by decide +kernel
theorem d_Model_season_25 : decode M_Model_season.2.1 25 = .ok (.lconst 0, 1) := by decide +kernel
theorem d_Model_season_26 : decode M_Model_season.2.1 26 = .ok (.ldc2_w 444, 3) := by decide +kernel
theorem d_Model_season_29 : decode M_Model_season.2.1 29 = .ok (.invokestatic 117, 3) := by decide +kernel
theorem d_Model_season_32 : decode M_Model_season.2.1 32 = .ok (.ifCond .ne 9, 3) := by decide +kernel
theorem d_Model_season_35 : decode M_Model_season.2.1 35 = .ok (.aload_n 0, 1) := by decide +kernel
theorem d_Model_season_36 : decode M_Model_season.2.1 36 = .ok (.iconst 2, 1) := by decide +kernel
theorem d_Model_season_37 : decode M_Model_season.2.1 37 = .ok (.invokevirtual 273, 3) := by decide +kernel
theorem d_Model_season_40 : decode M_Model_season.2.1 40 = .ok (.ireturn, 1) := by decide +kernel
theorem d_Model_season_41 : decode M_Model_season.2.1 41 = .ok (.aload_n 0, 1) := by decide +kernel
theorem d_Model_season_42 : decode M_Model_season.2.1 42 = .ok (.aload_n 0, 1) := by decide +kernel
theorem d_Model_season_43 : decode M_Model_season.2.1 43 = .ok (.getfield 90, 3) := by decide +kernel
theorem d_Model_season_46 : decode M_Model_season.2.1 46 = .ok (.iconst 0, 1) := by decide +kernel
theorem d_Model_season_47 : decode M_Model_season.2.1 47 = .ok (.invokevirtual 359, 3) := by decide +kernel
theorem d_Model_season_50 : decode M_Model_season.2.1 50 = .ok (.aload_n 0, 1) := by decide +kernel
theorem d_Model_season_51 : decode M_Model_season.2.1 51 = .ok (.iload_n 1, 1) := by decide +kernel
theorem d_Model_season_52 : decode M_Model_season.2.1 52 = .ok (.putfield 438, 3) := by decide +kernel
theorem d_Model_season_55 : decode M_Model_season.2.1 55 = .ok (.iconst 0, 1) := by decide +kernel
theorem d_Model_season_56 : decode M_Model_season.2.1 56 = .ok (.istore 4, 2) := by decide +kernel
theorem d_Model_season_58 : decode M_Model_season.2.1 58 = .ok (.iconst 0, 1) := by decide +kernel
theorem d_Model_season_59 : decode M_Model_season.2.1 59 = .ok (.istore 5, 2) := by decide +kernel
theorem d_Model_season_61 : decode M_Model_season.2.1 61 = .ok (.iload 5, 2) := by decide +kernel
theorem d_Model_season_63 : decode M_Model_season.2.1 63 = .ok (.iload_n 2, 1) := by decide +kernel
theorem d_Model_season_64 : decode M_Model_season.2.1 64 = .ok (.if_icmp .ge 136, 3) := by decide +kernel
theorem d_Model_season_67 : decode M_Model_season.2.1 67 = .ok (.aload_n 0, 1) := by decide +kernel
theorem d_Model_season_68 : decode M_Model_season.2.1 68 = .ok (.invokevirtual 329, 3) := by decide +kernel
theorem d_Model_season_71 : decode M_Model_season.2.1 71 = .ok (.istore 6, 2) := by decide +kernel
theorem d_Model_season_73 : decode M_Model_season.2.1 73 = .ok (.aload_n 0, 1) := by decide +kernel
theorem d_Model_season_74 : decode M_Model_season.2.1 74 = .ok (.getfield 51, 3) := by decide +kernel
theorem d_Model_season_77 : decode M_Model_season.2.1 77 = .ok (.iconst 0, 1) := by decide +kernel
theorem d_Model_season_78 : decode M_Model_season.2.1 78 = .ok (.iaload, 1) := by decide +kernel
theorem d_Model_season_79 : decode M_Model_season.2.1 79 = .ok (.ifCond .ne 7, 3) := by decide +kernel
theorem d_Model_season_82 : decode M_Model_season.2.1 82 = .ok (.iconst 0, 1) := by decide +kernel
theorem d_Model_season_83 : decode M_Model_season.2.1 83 = .ok (.goto 13, 3) := by decide +kernel
theorem d_Model_season_86 : decode M_Model_season.2.1 86 = .ok (.aload_n 0, 1) := by decide +kernel
theorem d_Model_season_87 : decode M_Model_season.2.1 87 = .ok (.aload_n 0, 1) := by decide +kernel
theorem d_Model_season_88 : decode M_Model_season.2.1 88 = .ok (.getfield 51, 3) := by decide +kernel
theorem d_Model_season_91 : decode M_Model_season.2.1 91 = .ok (.iconst 0, 1) := by decide +kernel
theorem d_Model_season_92 : decode M_Model_season.2.1 92 = .ok (.iaload, 1) := by decide +kernel
theorem d_Model_season_93 : decode M_Model_season.2.1 93 = .ok (.invokevirtual 446, 3) := by decide +kernel
theorem d_Model_season_96 : decode M_Model_season.2.1 96 = .ok (.istore 7, 2) := by decide +kernel
theorem d_Model_season_98 : decode M_Model_season.2.1 98 = .ok (.aload_n 0, 1) := by decide +kernel
theorem d_Model_season_99 : decode M_Model_season.2.1 99 = .ok (.getfield 51, 3) := by decide +kernel
theorem d_Model_season_102 : decode M_Model_season.2.1 102 = .ok (.iconst 0, 1) := by decide +kernel
theorem d_Model_season_103 : decode M_Model_season.2.1 103 = .ok (.iaload, 1) := by decide +kernel
theorem d_Model_season_104 : decode M_Model_season.2.1 104 = .ok (.ifCond .ne 7, 3) := by decide +kernel
theorem d_Model_season_107 : decode M_Model_season.2.1 107 = .ok (.iconst 2, 1) := by decide +kernel
theorem d_Model_season_108 : decode M_Model_season.2.1 108 = .ok (.goto 8, 3) := by decide +kernel
theorem d_Model_season_111 : decode M_Model_season.2.1 111 = .ok (.aload_n 0, 1) := by decide +kernel
theorem d_Model_season_112 : decode M_Model_season.2.1 112 = .ok (.iconst 3, 1) := by decide +kernel
theorem d_Model_season_113 : decode M_Model_season.2.1 113 = .ok (.invokevirtual 446, 3) := by decide +kernel
theorem d_Model_season_116 : decode M_Model_season.2.1 116 = .ok (.istore 8, 2) := by decide +kernel
theorem d_Model_season_118 : decode M_Model_season.2.1 118 = .ok (.iload 8, 2) := by decide +kernel
theorem d_Model_season_120 : decode M_Model_season.2.1 120 = .ok (.iconst 2, 1) := by decide +kernel
theorem d_Model_season_121 : decode M_Model_season.2.1 121 = .ok (.if_icmp .ne 7, 3) := by decide +kernel
theorem d_Model_season_124 : decode M_Model_season.2.1 124 = .ok (.iconst 0, 1) := by decide +kernel
theorem d_Model_season_125 : decode M_Model_season.2.1 125 = .ok (.goto 9, 3) := by decide +kernel
theorem d_Model_season_128 : decode M_Model_season.2.1 128 = .ok (.aload_n 0, 1) := by decide +kernel
theorem d_Model_season_129 : decode M_Model_season.2.1 129 = .ok (.bipush 20, 2) := by decide +kernel
theorem d_Model_season_131 : decode M_Model_season.2.1 131 = .ok (.invokevirtual 446, 3) := by decide +kernel
theorem d_Model_season_134 : decode M_Model_season.2.1 134 = .ok (.istore 9, 2) := by decide +kernel
theorem d_Model_season_136 : decode M_Model_season.2.1 136 = .ok (.iload 8, 2) := by decide +kernel
theorem d_Model_season_138 : decode M_Model_season.2.1 138 = .ok (.ifCond .ne 16, 3) := by decide +kernel
theorem d_Model_season_141 : decode M_Model_season.2.1 141 = .ok (.aload_n 0, 1) := by decide +kernel
theorem d_Model_season_142 : decode M_Model_season.2.1 142 = .ok (.iload 7, 2) := by decide +kernel
theorem d_Model_season_144 : decode M_Model_season.2.1 144 = .ok (.iload 9, 2) := by decide +kernel
theorem d_Model_season_146 : decode M_Model_season.2.1 146 = .ok (.iload 9, 2) := by decide +kernel
theorem d_Model_season_148 : decode M_Model_season.2.1 148 = .ok (.iconst 2, 1) := by decide +kernel
theorem d_Model_season_149 : decode M_Model_season.2.1 149 = .ok (.iadd, 1) := by decide +kernel
theorem d_Model_season_150 : decode M_Model_season.2.1 150 = .ok (.invokevirtual 390, 3) := by decide +kernel
theorem d_Model_season_153 : decode M_Model_season.2.1 153 = .ok (.pop, 1) := by decide +kernel
theorem d_Model_season_154 : decode M_Model_season.2.1 154 = .ok (.iload 8, 2) := by decide +kernel
theorem d_Model_season_156 : decode M_Model_season.2.1 156 = .ok (.iconst 1, 1) := by decide +kernel
theorem d_Model_season_157 : decode M_Model_season.2.1 157 = .ok (.if_icmp .ne 11, 3) := by decide +kernel
theorem d_Model_season_160 : decode M_Model_season.2.1 160 = .ok (.aload_n 0, 1) := by decide +kernel
theorem d_Model_season_161 : decode M_Model_season.2.1 161 = .ok (.iload 7, 2) := by decide +kernel
theorem d_Model_season_163 : decode M_Model_season.2.1 163 = .ok (.iload 9, 2) := by decide +kernel
theorem d_Model_season_165 : decode M_Model_season.2.1 165 = .ok (.invokevirtual 406, 3) := by decide +kernel
theorem d_Model_season_168 : decode M_Model_season.2.1 168 = .ok (.aload_n 0, 1) := by decide +kernel
theorem d_Model_season_169 : decode M_Model_season.2.1 169 = .ok (.invokevirtual 371, 3) := by decide +kernel
theorem d_Model_season_172 : decode M_Model_season.2.1 172 = .ok (.iload 4, 2) := by decide +kernel
theorem d_Model_season_174 : decode M_Model_season.2.1 174 = .ok (.iload 6, 2) := by decide +kernel
theorem d_Model_season_176 : decode M_Model_season.2.1 176 = .ok (.aload_n 0, 1) := by decide +kernel
theorem d_Model_season_177 : decode M_Model_season.2.1 177 = .ok (.invokevirtual 329, 3) := by decide +kernel
theorem d_Model_season_180 : decode M_Model_season.2.1 180 = .ok (.iconst (-1), 1) := by decide +kernel
theorem d_Model_season_181 : decode M_Model_season.2.1 181 = .ok (.ixor, 1) := by decide +kernel
theorem d_Model_season_182 : decode M_Model_season.2.1 182 = .ok (.iand, 1) := by decide +kernel
theorem d_Model_season_183 : decode M_Model_season.2.1 183 = .ok (.ifCond .eq 7, 3) := by decide +kernel
theorem d_Model_season_186 : decode M_Model_season.2.1 186 = .ok (.iconst 1, 1) := by decide +kernel
theorem d_Model_season_187 : decode M_Model_season.2.1 187 = .ok (.goto 4, 3) := by decide +kernel
theorem d_Model_season_190 : decode M_Model_season.2.1 190 = .ok (.iconst 0, 1) := by decide +kernel
theorem d_Model_season_191 : decode M_Model_season.2.1 191 = .ok (.iadd, 1) := by decide +kernel
theorem d_Model_season_192 : decode M_Model_season.2.1 192 = .ok (.istore 4, 2) := by decide +kernel
theorem d_Model_season_194 : decode M_Model_season.2.1 194 = .ok (.iinc 5 1, 3) := by decide +kernel
theorem d_Model_season_197 : decode M_Model_season.2.1 197 = .ok (.goto (-136), 3) := by decide +kernel
theorem d_Model_season_200 : decode M_Model_season.2.1 200 = .ok (.iload_n 3, 1) := by decide +kernel
theorem d_Model_season_201 : decode M_Model_season.2.1 201 = .ok (.ifCond .ne 13, 3) := by decide +kernel
theorem d_Model_season_204 : decode M_Model_season.2.1 204 = .ok (.aload_n 0, 1) := by decide +kernel
theorem d_Model_season_205 : decode M_Model_season.2.1 205 = .ok (.invokevirtual 329, 3) := by decide +kernel
theorem d_Model_season_208 : decode M_Model_season.2.1 208 = .ok (.invokestatic 332, 3) := by decide +kernel
theorem d_Model_season_211 : decode M_Model_season.2.1 211 = .ok (.goto 18, 3) := by decide +kernel
theorem d_Model_season_214 : decode M_Model_season.2.1 214 = .ok (.iload_n 3, 1) := by decide +kernel
theorem d_Model_season_215 : decode M_Model_season.2.1 215 = .ok (.iconst 1, 1) := by decide +kernel
theorem d_Model_season_216 : decode M_Model_season.2.1 216 = .ok (.if_icmp .ne 11, 3) := by decide +kernel
theorem d_Model_season_219 : decode M_Model_season.2.1 219 = .ok (.aload_n 0, 1) := by decide +kernel
theorem d_Model_season_220 : decode M_Model_season.2.1 220 = .ok (.iconst (-1), 1) := by decide +kernel
theorem d_Model_season_221 : decode M_Model_season.2.1 221 = .ok (.invokevirtual 403, 3) := by decide +kernel
theorem d_Model_season_224 : decode M_Model_season.2.1 224 = .ok (.goto 5, 3) := by decide +kernel
theorem d_Model_season_227 : decode M_Model_season.2.1 227 = .ok (.iload 4, 2) := by decide +kernel
theorem d_Model_season_229 : decode M_Model_season.2.1 229 = .ok (.istore 5, 2) := by decide +kernel
theorem d_Model_season_231 : decode M_Model_season.2.1 231 = .ok (.aload_n 0, 1) := by decide +kernel
theorem d_Model_season_232 : decode M_Model_season.2.1 232 = .ok (.aload_n 0, 1) := by decide +kernel
theorem d_Model_season_233 : decode M_Model_season.2.1 233 = .ok (.getfield 90, 3) := by decide +kernel
theorem d_Model_season_236 : decode M_Model_season.2.1 236 = .ok (.iconst 0, 1) := by decide +kernel
theorem d_Model_season_237 : decode M_Model_season.2.1 237 = .ok (.invokevirtual 393, 3) := by decide +kernel
theorem d_Model_season_240 : decode M_Model_season.2.1 240 = .ok (.iload 5, 2) := by decide +kernel
theorem d_Model_season_242 : decode M_Model_season.2.1 242 = .ok (.ireturn, 1) := by decide +kernel
theorem d_Model_be_0 : decode M_Model_be.2.1 0 = .ok (.iconst 0, 1) := by decide +kernel
theorem d_Model_be_1 : decode M_Model_be.2.1 1 = .ok (.istore_n 2, 1) := by decide +kernel
theorem d_Model_be_2 : decode M_Model_be.2.1 2 = .ok (.iload_n 2, 1) := by decide +kernel
theorem d_Model_be_3 : decode M_Model_be.2.1 3 = .ok (.aload_n 0, 1) := by decide +kernel
theorem d_Model_be_4 : decode M_Model_be.2.1 4 = .ok (.arraylength, 1) := by decide +kernel
theorem d_Model_be_5 : decode M_Model_be.2.1 5 = .ok (.if_icmp .ge 15, 3) := by decide +kernel
theorem d_Model_be_8 : decode M_Model_be.2.1 8 = .ok (.aload_n 0, 1) := by decide +kernel
theorem d_Model_be_9 : decode M_Model_be.2.1 9 = .ok (.iload_n 2, 1) := by decide +kernel
theorem d_Model_be_10 : decode M_Model_be.2.1 10 = .ok (.aload_n 1, 1) := by decide +kernel
theorem d_Model_be_11 : decode M_Model_be.2.1 11 = .ok (.iload_n 2, 1) := by decide +kernel
theorem d_Model_be_12 : decode M_Model_be.2.1 12 = .ok (.iaload, 1) := by decide +kernel
theorem d_Model_be_13 : decode M_Model_be.2.1 13 = .ok (.iastore, 1) := by decide +kernel
theorem d_Model_be_14 : decode M_Model_be.2.1 14 = .ok (.iinc 2 1, 3) := by decide +kernel
theorem d_Model_be_17 : decode M_Model_be.2.1 17 = .ok (.goto (-15), 3) := by decide +kernel
theorem d_Model_be_20 : decode M_Model_be.2.1 20 = .ok (.return_, 1) := by decide +kernel
theorem d_Model_image_0 : decode M_Model_image.2.1 0 = .ok (.aload_n 0, 1) := by decide +kernel
theorem d_Model_image_1 : decode M_Model_image.2.1 1 = .ok (.iconst 0, 1) := by decide +kernel
theorem d_Model_image_2 : decode M_Model_image.2.1 2 = .ok (.putfield 114, 3) := by decide +kernel
theorem d_Model_image_5 : decode M_Model_image.2.1 5 = .ok (.aload_n 0, 1) := by decide +kernel
theorem d_Model_image_6 : decode M_Model_image.2.1 6 = .ok (.iconst 1, 1) := by decide +kernel
theorem d_Model_image_7 : decode M_Model_image.2.1 7 = .ok (.putfield 301, 3) := by decide +kernel
theorem d_Model_image_10 : decode M_Model_image.2.1 10 = .ok (.aload_n 0, 1) := by decide +kernel
theorem d_Model_image_11 : decode M_Model_image.2.1 11 = .ok (.aload_n 0, 1) := by decide +kernel
theorem d_Model_image_12 : decode M_Model_image.2.1 12 = .ok (.getfield 295, 3) := by decide +kernel
theorem d_Model_image_15 : decode M_Model_image.2.1 15 = .ok (.putfield 449, 3) := by decide +kernel
theorem d_Model_image_18 : decode M_Model_image.2.1 18 = .ok (.aload_n 0, 1) := by decide +kernel
theorem d_Model_image_19 : decode M_Model_image.2.1 19 = .ok (.aload_n 0, 1) := by decide +kernel
theorem d_Model_image_20 : decode M_Model_image.2.1 20 = .ok (.getfield 298, 3) := by decide +kernel
theorem d_Model_image_23 : decode M_Model_image.2.1 23 = .ok (.putfield 452, 3) := by decide +kernel
theorem d_Model_image_26 : decode M_Model_image.2.1 26 = .ok (.aload_n 0, 1) := by decide +kernel
theorem d_Model_image_27 : decode M_Model_image.2.1 27 = .ok (.aload_n 0, 1) := by decide +kernel
theorem d_Model_image_28 : decode M_Model_image.2.1 28 = .ok (.getfield 99, 3) := by decide +kernel
theorem d_Model_image_31 : decode M_Model_image.2.1 31 = .ok (.iconst 0, 1) := by decide +kernel
theorem d_Model_image_32 : decode M_Model_image.2.1 32 = .ok (.invokevirtual 359, 3) := by decide +kernel
theorem d_Model_image_35 : decode M_Model_image.2.1 35 = .ok (.aload_n 0, 1) := by decide +kernel
theorem d_Model_image_36 : decode M_Model_image.2.1 36 = .ok (.getfield 102, 3) := by decide +kernel
theorem d_Model_image_39 : decode M_Model_image.2.1 39 = .ok (.aload_n 0, 1) := by decide +kernel
theorem d_Model_image_40 : decode M_Model_image.2.1 40 = .ok (.getfield 81, 3) := by decide +kernel
theorem d_Model_image_43 : decode M_Model_image.2.1 43 = .ok (.invokestatic 455, 3) := by decide +kernel
theorem d_Model_image_46 : decode M_Model_image.2.1 46 = .ok (.aload_n 0, 1) := by decide +kernel
theorem d_Model_image_47 : decode M_Model_image.2.1 47 = .ok (.getfield 105, 3) := by decide +kernel
theorem d_Model_image_50 : decode M_Model_image.2.1 50 = .ok (.aload_n 0, 1) := by decide +kernel
theorem d_Model_image_51 : decode M_Model_image.2.1 51 = .ok (.getfield 93, 3) := by decide +kernel
theorem d_Model_image_54 : decode M_Model_image.2.1 54 = .ok (.invokestatic 455, 3) := by decide +kernel
theorem d_Model_image_57 : decode M_Model_image.2.1 57 = .ok (.aload_n 0, 1) := by decide +kernel
theorem d_Model_image_58 : decode M_Model_image.2.1 58 = .ok (.getfield 108, 3) := by decide +kernel
theorem d_Model_image_61 : decode M_Model_image.2.1 61 = .ok (.aload_n 0, 1) := by decide +kernel
theorem d_Model_image_62 : decode M_Model_image.2.1 62 = .ok (.getfield 96, 3) := by decide +kernel
theorem d_Model_image_65 : decode M_Model_image.2.1 65 = .ok (.invokestatic 455, 3) := by decide +kernel
theorem d_Model_image_68 : decode M_Model_image.2.1 68 = .ok (.aload_n 0, 1) := by decide +kernel
theorem d_Model_image_69 : decode M_Model_image.2.1 69 = .ok (.getfield 111, 3) := by decide +kernel
theorem d_Model_image_72 : decode M_Model_image.2.1 72 = .ok (.aload_n 0, 1) := by decide +kernel
theorem d_Model_image_73 : decode M_Model_image.2.1 73 = .ok (.getfield 68, 3) := by decide +kernel
theorem d_Model_image_76 : decode M_Model_image.2.1 76 = .ok (.invokestatic 455, 3) := by decide +kernel
theorem d_Model_image_79 : decode M_Model_image.2.1 79 = .ok (.return_, 1) := by decide +kernel
theorem d_Model_restore_0 : decode M_Model_restore.2.1 0 = .ok (.aload_n 0, 1) := by decide +kernel
theorem d_Model_restore_1 : decode M_Model_restore.2.1 1 = .ok (.iconst 0, 1) := by decide +kernel
theorem d_Model_restore_2 : decode M_Model_restore.2.1 2 = .ok (.putfield 114, 3) := by decide +kernel
theorem d_Model_restore_5 : decode M_Model_restore.2.1 5 = .ok (.aload_n 0, 1) := by decide +kernel
theorem d_Model_restore_6 : decode M_Model_restore.2.1 6 = .ok (.getfield 301, 3) := by decide +kernel
theorem d_Model_restore_9 : decode M_Model_restore.2.1 9 = .ok (.ifCond .ne 5, 3) := by decide +kernel
theorem d_Model_restore_12 : decode M_Model_restore.2.1 12 = .ok (.iconst 0, 1) := by decide +kernel
theorem d_Model_restore_13 : decode M_Model_restore.2.1 13 = .ok (.ireturn, 1) := by decide +kernel
theorem d_Model_restore_14 : decode M_Model_restore.2.1 14 = .ok (.aload_n 0, 1) := by decide +kernel
theorem d_Model_restore_15 : decode M_Model_restore.2.1 15 = .ok (.aload_n 0, 1) := by decide +kernel
theorem d_Model_restore_16 : decode M_Model_restore.2.1 16 = .ok (.getfield 449, 3) := by decide +kernel
theorem d_Model_restore_19 : decode M_Model_restore.2.1 19 = .ok (.putfield 295, 3) := by decide +kernel
theorem d_Model_restore_22 : decode M_Model_restore.2.1 22 = .ok (.aload_n 0, 1) := by decide +kernel
theorem d_Model_restore_23 : decode M_Model_restore.2.1 23 = .ok (.aload_n 0, 1) := by decide +kernel
theorem d_Model_restore_24 : decode M_Model_restore.2.1 24 = .ok (.getfield 452, 3) := by decide +kernel
theorem d_Model_restore_27 : decode M_Model_restore.2.1 27 = .ok (.putfield 298, 3) := by decide +kernel
theorem d_Model_restore_30 : decode M_Model_restore.2.1 30 = .ok (.aload_n 0, 1) := by decide +kernel
theorem d_Model_restore_31 : decode M_Model_restore.2.1 31 = .ok (.aload_n 0, 1) := by decide +kernel
theorem d_Model_restore_32 : decode M_Model_restore.2.1 32 = .ok (.getfield 99, 3) := by decide +kernel
theorem d_Model_restore_35 : decode M_Model_restore.2.1 35 = .ok (.iconst 0, 1) := by decide +kernel
theorem d_Model_restore_36 : decode M_Model_restore.2.1 36 = .ok (.invokevirtual 393, 3) := by decide +kernel
theorem d_Model_restore_39 : decode M_Model_restore.2.1 39 = .ok (.aload_n 0, 1) := by decide +kernel
theorem d_Model_restore_40 : decode M_Model_restore.2.1 40 = .ok (.getfield 81, 3) := by decide +kernel
theorem d_Model_restore_43 : decode M_Model_restore.2.1 43 = .ok (.aload_n 0, 1) := by decide +kernel
theorem d_Model_restore_44 : decode M_Model_restore.2.1 44 = .ok (.getfield 102, 3) := by decide +kernel
theorem d_Model_restore_47 : decode M_Model_restore.2.1 47 = .ok (.invokestatic 455, 3) := by decide +kernel
theorem d_Model_restore_50 : decode M_Model_restore.2.1 50 = .ok (.aload_n 0, 1) := by decide +kernel
theorem d_Model_restore_51 : decode M_Model_restore.2.1 51 = .ok (.getfield 93, 3) := by decide +kernel
theorem d_Model_restore_54 : decode M_Model_restore.2.1 54 = .ok (.aload_n 0, 1) := by decide +kernel
theorem d_Model_restore_55 : decode M_Model_restore.2.1 55 = .ok (.getfield 105, 3) := by decide +kernel
theorem d_Model_restore_58 : decode M_Model_restore.2.1 58 = .ok (.invokestatic 455, 3) := by decide +kernel
theorem d_Model_restore_61 : decode M_Model_restore.2.1 61 = .ok (.aload_n 0, 1) := by decide +kernel
theorem d_Model_restore_62 : decode M_Model_restore.2.1 62 = .ok (.getfield 96, 3) := by decide +kernel
theorem d_Model_restore_65 : decode M_Model_restore.2.1 65 = .ok (.aload_n 0, 1) := by decide +kernel
theorem d_Model_restore_66 : decode M_Model_restore.2.1 66 = .ok (.getfield 108, 3) := by decide +kernel
theorem d_Model_restore_69 : decode M_Model_restore.2.1 69 = .ok (.invokestatic 455, 3) := by decide +kernel
theorem d_Model_restore_72 : decode M_Model_restore.2.1 72 = .ok (.aload_n 0, 1) := by decide +kernel
theorem d_Model_restore_73 : decode M_Model_restore.2.1 73 = .ok (.getfield 68, 3) := by decide +kernel
theorem d_Model_restore_76 : decode M_Model_restore.2.1 76 = .ok (.aload_n 0, 1) := by decide +kernel
theorem d_Model_restore_77 : decode M_Model_restore.2.1 77 = .ok (.getfield 111, 3) := by decide +kernel
theorem d_Model_restore_80 : decode M_Model_restore.2.1 80 = .ok (.invokestatic 455, 3) := by decide +kernel
theorem d_Model_restore_83 : decode M_Model_restore.2.1 83 = .ok (.iconst 1, 1) := by decide +kernel
theorem d_Model_restore_84 : decode M_Model_restore.2.1 84 = .ok (.ireturn, 1) := by decide +kernel

/-! decode rows of 24.laws (by program) -/
theorem d_Game_couple_0 : decode M_Game_couple.2.1 0 = .ok (.iload_n 0, 1) := by decide +kernel
theorem d_Game_couple_1 : decode M_Game_couple.2.1 1 = .ok (.bipush 6, 2) := by decide +kernel
theorem d_Game_couple_3 : decode M_Game_couple.2.1 3 = .ok (.imul, 1) := by decide +kernel
theorem d_Game_couple_4 : decode M_Game_couple.2.1 4 = .ok (.iload_n 1, 1) := by decide +kernel
theorem d_Game_couple_5 : decode M_Game_couple.2.1 5 = .ok (.iadd, 1) := by decide +kernel
theorem d_Game_couple_6 : decode M_Game_couple.2.1 6 = .ok (.ireturn, 1) := by decide +kernel
theorem d_Game_tellGains_0 : decode M_Game_tellGains.2.1 0 = .ok (.iconst 0, 1) := by decide +kernel
theorem d_Game_tellGains_1 : decode M_Game_tellGains.2.1 1 = .ok (.istore_n 1, 1) := by decide +kernel
theorem d_Game_tellGains_2 : decode M_Game_tellGains.2.1 2 = .ok (.iload_n 1, 1) := by decide +kernel
theorem d_Game_tellGains_3 : decode M_Game_tellGains.2.1 3 = .ok (.aload_n 0, 1) := by decide +kernel
theorem d_Game_tellGains_4 : decode M_Game_tellGains.2.1 4 = .ok (.getfield 31, 3) := by decide +kernel
theorem d_Game_tellGains_7 : decode M_Game_tellGains.2.1 7 = .ok (.getfield 32, 3) := by decide +kernel
theorem d_Game_tellGains_10 : decode M_Game_tellGains.2.1 10 = .ok (.if_icmp .ge 24, 3) := by decide +kernel
theorem d_Game_tellGains_13 : decode M_Game_tellGains.2.1 13 = .ok (.aload_n 0, 1) := by decide +kernel
theorem d_Game_tellGains_14 : decode M_Game_tellGains.2.1 14 = .ok (.getfield 9, 3) := by decide +kernel
theorem d_Game_tellGains_17 : decode M_Game_tellGains.2.1 17 = .ok (.iload_n 1, 1) := by decide +kernel
theorem d_Game_tellGains_18 : decode M_Game_tellGains.2.1 18 = .ok (.aload_n 0, 1) := by decide +kernel
theorem d_Game_tellGains_19 : decode M_Game_tellGains.2.1 19 = .ok (.getfield 21, 3) := by decide +kernel
theorem d_Game_tellGains_22 : decode M_Game_tellGains.2.1 22 = .ok (.iload_n 1, 1) := by decide +kernel
theorem d_Game_tellGains_23 : decode M_Game_tellGains.2.1 23 = .ok (.iconst 0, 1) := by decide +kernel
theorem d_Game_tellGains_24 : decode M_Game_tellGains.2.1 24 = .ok (.invokevirtual 38, 3) := by decide +kernel
theorem d_Game_tellGains_27 : decode M_Game_tellGains.2.1 27 = .ok (.iastore, 1) := by decide +kernel
theorem d_Game_tellGains_28 : decode M_Game_tellGains.2.1 28 = .ok (.iinc 1 1, 3) := by decide +kernel
theorem d_Game_tellGains_31 : decode M_Game_tellGains.2.1 31 = .ok (.goto (-29), 3) := by decide +kernel
theorem d_Game_tellGains_34 : decode M_Game_tellGains.2.1 34 = .ok (.iconst 0, 1) := by decide +kernel
theorem d_Game_tellGains_35 : decode M_Game_tellGains.2.1 35 = .ok (.istore_n 1, 1) := by decide +kernel
theorem d_Game_tellGains_36 : decode M_Game_tellGains.2.1 36 = .ok (.iload_n 1, 1) := by decide +kernel
theorem d_Game_tellGains_37 : decode M_Game_tellGains.2.1 37 = .ok (.aload_n 0, 1) := by decide +kernel
theorem d_Game_tellGains_38 : decode M_Game_tellGains.2.1 38 = .ok (.getfield 31, 3) := by decide +kernel
theorem d_Game_tellGains_41 : decode M_Game_tellGains.2.1 41 = .ok (.getfield 32, 3) := by decide +kernel
theorem d_Game_tellGains_44 : decode M_Game_tellGains.2.1 44 = .ok (.if_icmp .ge 87, 3) := by decide +kernel
theorem d_Game_tellGains_47 : decode M_Game_tellGains.2.1 47 = .ok (.iconst 0, 1) := by decide +kernel
theorem d_Game_tellGains_48 : decode M_Game_tellGains.2.1 48 = .ok (.istore_n 2, 1) := by decide +kernel
theorem d_Game_tellGains_49 : decode M_Game_tellGains.2.1 49 = .ok (.iload_n 2, 1) := by decide +kernel
theorem d_Game_tellGains_50 : decode M_Game_tellGains.2.1 50 = .ok (.aload_n 0, 1) := by decide +kernel
theorem d_Game_tellGains_51 : decode M_Game_tellGains.2.1 51 = .ok (.getfield 31, 3) := by decide +kernel
theorem d_Game_tellGains_54 : decode M_Game_tellGains.2.1 54 = .ok (.getfield 32, 3) := by decide +kernel
theorem d_Game_tellGains_57 : decode M_Game_tellGains.2.1 57 = .ok (.if_icmp .ge 68, 3) := by decide +kernel
theorem d_Game_tellGains_60 : decode M_Game_tellGains.2.1 60 = .ok (.aload_n 0, 1) := by decide +kernel
theorem d_Game_tellGains_61 : decode M_Game_tellGains.2.1 61 = .ok (.getfield 21, 3) := by decide +kernel
theorem d_Game_tellGains_64 : decode M_Game_tellGains.2.1 64 = .ok (.aload_n 0, 1) := by decide +kernel
theorem d_Game_tellGains_65 : decode M_Game_tellGains.2.1 65 = .ok (.getfield 9, 3) := by decide +kernel
theorem d_Game_tellGains_68 : decode M_Game_tellGains.2.1 68 = .ok (.iload_n 1, 1) := by decide +kernel
theorem d_Game_tellGains_69 : decode M_Game_tellGains.2.1 69 = .ok (.iaload, 1) := by decide +kernel
theorem d_Game_tellGains_70 : decode M_Game_tellGains.2.1 70 = .ok (.aload_n 0, 1) := by decide +kernel
theorem d_Game_tellGains_71 : decode M_Game_tellGains.2.1 71 = .ok (.getfield 9, 3) := by decide +kernel
theorem d_Game_tellGains_74 : decode M_Game_tellGains.2.1 74 = .ok (.iload_n 2, 1) := by decide +kernel
theorem d_Game_tellGains_75 : decode M_Game_tellGains.2.1 75 = .ok (.iaload, 1) := by decide +kernel
theorem d_Game_tellGains_76 : decode M_Game_tellGains.2.1 76 = .ok (.ior, 1) := by decide +kernel
theorem d_Game_tellGains_77 : decode M_Game_tellGains.2.1 77 = .ok (.invokevirtual 42, 3) := by decide +kernel
theorem d_Game_tellGains_80 : decode M_Game_tellGains.2.1 80 = .ok (.istore_n 3, 1) := by decide +kernel
theorem d_Game_tellGains_81 : decode M_Game_tellGains.2.1 81 = .ok (.aload_n 0, 1) := by decide +kernel
theorem d_Game_tellGains_82 : decode M_Game_tellGains.2.1 82 = .ok (.getfield 15, 3) := by decide +kernel
theorem d_Game_tellGains_85 : decode M_Game_tellGains.2.1 85 = .ok (.iload_n 1, 1) := by decide +kernel
theorem d_Game_tellGains_86 : decode M_Game_tellGains.2.1 86 = .ok (.iload_n 2, 1) := by decide +kernel
theorem d_Game_tellGains_87 : decode M_Game_tellGains.2.1 87 = .ok (.invokestatic 46, 3) := by decide +kernel
theorem d_Game_tellGains_90 : decode M_Game_tellGains.2.1 90 = .ok (.aload_n 0, 1) := by decide +kernel
theorem d_Game_tellGains_91 : decode M_Game_tellGains.2.1 91 = .ok (.getfield 21, 3) := by decide +kernel
theorem d_Game_tellGains_94 : decode M_Game_tellGains.2.1 94 = .ok (.iload_n 3, 1) := by decide +kernel
theorem d_Game_tellGains_95 : decode M_Game_tellGains.2.1 95 = .ok (.iconst 0, 1) := by decide +kernel
theorem d_Game_tellGains_96 : decode M_Game_tellGains.2.1 96 = .ok (.invokevirtual 49, 3) := by decide +kernel
theorem d_Game_tellGains_99 : decode M_Game_tellGains.2.1 99 = .ok (.iastore, 1) := by decide +kernel
theorem d_Game_tellGains_100 : decode M_Game_tellGains.2.1 100 = .ok (.aload_n 0, 1) := by decide +kernel
theorem d_Game_tellGains_101 : decode M_Game_tellGains.2.1 101 = .ok (.getfield 18, 3) := by decide +kernel
theorem d_Game_tellGains_104 : decode M_Game_tellGains.2.1 104 = .ok (.iload_n 1, 1) := by decide +kernel
theorem d_Game_tellGains_105 : decode M_Game_tellGains.2.1 105 = .ok (.iload_n 2, 1) := by decide +kernel
theorem d_Game_tellGains_106 : decode M_Game_tellGains.2.1 106 = .ok (.invokestatic 46, 3) := by decide +kernel
theorem d_Game_tellGains_109 : decode M_Game_tellGains.2.1 109 = .ok (.aload_n 0, 1) := by decide +kernel
theorem d_Game_tellGains_110 : decode M_Game_tellGains.2.1 110 = .ok (.getfield 21, 3) := by decide +kernel
theorem d_Game_tellGains_113 : decode M_Game_tellGains.2.1 113 = .ok (.iload_n 3, 1) := by decide +kernel
theorem d_Game_tellGains_114 : decode M_Game_tellGains.2.1 114 = .ok (.iconst 1, 1) := by decide +kernel
theorem d_Game_tellGains_115 : decode M_Game_tellGains.2.1 115 = .ok (.invokevirtual 49, 3) := by decide +kernel
theorem d_Game_tellGains_118 : decode M_Game_tellGains.2.1 118 = .ok (.iastore, 1) := by decide +kernel
theorem d_Game_tellGains_119 : decode M_Game_tellGains.2.1 119 = .ok (.iinc 2 1, 3) := by decide +kernel
theorem d_Game_tellGains_122 : decode M_Game_tellGains.2.1 122 = .ok (.goto (-73), 3) := by decide +kernel
theorem d_Game_tellGains_125 : decode M_Game_tellGains.2.1 125 = .ok (.iinc 1 1, 3) := by decide +kernel
theorem d_Game_tellGains_128 : decode M_Game_tellGains.2.1 128 = .ok (.goto (-92), 3) := by decide +kernel
theorem d_Game_tellGains_131 : decode M_Game_tellGains.2.1 131 = .ok (.return_, 1) := by decide +kernel
theorem d_Game_isShavable_0 : decode M_Game_isShavable.2.1 0 = .ok (.aload_n 0, 1) := by decide +kernel
theorem d_Game_isShavable_1 : decode M_Game_isShavable.2.1 1 = .ok (.getfield 31, 3) := by decide +kernel
theorem d_Game_isShavable_4 : decode M_Game_isShavable.2.1 4 = .ok (.getfield 52, 3) := by decide +kernel
theorem d_Game_isShavable_7 : decode M_Game_isShavable.2.1 7 = .ok (.iload_n 1, 1) := by decide +kernel
theorem d_Game_isShavable_8 : decode M_Game_isShavable.2.1 8 = .ok (.iaload, 1) := by decide +kernel
theorem d_Game_isShavable_9 : decode M_Game_isShavable.2.1 9 = .ok (.iconst 3, 1) := by decide +kernel
theorem d_Game_isShavable_10 : decode M_Game_isShavable.2.1 10 = .ok (.if_icmp .eq 7, 3) := by decide +kernel
theorem d_Game_isShavable_13 : decode M_Game_isShavable.2.1 13 = .ok (.iconst 1, 1) := by decide +kernel
theorem d_Game_isShavable_14 : decode M_Game_isShavable.2.1 14 = .ok (.goto 4, 3) := by decide +kernel
theorem d_Game_isShavable_17 : decode M_Game_isShavable.2.1 17 = .ok (.iconst 0, 1) := by decide +kernel
theorem d_Game_isShavable_18 : decode M_Game_isShavable.2.1 18 = .ok (.ireturn, 1) := by decide +kernel
theorem d_Game_rests_0 : decode M_Game_rests.2.1 0 = .ok (.aload_n 0, 1) := by decide +kernel
theorem d_Game_rests_1 : decode M_Game_rests.2.1 1 = .ok (.iload_n 1, 1) := by decide +kernel
theorem d_Game_rests_2 : decode M_Game_rests.2.1 2 = .ok (.invokevirtual 55, 3) := by decide +kernel
theorem d_Game_rests_5 : decode M_Game_rests.2.1 5 = .ok (.ifCond .eq 11, 3) := by decide +kernel
theorem d_Game_rests_8 : decode M_Game_rests.2.1 8 = .ok (.aload_n 0, 1) := by decide +kernel
theorem d_Game_rests_9 : decode M_Game_rests.2.1 9 = .ok (.iload_n 2, 1) := by decide +kernel
theorem d_Game_rests_10 : decode M_Game_rests.2.1 10 = .ok (.invokevirtual 55, 3) := by decide +kernel
theorem d_Game_rests_13 : decode M_Game_rests.2.1 13 = .ok (.ifCond .ne 5, 3) := by decide +kernel
theorem d_Game_rests_16 : decode M_Game_rests.2.1 16 = .ok (.iconst 0, 1) := by decide +kernel
theorem d_Game_rests_17 : decode M_Game_rests.2.1 17 = .ok (.ireturn, 1) := by decide +kernel
theorem d_Game_rests_18 : decode M_Game_rests.2.1 18 = .ok (.iconst 0, 1) := by decide +kernel
theorem d_Game_rests_19 : decode M_Game_rests.2.1 19 = .ok (.istore_n 3, 1) := by decide +kernel
theorem d_Game_rests_20 : decode M_Game_rests.2.1 20 = .ok (.iload_n 3, 1) := by decide +kernel
theorem d_Game_rests_21 : decode M_Game_rests.2.1 21 = .ok (.aload_n 0, 1) := by decide +kernel
theorem d_Game_rests_22 : decode M_Game_rests.2.1 22 = .ok (.getfield 31, 3) := by decide +kernel
theorem d_Game_rests_25 : decode M_Game_rests.2.1 25 = .ok (.getfield 32, 3) := by decide +kernel
theorem d_Game_rests_28 : decode M_Game_rests.2.1 28 = .ok (.if_icmp .ge 65, 3) := by decide +kernel
theorem d_Game_rests_31 : decode M_Game_rests.2.1 31 = .ok (.aload_n 0, 1) := by decide +kernel
theorem d_Game_rests_32 : decode M_Game_rests.2.1 32 = .ok (.iload_n 3, 1) := by decide +kernel
theorem d_Game_rests_33 : decode M_Game_rests.2.1 33 = .ok (.invokevirtual 55, 3) := by decide +kernel
theorem d_Game_rests_36 : decode M_Game_rests.2.1 36 = .ok (.ifCond .eq 51, 3) := by decide +kernel
theorem d_Game_rests_39 : decode M_Game_rests.2.1 39 = .ok (.aload_n 0, 1) := by decide +kernel
theorem d_Game_rests_40 : decode M_Game_rests.2.1 40 = .ok (.getfield 15, 3) := by decide +kernel
theorem d_Game_rests_43 : decode M_Game_rests.2.1 43 = .ok (.iload_n 3, 1) := by decide +kernel
theorem d_Game_rests_44 : decode M_Game_rests.2.1 44 = .ok (.iload_n 2, 1) := by decide +kernel
theorem d_Game_rests_45 : decode M_Game_rests.2.1 45 = .ok (.invokestatic 46, 3) := by decide +kernel
theorem d_Game_rests_48 : decode M_Game_rests.2.1 48 = .ok (.iaload, 1) := by decide +kernel
theorem d_Game_rests_49 : decode M_Game_rests.2.1 49 = .ok (.aload_n 0, 1) := by decide +kernel
theorem d_Game_rests_50 : decode M_Game_rests.2.1 50 = .ok (.getfield 15, 3) := by decide +kernel
theorem d_Game_rests_53 : decode M_Game_rests.2.1 53 = .ok (.iload_n 1, 1) := by decide +kernel
theorem d_Game_rests_54 : decode M_Game_rests.2.1 54 = .ok (.iload_n 2, 1) := by decide +kernel
theorem d_Game_rests_55 : decode M_Game_rests.2.1 55 = .ok (.invokestatic 46, 3) := by decide +kernel
theorem d_Game_rests_58 : decode M_Game_rests.2.1 58 = .ok (.iaload, 1) := by decide +kernel
theorem d_Game_rests_59 : decode M_Game_rests.2.1 59 = .ok (.if_icmp .gt 26, 3) := by decide +kernel
theorem d_Game_rests_62 : decode M_Game_rests.2.1 62 = .ok (.aload_n 0, 1) := by decide +kernel
theorem d_Game_rests_63 : decode M_Game_rests.2.1 63 = .ok (.getfield 18, 3) := by decide +kernel
theorem d_Game_rests_66 : decode M_Game_rests.2.1 66 = .ok (.iload_n 1, 1) := by decide +kernel
theorem d_Game_rests_67 : decode M_Game_rests.2.1 67 = .ok (.iload_n 3, 1) := by decide +kernel
theorem d_Game_rests_68 : decode M_Game_rests.2.1 68 = .ok (.invokestatic 46, 3) := by decide +kernel
theorem d_Game_rests_71 : decode M_Game_rests.2.1 71 = .ok (.iaload, 1) := by decide +kernel
theorem d_Game_rests_72 : decode M_Game_rests.2.1 72 = .ok (.aload_n 0, 1) := by decide +kernel
theorem d_Game_rests_73 : decode M_Game_rests.2.1 73 = .ok (.getfield 18, 3) := by decide +kernel
theorem d_Game_rests_76 : decode M_Game_rests.2.1 76 = .ok (.iload_n 1, 1) := by decide +kernel
theorem d_Game_rests_77 : decode M_Game_rests.2.1 77 = .ok (.iload_n 2, 1) := by decide +kernel
theorem d_Game_rests_78 : decode M_Game_rests.2.1 78 = .ok (.invokestatic 46, 3) := by decide +kernel
theorem d_Game_rests_81 : decode M_Game_rests.2.1 81 = .ok (.iaload, 1) := by decide +kernel
theorem d_Game_rests_82 : decode M_Game_rests.2.1 82 = .ok (.if_icmp .le 5, 3) := by decide +kernel
theorem d_Game_rests_85 : decode M_Game_rests.2.1 85 = .ok (.iconst 0, 1) := by decide +kernel
theorem d_Game_rests_86 : decode M_Game_rests.2.1 86 = .ok (.ireturn, 1) := by decide +kernel
theorem d_Game_rests_87 : decode M_Game_rests.2.1 87 = .ok (.iinc 3 1, 3) := by decide +kernel
theorem d_Game_rests_90 : decode M_Game_rests.2.1 90 = .ok (.goto (-70), 3) := by decide +kernel
theorem d_Game_rests_93 : decode M_Game_rests.2.1 93 = .ok (.iconst 1, 1) := by decide +kernel
theorem d_Game_rests_94 : decode M_Game_rests.2.1 94 = .ok (.ireturn, 1) := by decide +kernel
theorem d_Game_resting_0 : decode M_Game_resting.2.1 0 = .ok (.iconst 0, 1) := by decide +kernel
theorem d_Game_resting_1 : decode M_Game_resting.2.1 1 = .ok (.istore_n 1, 1) := by decide +kernel
theorem d_Game_resting_2 : decode M_Game_resting.2.1 2 = .ok (.iconst 0, 1) := by decide +kernel
theorem d_Game_resting_3 : decode M_Game_resting.2.1 3 = .ok (.istore_n 2, 1) := by decide +kernel
theorem d_Game_resting_4 : decode M_Game_resting.2.1 4 = .ok (.iload_n 2, 1) := by decide +kernel
theorem d_Game_resting_5 : decode M_Game_resting.2.1 5 = .ok (.aload_n 0, 1) := by decide +kernel
theorem d_Game_resting_6 : decode M_Game_resting.2.1 6 = .ok (.getfield 31, 3) := by decide +kernel
theorem d_Game_resting_9 : decode M_Game_resting.2.1 9 = .ok (.getfield 32, 3) := by decide +kernel
theorem d_Game_resting_12 : decode M_Game_resting.2.1 12 = .ok (.if_icmp .ge 40, 3) := by decide +kernel
theorem d_Game_resting_15 : decode M_Game_resting.2.1 15 = .ok (.iconst 0, 1) := by decide +kernel
theorem d_Game_resting_16 : decode M_Game_resting.2.1 16 = .ok (.istore_n 3, 1) := by decide +kernel
theorem d_Game_resting_17 : decode M_Game_resting.2.1 17 = .ok (.iload_n 3, 1) := by decide +kernel
theorem d_Game_resting_18 : decode M_Game_resting.2.1 18 = .ok (.aload_n 0, 1) := by decide +kernel
theorem d_Game_resting_19 : decode M_Game_resting.2.1 19 = .ok (.getfield 31, 3) := by decide +kernel
theorem d_Game_resting_22 : decode M_Game_resting.2.1 22 = .ok (.getfield 32, 3) := by decide +kernel
theorem d_Game_resting_25 : decode M_Game_resting.2.1 25 = .ok (.if_icmp .ge 21, 3) := by decide +kernel
theorem d_Game_resting_28 : decode M_Game_resting.2.1 28 = .ok (.aload_n 0, 1) := by decide +kernel
theorem d_Game_resting_29 : decode M_Game_resting.2.1 29 = .ok (.iload_n 2, 1) := by decide +kernel
theorem d_Game_resting_30 : decode M_Game_resting.2.1 30 = .ok (.iload_n 3, 1) := by decide +kernel
theorem d_Game_resting_31 : decode M_Game_resting.2.1 31 = .ok (.invokevirtual 59, 3) := by decide +kernel
theorem d_Game_resting_34 : decode M_Game_resting.2.1 34 = .ok (.ifCond .eq 6, 3) := by decide +kernel
theorem d_Game_resting_37 : decode M_Game_resting.2.1 37 = .ok (.iinc 1 1, 3) := by decide +kernel
theorem d_Game_resting_40 : decode M_Game_resting.2.1 40 = .ok (.iinc 3 1, 3) := by decide +kernel
theorem d_Game_resting_43 : decode M_Game_resting.2.1 43 = .ok (.goto (-26), 3) := by decide +kernel
theorem d_Game_resting_46 : decode M_Game_resting.2.1 46 = .ok (.iinc 2 1, 3) := by decide +kernel
theorem d_Game_resting_49 : decode M_Game_resting.2.1 49 = .ok (.goto (-45), 3) := by decide +kernel
theorem d_Game_resting_52 : decode M_Game_resting.2.1 52 = .ok (.iload_n 1, 1) := by decide +kernel
theorem d_Game_resting_53 : decode M_Game_resting.2.1 53 = .ok (.ireturn, 1) := by decide +kernel
theorem d_Game_firstResting_0 : decode M_Game_firstResting.2.1 0 = .ok (.iconst 0, 1) := by decide +kernel
theorem d_Game_firstResting_1 : decode M_Game_firstResting.2.1 1 = .ok (.istore_n 1, 1) := by decide +kernel
theorem d_Game_firstResting_2 : decode M_Game_firstResting.2.1 2 = .ok (.iload_n 1, 1) := by decide +kernel
theorem d_Game_firstResting_3 : decode M_Game_firstResting.2.1 3 = .ok (.aload_n 0, 1) := by decide +kernel
theorem d_Game_firstResting_4 : decode M_Game_firstResting.2.1 4 = .ok (.getfield 31, 3) := by decide +kernel
theorem d_Game_firstResting_7 : decode M_Game_firstResting.2.1 7 = .ok (.getfield 32, 3) := by decide +kernel
theorem d_Game_firstResting_10 : decode M_Game_firstResting.2.1 10 = .ok (.if_icmp .ge 44, 3) := by decide +kernel
theorem d_Game_firstResting_13 : decode M_Game_firstResting.2.1 13 = .ok (.iconst 0, 1) := by decide +kernel
theorem d_Game_firstResting_14 : decode M_Game_firstResting.2.1 14 = .ok (.istore_n 2, 1) := by decide +kernel
theorem d_Game_firstResting_15 : decode M_Game_firstResting.2.1 15 = .ok (.iload_n 2, 1) := by decide +kernel
theorem d_Game_firstResting_16 : decode M_Game_firstResting.2.1 16 = .ok (.aload_n 0, 1) := by decide +kernel
theorem d_Game_firstResting_17 : decode M_Game_firstResting.2.1 17 = .ok (.getfield 31, 3) := by decide +kernel
theorem d_Game_firstResting_20 : decode M_Game_firstResting.2.1 20 = .ok (.getfield 32, 3) := by decide +kernel
theorem d_Game_firstResting_23 : decode M_Game_firstResting.2.1 23 = .ok (.if_icmp .ge 25, 3) := by decide +kernel
theorem d_Game_firstResting_26 : decode M_Game_firstResting.2.1 26 = .ok (.aload_n 0, 1) := by decide +kernel
theorem d_Game_firstResting_27 : decode M_Game_firstResting.2.1 27 = .ok (.iload_n 1, 1) := by decide +kernel
theorem d_Game_firstResting_28 : decode M_Game_firstResting.2.1 28 = .ok (.iload_n 2, 1) := by decide +kernel
theorem d_Game_firstResting_29 : decode M_Game_firstResting.2.1 29 = .ok (.invokevirtual 59, 3) := by decide +kernel
theorem d_Game_firstResting_32 : decode M_Game_firstResting.2.1 32 = .ok (.ifCond .eq 10, 3) := by decide +kernel
theorem d_Game_firstResting_35 : decode M_Game_firstResting.2.1 35 = .ok (.bipush 10, 2) := by decide +kernel
theorem d_Game_firstResting_37 : decode M_Game_firstResting.2.1 37 = .ok (.iload_n 1, 1) := by decide +kernel
theorem d_Game_firstResting_38 : decode M_Game_firstResting.2.1 38 = .ok (.imul, 1) := by decide +kernel
theorem d_Game_firstResting_39 : decode M_Game_firstResting.2.1 39 = .ok (.iload_n 2, 1) := by decide +kernel
theorem d_Game_firstResting_40 : decode M_Game_firstResting.2.1 40 = .ok (.iadd, 1) := by decide +kernel
theorem d_Game_firstResting_41 : decode M_Game_firstResting.2.1 41 = .ok (.ireturn, 1) := by decide +kernel
theorem d_Game_firstResting_42 : decode M_Game_firstResting.2.1 42 = .ok (.iinc 2 1, 3) := by decide +kernel
theorem d_Game_firstResting_45 : decode M_Game_firstResting.2.1 45 = .ok (.goto (-30), 3) := by decide +kernel
theorem d_Game_firstResting_48 : decode M_Game_firstResting.2.1 48 = .ok (.iinc 1 1, 3) := by decide +kernel
theorem d_Game_firstResting_51 : decode M_Game_firstResting.2.1 51 = .ok (.goto (-49), 3) := by decide +kernel
theorem d_Game_firstResting_54 : decode M_Game_firstResting.2.1 54 = .ok (.iconst (-1), 1) := by decide +kernel
theorem d_Game_firstResting_55 : decode M_Game_firstResting.2.1 55 = .ok (.ireturn, 1) := by decide +kernel
theorem d_Keeping_unionOf_0 : decode M_Keeping_unionOf.2.1 0 = .ok (.iconst 0, 1) := by decide +kernel
theorem d_Keeping_unionOf_1 : decode M_Keeping_unionOf.2.1 1 = .ok (.istore_n 2, 1) := by decide +kernel
theorem d_Keeping_unionOf_2 : decode M_Keeping_unionOf.2.1 2 = .ok (.iconst 0, 1) := by decide +kernel
theorem d_Keeping_unionOf_3 : decode M_Keeping_unionOf.2.1 3 = .ok (.istore_n 3, 1) := by decide +kernel
theorem d_Keeping_unionOf_4 : decode M_Keeping_unionOf.2.1 4 = .ok (.iload_n 3, 1) := by decide +kernel
theorem d_Keeping_unionOf_5 : decode M_Keeping_unionOf.2.1 5 = .ok (.aload_n 0, 1) := by decide +kernel
theorem d_Keeping_unionOf_6 : decode M_Keeping_unionOf.2.1 6 = .ok (.getfield 25, 3) := by decide +kernel
theorem d_Keeping_unionOf_9 : decode M_Keeping_unionOf.2.1 9 = .ok (.getfield 26, 3) := by decide +kernel
theorem d_Keeping_unionOf_12 : decode M_Keeping_unionOf.2.1 12 = .ok (.if_icmp .ge 26, 3) := by decide +kernel
theorem d_Keeping_unionOf_15 : decode M_Keeping_unionOf.2.1 15 = .ok (.iload_n 1, 1) := by decide +kernel
theorem d_Keeping_unionOf_16 : decode M_Keeping_unionOf.2.1 16 = .ok (.iload_n 3, 1) := by decide +kernel
theorem d_Keeping_unionOf_17 : decode M_Keeping_unionOf.2.1 17 = .ok (.invokestatic 32, 3) := by decide +kernel
theorem d_Keeping_unionOf_20 : decode M_Keeping_unionOf.2.1 20 = .ok (.ifCond .eq 12, 3) := by decide +kernel
theorem d_Keeping_unionOf_23 : decode M_Keeping_unionOf.2.1 23 = .ok (.iload_n 2, 1) := by decide +kernel
theorem d_Keeping_unionOf_24 : decode M_Keeping_unionOf.2.1 24 = .ok (.aload_n 0, 1) := by decide +kernel
theorem d_Keeping_unionOf_25 : decode M_Keeping_unionOf.2.1 25 = .ok (.getfield 9, 3) := by decide +kernel
theorem d_Keeping_unionOf_28 : decode M_Keeping_unionOf.2.1 28 = .ok (.iload_n 3, 1) := by decide +kernel
theorem d_Keeping_unionOf_29 : decode M_Keeping_unionOf.2.1 29 = .ok (.iaload, 1) := by decide +kernel
theorem d_Keeping_unionOf_30 : decode M_Keeping_unionOf.2.1 30 = .ok (.ior, 1) := by decide +kernel
theorem d_Keeping_unionOf_31 : decode M_Keeping_unionOf.2.1 31 = .ok (.istore_n 2, 1) := by decide +kernel
theorem d_Keeping_unionOf_32 : decode M_Keeping_unionOf.2.1 32 = .ok (.iinc 3 1, 3) := by decide +kernel
theorem d_Keeping_unionOf_35 : decode M_Keeping_unionOf.2.1 35 = .ok (.goto (-31), 3) := by decide +kernel
theorem d_Keeping_unionOf_38 : decode M_Keeping_unionOf.2.1 38 = .ok (.iload_n 2, 1) := by decide +kernel
theorem d_Keeping_unionOf_39 : decode M_Keeping_unionOf.2.1 39 = .ok (.ireturn, 1) := by decide +kernel
theorem d_Keeping_fewestWithAll_0 : decode M_Keeping_fewestWithAll.2.1 0 = .ok (.iconst 0, 1) := by decide +kernel
theorem d_Keeping_fewestWithAll_1 : decode M_Keeping_fewestWithAll.2.1 1 = .ok (.istore_n 1, 1) := by decide +kernel
theorem d_Keeping_fewestWithAll_2 : decode M_Keeping_fewestWithAll.2.1 2 = .ok (.iload_n 1, 1) := by decide +kernel
theorem d_Keeping_fewestWithAll_3 : decode M_Keeping_fewestWithAll.2.1 3 = .ok (.aload_n 0, 1) := by decide +kernel
theorem d_Keeping_fewestWithAll_4 : decode M_Keeping_fewestWithAll.2.1 4 = .ok (.getfield 25, 3) := by decide +kernel
theorem d_Keeping_fewestWithAll_7 : decode M_Keeping_fewestWithAll.2.1 7 = .ok (.getfield 26, 3) := by decide +kernel
theorem d_Keeping_fewestWithAll_10 : decode M_Keeping_fewestWithAll.2.1 10 = .ok (.if_icmp .ge 23, 3) := by decide +kernel
theorem d_Keeping_fewestWithAll_13 : decode M_Keeping_fewestWithAll.2.1 13 = .ok (.aload_n 0, 1) := by decide +kernel
theorem d_Keeping_fewestWithAll_14 : decode M_Keeping_fewestWithAll.2.1 14 = .ok (.getfield 9, 3) := by decide +kernel
theorem d_Keeping_fewestWithAll_17 : decode M_Keeping_fewestWithAll.2.1 17 = .ok (.iload_n 1, 1) := by decide +kernel
theorem d_Keeping_fewestWithAll_18 : decode M_Keeping_fewestWithAll.2.1 18 = .ok (.aload_n 0, 1) := by decide +kernel
theorem d_Keeping_fewestWithAll_19 : decode M_Keeping_fewestWithAll.2.1 19 = .ok (.getfield 15, 3) := by decide +kernel
theorem d_Keeping_fewestWithAll_22 : decode M_Keeping_fewestWithAll.2.1 22 = .ok (.iload_n 1, 1) := by decide +kernel
theorem d_Keeping_fewestWithAll_23 : decode M_Keeping_fewestWithAll.2.1 23 = .ok (.invokevirtual 36, 3) := by decide +kernel
theorem d_Keeping_fewestWithAll_26 : decode M_Keeping_fewestWithAll.2.1 26 = .ok (.iastore, 1) := by decide +kernel
theorem d_Keeping_fewestWithAll_27 : decode M_Keeping_fewestWithAll.2.1 27 = .ok (.iinc 1 1, 3) := by decide +kernel
theorem d_Keeping_fewestWithAll_30 : decode M_Keeping_fewestWithAll.2.1 30 = .ok (.goto (-28), 3) := by decide +kernel
theorem d_Keeping_fewestWithAll_33 : decode M_Keeping_fewestWithAll.2.1 33 = .ok (.aload_n 0, 1) := by decide +kernel
theorem d_Keeping_fewestWithAll_34 : decode M_Keeping_fewestWithAll.2.1 34 = .ok (.getfield 15, 3) := by decide +kernel
theorem d_Keeping_fewestWithAll_37 : decode M_Keeping_fewestWithAll.2.1 37 = .ok (.invokevirtual 40, 3) := by decide +kernel
theorem d_Keeping_fewestWithAll_40 : decode M_Keeping_fewestWithAll.2.1 40 = .ok (.istore_n 1, 1) := by decide +kernel
theorem d_Keeping_fewestWithAll_41 : decode M_Keeping_fewestWithAll.2.1 41 = .ok (.iconst 1, 1) := by decide +kernel
theorem d_Keeping_fewestWithAll_42 : decode M_Keeping_fewestWithAll.2.1 42 = .ok (.aload_n 0, 1) := by decide +kernel
theorem d_Keeping_fewestWithAll_43 : decode M_Keeping_fewestWithAll.2.1 43 = .ok (.getfield 25, 3) := by decide +kernel
theorem d_Keeping_fewestWithAll_46 : decode M_Keeping_fewestWithAll.2.1 46 = .ok (.getfield 26, 3) := by decide +kernel
theorem d_Keeping_fewestWithAll_49 : decode M_Keeping_fewestWithAll.2.1 49 = .ok (.ishl, 1) := by decide +kernel
theorem d_Keeping_fewestWithAll_50 : decode M_Keeping_fewestWithAll.2.1 50 = .ok (.istore_n 2, 1) := by decide +kernel
theorem d_Keeping_fewestWithAll_51 : decode M_Keeping_fewestWithAll.2.1 51 = .ok (.iload_n 2, 1) := by decide +kernel
theorem d_Keeping_fewestWithAll_52 : decode M_Keeping_fewestWithAll.2.1 52 = .ok (.iconst 1, 1) := by decide +kernel
theorem d_Keeping_fewestWithAll_53 : decode M_Keeping_fewestWithAll.2.1 53 = .ok (.isub, 1) := by decide +kernel
theorem d_Keeping_fewestWithAll_54 : decode M_Keeping_fewestWithAll.2.1 54 = .ok (.istore_n 3, 1) := by decide +kernel
theorem d_Keeping_fewestWithAll_55 : decode M_Keeping_fewestWithAll.2.1 55 = .ok (.iconst 0, 1) := by decide +kernel
theorem d_Keeping_fewestWithAll_56 : decode M_Keeping_fewestWithAll.2.1 56 = .ok (.istore 4, 2) := by decide +kernel
theorem d_Keeping_fewestWithAll_58 : decode M_Keeping_fewestWithAll.2.1 58 = .ok (.iload 4, 2) := by decide +kernel
theorem d_Keeping_fewestWithAll_60 : decode M_Keeping_fewestWithAll.2.1 60 = .ok (.iload_n 2, 1) := by decide +kernel
theorem d_Keeping_fewestWithAll_61 : decode M_Keeping_fewestWithAll.2.1 61 = .ok (.if_icmp .ge 34, 3) := by decide +kernel
theorem d_Keeping_fewestWithAll_64 : decode M_Keeping_fewestWithAll.2.1 64 = .ok (.iload 4, 2) := by decide +kernel
theorem d_Keeping_fewestWithAll_66 : decode M_Keeping_fewestWithAll.2.1 66 = .ok (.invokestatic 44, 3) := by decide +kernel
theorem d_Keeping_fewestWithAll_69 : decode M_Keeping_fewestWithAll.2.1 69 = .ok (.iload_n 3, 1) := by decide +kernel
theorem d_Keeping_fewestWithAll_70 : decode M_Keeping_fewestWithAll.2.1 70 = .ok (.invokestatic 44, 3) := by decide +kernel
theorem d_Keeping_fewestWithAll_73 : decode M_Keeping_fewestWithAll.2.1 73 = .ok (.if_icmp .ge 16, 3) := by decide +kernel
theorem d_Keeping_fewestWithAll_76 : decode M_Keeping_fewestWithAll.2.1 76 = .ok (.aload_n 0, 1) := by decide +kernel
theorem d_Keeping_fewestWithAll_77 : decode M_Keeping_fewestWithAll.2.1 77 = .ok (.iload 4, 2) := by decide +kernel
theorem d_Keeping_fewestWithAll_79 : decode M_Keeping_fewestWithAll.2.1 79 = .ok (.invokevirtual 49, 3) := by decide +kernel
theorem d_Keeping_fewestWithAll_82 : decode M_Keeping_fewestWithAll.2.1 82 = .ok (.iload_n 1, 1) := by decide +kernel
theorem d_Keeping_fewestWithAll_83 : decode M_Keeping_fewestWithAll.2.1 83 = .ok (.if_icmp .ne 6, 3) := by decide +kernel
theorem d_Keeping_fewestWithAll_86 : decode M_Keeping_fewestWithAll.2.1 86 = .ok (.iload 4, 2) := by decide +kernel
theorem d_Keeping_fewestWithAll_88 : decode M_Keeping_fewestWithAll.2.1 88 = .ok (.istore_n 3, 1) := by decide +kernel
theorem d_Keeping_fewestWithAll_89 : decode M_Keeping_fewestWithAll.2.1 89 = .ok (.iinc 4 1, 3) := by decide +kernel
theorem d_Keeping_fewestWithAll_92 : decode M_Keeping_fewestWithAll.2.1 92 = .ok (.goto (-34), 3) := by decide +kernel
theorem d_Keeping_fewestWithAll_95 : decode M_Keeping_fewestWithAll.2.1 95 = .ok (.iload_n 3, 1) := by decide +kernel
theorem d_Keeping_fewestWithAll_96 : decode M_Keeping_fewestWithAll.2.1 96 = .ok (.ireturn, 1) := by decide +kernel
theorem d_Keeping_heldByOne_0 : decode M_Keeping_heldByOne.2.1 0 = .ok (.aload_n 0, 1) := by decide +kernel
theorem d_Keeping_heldByOne_1 : decode M_Keeping_heldByOne.2.1 1 = .ok (.getfield 15, 3) := by decide +kernel
theorem d_Keeping_heldByOne_4 : decode M_Keeping_heldByOne.2.1 4 = .ok (.invokevirtual 40, 3) := by decide +kernel
theorem d_Keeping_heldByOne_7 : decode M_Keeping_heldByOne.2.1 7 = .ok (.istore_n 1, 1) := by decide +kernel
theorem d_Keeping_heldByOne_8 : decode M_Keeping_heldByOne.2.1 8 = .ok (.iconst 0, 1) := by decide +kernel
theorem d_Keeping_heldByOne_9 : decode M_Keeping_heldByOne.2.1 9 = .ok (.istore_n 2, 1) := by decide +kernel
theorem d_Keeping_heldByOne_10 : decode M_Keeping_heldByOne.2.1 10 = .ok (.iconst 0, 1) := by decide +kernel
theorem d_Keeping_heldByOne_11 : decode M_Keeping_heldByOne.2.1 11 = .ok (.istore_n 3, 1) := by decide +kernel
theorem d_Keeping_heldByOne_12 : decode M_Keeping_heldByOne.2.1 12 = .ok (.iload_n 3, 1) := by decide +kernel
theorem d_Keeping_heldByOne_13 : decode M_Keeping_heldByOne.2.1 13 = .ok (.aload_n 0, 1) := by decide +kernel
theorem d_Keeping_heldByOne_14 : decode M_Keeping_heldByOne.2.1 14 = .ok (.getfield 15, 3) := by decide +kernel
theorem d_Keeping_heldByOne_17 : decode M_Keeping_heldByOne.2.1 17 = .ok (.getfield 52, 3) := by decide +kernel
theorem d_Keeping_heldByOne_20 : decode M_Keeping_heldByOne.2.1 20 = .ok (.if_icmp .ge 35, 3) := by decide +kernel
theorem d_Keeping_heldByOne_23 : decode M_Keeping_heldByOne.2.1 23 = .ok (.iload_n 1, 1) := by decide +kernel
theorem d_Keeping_heldByOne_24 : decode M_Keeping_heldByOne.2.1 24 = .ok (.iload_n 3, 1) := by decide +kernel
theorem d_Keeping_heldByOne_25 : decode M_Keeping_heldByOne.2.1 25 = .ok (.invokestatic 32, 3) := by decide +kernel
theorem d_Keeping_heldByOne_28 : decode M_Keeping_heldByOne.2.1 28 = .ok (.ifCond .eq 21, 3) := by decide +kernel
theorem d_Keeping_heldByOne_31 : decode M_Keeping_heldByOne.2.1 31 = .ok (.aload_n 0, 1) := by decide +kernel
theorem d_Keeping_heldByOne_32 : decode M_Keeping_heldByOne.2.1 32 = .ok (.getfield 15, 3) := by decide +kernel
theorem d_Keeping_heldByOne_35 : decode M_Keeping_heldByOne.2.1 35 = .ok (.iload_n 3, 1) := by decide +kernel
theorem d_Keeping_heldByOne_36 : decode M_Keeping_heldByOne.2.1 36 = .ok (.invokevirtual 55, 3) := by decide +kernel
theorem d_Keeping_heldByOne_39 : decode M_Keeping_heldByOne.2.1 39 = .ok (.invokestatic 44, 3) := by decide +kernel
theorem d_Keeping_heldByOne_42 : decode M_Keeping_heldByOne.2.1 42 = .ok (.iconst 1, 1) := by decide +kernel
theorem d_Keeping_heldByOne_43 : decode M_Keeping_heldByOne.2.1 43 = .ok (.if_icmp .ne 6, 3) := by decide +kernel
theorem d_Keeping_heldByOne_46 : decode M_Keeping_heldByOne.2.1 46 = .ok (.iinc 2 1, 3) := by decide +kernel
theorem d_Keeping_heldByOne_49 : decode M_Keeping_heldByOne.2.1 49 = .ok (.iinc 3 1, 3) := by decide +kernel
theorem d_Keeping_heldByOne_52 : decode M_Keeping_heldByOne.2.1 52 = .ok (.goto (-40), 3) := by decide +kernel
theorem d_Keeping_heldByOne_55 : decode M_Keeping_heldByOne.2.1 55 = .ok (.iload_n 2, 1) := by decide +kernel
theorem d_Keeping_heldByOne_56 : decode M_Keeping_heldByOne.2.1 56 = .ok (.ireturn, 1) := by decide +kernel
theorem d_Keeping_shavableOnes_0 : decode M_Keeping_shavableOnes.2.1 0 = .ok (.iconst 0, 1) := by decide +kernel
theorem d_Keeping_shavableOnes_1 : decode M_Keeping_shavableOnes.2.1 1 = .ok (.istore_n 1, 1) := by decide +kernel
theorem d_Keeping_shavableOnes_2 : decode M_Keeping_shavableOnes.2.1 2 = .ok (.iconst 0, 1) := by decide +kernel
theorem d_Keeping_shavableOnes_3 : decode M_Keeping_shavableOnes.2.1 3 = .ok (.istore_n 2, 1) := by decide +kernel
theorem d_Keeping_shavableOnes_4 : decode M_Keeping_shavableOnes.2.1 4 = .ok (.iload_n 2, 1) := by decide +kernel
theorem d_Keeping_shavableOnes_5 : decode M_Keeping_shavableOnes.2.1 5 = .ok (.aload_n 0, 1) := by decide +kernel
theorem d_Keeping_shavableOnes_6 : decode M_Keeping_shavableOnes.2.1 6 = .ok (.getfield 25, 3) := by decide +kernel
theorem d_Keeping_shavableOnes_9 : decode M_Keeping_shavableOnes.2.1 9 = .ok (.getfield 26, 3) := by decide +kernel
theorem d_Keeping_shavableOnes_12 : decode M_Keeping_shavableOnes.2.1 12 = .ok (.if_icmp .ge 43, 3) := by decide +kernel
theorem d_Keeping_shavableOnes_15 : decode M_Keeping_shavableOnes.2.1 15 = .ok (.aload_n 0, 1) := by decide +kernel
theorem d_Keeping_shavableOnes_16 : decode M_Keeping_shavableOnes.2.1 16 = .ok (.getfield 9, 3) := by decide +kernel
theorem d_Keeping_shavableOnes_19 : decode M_Keeping_shavableOnes.2.1 19 = .ok (.iload_n 2, 1) := by decide +kernel
theorem d_Keeping_shavableOnes_20 : decode M_Keeping_shavableOnes.2.1 20 = .ok (.aload_n 0, 1) := by decide +kernel
theorem d_Keeping_shavableOnes_21 : decode M_Keeping_shavableOnes.2.1 21 = .ok (.getfield 15, 3) := by decide +kernel
theorem d_Keeping_shavableOnes_24 : decode M_Keeping_shavableOnes.2.1 24 = .ok (.iload_n 2, 1) := by decide +kernel
theorem d_Keeping_shavableOnes_25 : decode M_Keeping_shavableOnes.2.1 25 = .ok (.iconst 0, 1) := by decide +kernel
theorem d_Keeping_shavableOnes_26 : decode M_Keeping_shavableOnes.2.1 26 = .ok (.invokevirtual 70, 3) := by decide +kernel
theorem d_Keeping_shavableOnes_29 : decode M_Keeping_shavableOnes.2.1 29 = .ok (.iastore, 1) := by decide +kernel
theorem d_Keeping_shavableOnes_30 : decode M_Keeping_shavableOnes.2.1 30 = .ok (.aload_n 0, 1) := by decide +kernel
theorem d_Keeping_shavableOnes_31 : decode M_Keeping_shavableOnes.2.1 31 = .ok (.getfield 25, 3) := by decide +kernel
theorem d_Keeping_shavableOnes_34 : decode M_Keeping_shavableOnes.2.1 34 = .ok (.getfield 73, 3) := by decide +kernel
theorem d_Keeping_shavableOnes_37 : decode M_Keeping_shavableOnes.2.1 37 = .ok (.iload_n 2, 1) := by decide +kernel
theorem d_Keeping_shavableOnes_38 : decode M_Keeping_shavableOnes.2.1 38 = .ok (.iaload, 1) := by decide +kernel
theorem d_Keeping_shavableOnes_39 : decode M_Keeping_shavableOnes.2.1 39 = .ok (.iconst 3, 1) := by decide +kernel
theorem d_Keeping_shavableOnes_40 : decode M_Keeping_shavableOnes.2.1 40 = .ok (.if_icmp .eq 9, 3) := by decide +kernel
theorem d_Keeping_shavableOnes_43 : decode M_Keeping_shavableOnes.2.1 43 = .ok (.iload_n 1, 1) := by decide +kernel
theorem d_Keeping_shavableOnes_44 : decode M_Keeping_shavableOnes.2.1 44 = .ok (.iconst 1, 1) := by decide +kernel
theorem d_Keeping_shavableOnes_45 : decode M_Keeping_shavableOnes.2.1 45 = .ok (.iload_n 2, 1) := by decide +kernel
theorem d_Keeping_shavableOnes_46 : decode M_Keeping_shavableOnes.2.1 46 = .ok (.ishl, 1) := by decide +kernel
theorem d_Keeping_shavableOnes_47 : decode M_Keeping_shavableOnes.2.1 47 = .ok (.ior, 1) := by decide +kernel
theorem d_Keeping_shavableOnes_48 : decode M_Keeping_shavableOnes.2.1 48 = .ok (.istore_n 1, 1) := by decide +kernel
theorem d_Keeping_shavableOnes_49 : decode M_Keeping_shavableOnes.2.1 49 = .ok (.iinc 2 1, 3) := by decide +kernel
theorem d_Keeping_shavableOnes_52 : decode M_Keeping_shavableOnes.2.1 52 = .ok (.goto (-48), 3) := by decide +kernel
theorem d_Keeping_shavableOnes_55 : decode M_Keeping_shavableOnes.2.1 55 = .ok (.iload_n 1, 1) := by decide +kernel
theorem d_Keeping_shavableOnes_56 : decode M_Keeping_shavableOnes.2.1 56 = .ok (.ireturn, 1) := by decide +kernel
theorem d_Keeping_worstToShave_0 : decode M_Keeping_worstToShave.2.1 0 = .ok (.aload_n 0, 1) := by decide +kernel
theorem d_Keeping_worstToShave_1 : decode M_Keeping_worstToShave.2.1 1 = .ok (.invokevirtual 58, 3) := by decide +kernel
theorem d_Keeping_worstToShave_4 : decode M_Keeping_worstToShave.2.1 4 = .ok (.istore_n 2, 1) := by decide +kernel
theorem d_Keeping_worstToShave_5 : decode M_Keeping_worstToShave.2.1 5 = .ok (.iload_n 1, 1) := by decide +kernel
theorem d_Keeping_worstToShave_6 : decode M_Keeping_worstToShave.2.1 6 = .ok (.iload_n 2, 1) := by decide +kernel
theorem d_Keeping_worstToShave_7 : decode M_Keeping_worstToShave.2.1 7 = .ok (.invokestatic 44, 3) := by decide +kernel
theorem d_Keeping_worstToShave_10 : decode M_Keeping_worstToShave.2.1 10 = .ok (.invokestatic 61, 3) := by decide +kernel
theorem d_Keeping_worstToShave_13 : decode M_Keeping_worstToShave.2.1 13 = .ok (.istore_n 3, 1) := by decide +kernel
theorem d_Keeping_worstToShave_14 : decode M_Keeping_worstToShave.2.1 14 = .ok (.iconst 0, 1) := by decide +kernel
theorem d_Keeping_worstToShave_15 : decode M_Keeping_worstToShave.2.1 15 = .ok (.istore 4, 2) := by decide +kernel
theorem d_Keeping_worstToShave_17 : decode M_Keeping_worstToShave.2.1 17 = .ok (.iconst (-1), 1) := by decide +kernel
theorem d_Keeping_worstToShave_18 : decode M_Keeping_worstToShave.2.1 18 = .ok (.istore 5, 2) := by decide +kernel
theorem d_Keeping_worstToShave_20 : decode M_Keeping_worstToShave.2.1 20 = .ok (.iconst 0, 1) := by decide +kernel
theorem d_Keeping_worstToShave_21 : decode M_Keeping_worstToShave.2.1 21 = .ok (.istore 6, 2) := by decide +kernel
theorem d_Keeping_worstToShave_23 : decode M_Keeping_worstToShave.2.1 23 = .ok (.iload 6, 2) := by decide +kernel
theorem d_Keeping_worstToShave_25 : decode M_Keeping_worstToShave.2.1 25 = .ok (.iconst 1, 1) := by decide +kernel
theorem d_Keeping_worstToShave_26 : decode M_Keeping_worstToShave.2.1 26 = .ok (.aload_n 0, 1) := by decide +kernel
theorem d_Keeping_worstToShave_27 : decode M_Keeping_worstToShave.2.1 27 = .ok (.getfield 25, 3) := by decide +kernel
theorem d_Keeping_worstToShave_30 : decode M_Keeping_worstToShave.2.1 30 = .ok (.getfield 26, 3) := by decide +kernel
theorem d_Keeping_worstToShave_33 : decode M_Keeping_worstToShave.2.1 33 = .ok (.ishl, 1) := by decide +kernel
theorem d_Keeping_worstToShave_34 : decode M_Keeping_worstToShave.2.1 34 = .ok (.if_icmp .ge 60, 3) := by decide +kernel
theorem d_Keeping_worstToShave_37 : decode M_Keeping_worstToShave.2.1 37 = .ok (.iload 6, 2) := by decide +kernel
theorem d_Keeping_worstToShave_39 : decode M_Keeping_worstToShave.2.1 39 = .ok (.iload_n 2, 1) := by decide +kernel
theorem d_Keeping_worstToShave_40 : decode M_Keeping_worstToShave.2.1 40 = .ok (.iconst (-1), 1) := by decide +kernel
theorem d_Keeping_worstToShave_41 : decode M_Keeping_worstToShave.2.1 41 = .ok (.ixor, 1) := by decide +kernel
theorem d_Keeping_worstToShave_42 : decode M_Keeping_worstToShave.2.1 42 = .ok (.iand, 1) := by decide +kernel
theorem d_Keeping_worstToShave_43 : decode M_Keeping_worstToShave.2.1 43 = .ok (.ifCond .ne 45, 3) := by decide +kernel
theorem d_Keeping_worstToShave_46 : decode M_Keeping_worstToShave.2.1 46 = .ok (.iload 6, 2) := by decide +kernel
theorem d_Keeping_worstToShave_48 : decode M_Keeping_worstToShave.2.1 48 = .ok (.invokestatic 44, 3) := by decide +kernel
theorem d_Keeping_worstToShave_51 : decode M_Keeping_worstToShave.2.1 51 = .ok (.iload_n 3, 1) := by decide +kernel
theorem d_Keeping_worstToShave_52 : decode M_Keeping_worstToShave.2.1 52 = .ok (.if_icmp .ne 36, 3) := by decide +kernel
theorem d_Keeping_worstToShave_55 : decode M_Keeping_worstToShave.2.1 55 = .ok (.aload_n 0, 1) := by decide +kernel
theorem d_Keeping_worstToShave_56 : decode M_Keeping_worstToShave.2.1 56 = .ok (.getfield 15, 3) := by decide +kernel
theorem d_Keeping_worstToShave_59 : decode M_Keeping_worstToShave.2.1 59 = .ok (.aload_n 0, 1) := by decide +kernel
theorem d_Keeping_worstToShave_60 : decode M_Keeping_worstToShave.2.1 60 = .ok (.iload 6, 2) := by decide +kernel
theorem d_Keeping_worstToShave_62 : decode M_Keeping_worstToShave.2.1 62 = .ok (.invokevirtual 49, 3) := by decide +kernel
theorem d_Keeping_worstToShave_65 : decode M_Keeping_worstToShave.2.1 65 = .ok (.invokevirtual 67, 3) := by decide +kernel
theorem d_Keeping_worstToShave_68 : decode M_Keeping_worstToShave.2.1 68 = .ok (.invokestatic 44, 3) := by decide +kernel
theorem d_Keeping_worstToShave_71 : decode M_Keeping_worstToShave.2.1 71 = .ok (.istore 7, 2) := by decide +kernel
theorem d_Keeping_worstToShave_73 : decode M_Keeping_worstToShave.2.1 73 = .ok (.iload 7, 2) := by decide +kernel
theorem d_Keeping_worstToShave_75 : decode M_Keeping_worstToShave.2.1 75 = .ok (.iload 5, 2) := by decide +kernel
theorem d_Keeping_worstToShave_77 : decode M_Keeping_worstToShave.2.1 77 = .ok (.if_icmp .le 11, 3) := by decide +kernel
theorem d_Keeping_worstToShave_80 : decode M_Keeping_worstToShave.2.1 80 = .ok (.iload 6, 2) := by decide +kernel
theorem d_Keeping_worstToShave_82 : decode M_Keeping_worstToShave.2.1 82 = .ok (.istore 4, 2) := by decide +kernel
theorem d_Keeping_worstToShave_84 : decode M_Keeping_worstToShave.2.1 84 = .ok (.iload 7, 2) := by decide +kernel
theorem d_Keeping_worstToShave_86 : decode M_Keeping_worstToShave.2.1 86 = .ok (.istore 5, 2) := by decide +kernel
theorem d_Keeping_worstToShave_88 : decode M_Keeping_worstToShave.2.1 88 = .ok (.iinc 6 1, 3) := by decide +kernel
theorem d_Keeping_worstToShave_91 : decode M_Keeping_worstToShave.2.1 91 = .ok (.goto (-68), 3) := by decide +kernel
theorem d_Keeping_worstToShave_94 : decode M_Keeping_worstToShave.2.1 94 = .ok (.iload 4, 2) := by decide +kernel
theorem d_Keeping_worstToShave_96 : decode M_Keeping_worstToShave.2.1 96 = .ok (.ireturn, 1) := by decide +kernel
theorem d_Keeping_leastLength_0 : decode M_Keeping_leastLength.2.1 0 = .ok (.aload_n 0, 1) := by decide +kernel
theorem d_Keeping_leastLength_1 : decode M_Keeping_leastLength.2.1 1 = .ok (.getfield 15, 3) := by decide +kernel
theorem d_Keeping_leastLength_4 : decode M_Keeping_leastLength.2.1 4 = .ok (.getfield 76, 3) := by decide +kernel
theorem d_Keeping_leastLength_7 : decode M_Keeping_leastLength.2.1 7 = .ok (.iload_n 1, 1) := by decide +kernel
theorem d_Keeping_leastLength_8 : decode M_Keeping_leastLength.2.1 8 = .ok (.iaload, 1) := by decide +kernel
theorem d_Keeping_leastLength_9 : decode M_Keeping_leastLength.2.1 9 = .ok (.istore_n 2, 1) := by decide +kernel
theorem d_Keeping_leastLength_10 : decode M_Keeping_leastLength.2.1 10 = .ok (.iconst 0, 1) := by decide +kernel
theorem d_Keeping_leastLength_11 : decode M_Keeping_leastLength.2.1 11 = .ok (.istore_n 3, 1) := by decide +kernel
theorem d_Keeping_leastLength_12 : decode M_Keeping_leastLength.2.1 12 = .ok (.iload_n 3, 1) := by decide +kernel
theorem d_Keeping_leastLength_13 : decode M_Keeping_leastLength.2.1 13 = .ok (.iload_n 2, 1) := by decide +kernel
theorem d_Keeping_leastLength_14 : decode M_Keeping_leastLength.2.1 14 = .ok (.if_icmp .ge 30, 3) := by decide +kernel
theorem d_Keeping_leastLength_17 : decode M_Keeping_leastLength.2.1 17 = .ok (.aload_n 0, 1) := by decide +kernel
theorem d_Keeping_leastLength_18 : decode M_Keeping_leastLength.2.1 18 = .ok (.getfield 15, 3) := by decide +kernel
theorem d_Keeping_leastLength_21 : decode M_Keeping_leastLength.2.1 21 = .ok (.aload_n 0, 1) := by decide +kernel
theorem d_Keeping_leastLength_22 : decode M_Keeping_leastLength.2.1 22 = .ok (.getfield 15, 3) := by decide +kernel
theorem d_Keeping_leastLength_25 : decode M_Keeping_leastLength.2.1 25 = .ok (.iload_n 1, 1) := by decide +kernel
theorem d_Keeping_leastLength_26 : decode M_Keeping_leastLength.2.1 26 = .ok (.iload_n 3, 1) := by decide +kernel
theorem d_Keeping_leastLength_27 : decode M_Keeping_leastLength.2.1 27 = .ok (.invokevirtual 70, 3) := by decide +kernel
theorem d_Keeping_leastLength_30 : decode M_Keeping_leastLength.2.1 30 = .ok (.invokevirtual 67, 3) := by decide +kernel
theorem d_Keeping_leastLength_33 : decode M_Keeping_leastLength.2.1 33 = .ok (.ifCond .ne 5, 3) := by decide +kernel
theorem d_Keeping_leastLength_36 : decode M_Keeping_leastLength.2.1 36 = .ok (.iload_n 3, 1) := by decide +kernel
theorem d_Keeping_leastLength_37 : decode M_Keeping_leastLength.2.1 37 = .ok (.ireturn, 1) := by decide +kernel
theorem d_Keeping_leastLength_38 : decode M_Keeping_leastLength.2.1 38 = .ok (.iinc 3 1, 3) := by decide +kernel
theorem d_Keeping_leastLength_41 : decode M_Keeping_leastLength.2.1 41 = .ok (.goto (-29), 3) := by decide +kernel
theorem d_Keeping_leastLength_44 : decode M_Keeping_leastLength.2.1 44 = .ok (.iload_n 2, 1) := by decide +kernel
theorem d_Keeping_leastLength_45 : decode M_Keeping_leastLength.2.1 45 = .ok (.ireturn, 1) := by decide +kernel
theorem d_Keeping_debtsEaten_0 : decode M_Keeping_debtsEaten.2.1 0 = .ok (.aload_n 0, 1) := by decide +kernel
theorem d_Keeping_debtsEaten_1 : decode M_Keeping_debtsEaten.2.1 1 = .ok (.getfield 15, 3) := by decide +kernel
theorem d_Keeping_debtsEaten_4 : decode M_Keeping_debtsEaten.2.1 4 = .ok (.aload_n 0, 1) := by decide +kernel
theorem d_Keeping_debtsEaten_5 : decode M_Keeping_debtsEaten.2.1 5 = .ok (.getfield 15, 3) := by decide +kernel
theorem d_Keeping_debtsEaten_8 : decode M_Keeping_debtsEaten.2.1 8 = .ok (.aload_n 0, 1) := by decide +kernel
theorem d_Keeping_debtsEaten_9 : decode M_Keeping_debtsEaten.2.1 9 = .ok (.getfield 15, 3) := by decide +kernel
theorem d_Keeping_debtsEaten_12 : decode M_Keeping_debtsEaten.2.1 12 = .ok (.iload_n 1, 1) := by decide +kernel
theorem d_Keeping_debtsEaten_13 : decode M_Keeping_debtsEaten.2.1 13 = .ok (.iload_n 2, 1) := by decide +kernel
theorem d_Keeping_debtsEaten_14 : decode M_Keeping_debtsEaten.2.1 14 = .ok (.iload_n 2, 1) := by decide +kernel
theorem d_Keeping_debtsEaten_15 : decode M_Keeping_debtsEaten.2.1 15 = .ok (.iload_n 3, 1) := by decide +kernel
theorem d_Keeping_debtsEaten_16 : decode M_Keeping_debtsEaten.2.1 16 = .ok (.iadd, 1) := by decide +kernel
theorem d_Keeping_debtsEaten_17 : decode M_Keeping_debtsEaten.2.1 17 = .ok (.invokevirtual 83, 3) := by decide +kernel
theorem d_Keeping_debtsEaten_20 : decode M_Keeping_debtsEaten.2.1 20 = .ok (.invokevirtual 67, 3) := by decide +kernel
theorem d_Keeping_debtsEaten_23 : decode M_Keeping_debtsEaten.2.1 23 = .ok (.iconst 1, 1) := by decide +kernel
theorem d_Keeping_debtsEaten_24 : decode M_Keeping_debtsEaten.2.1 24 = .ok (.invokevirtual 86, 3) := by decide +kernel
theorem d_Keeping_debtsEaten_27 : decode M_Keeping_debtsEaten.2.1 27 = .ok (.ireturn, 1) := by decide +kernel
theorem d_Keeping_bestForDebtors_0 : decode M_Keeping_bestForDebtors.2.1 0 = .ok (.iconst 0, 1) := by decide +kernel
theorem d_Keeping_bestForDebtors_1 : decode M_Keeping_bestForDebtors.2.1 1 = .ok (.istore_n 3, 1) := by decide +kernel
theorem d_Keeping_bestForDebtors_2 : decode M_Keeping_bestForDebtors.2.1 2 = .ok (.iconst (-1), 1) := by decide +kernel
theorem d_Keeping_bestForDebtors_3 : decode M_Keeping_bestForDebtors.2.1 3 = .ok (.istore 4, 2) := by decide +kernel
theorem d_Keeping_bestForDebtors_5 : decode M_Keeping_bestForDebtors.2.1 5 = .ok (.iconst 0, 1) := by decide +kernel
theorem d_Keeping_bestForDebtors_6 : decode M_Keeping_bestForDebtors.2.1 6 = .ok (.istore 5, 2) := by decide +kernel
theorem d_Keeping_bestForDebtors_8 : decode M_Keeping_bestForDebtors.2.1 8 = .ok (.iload 5, 2) := by decide +kernel
theorem d_Keeping_bestForDebtors_10 : decode M_Keeping_bestForDebtors.2.1 10 = .ok (.bipush 60, 2) := by decide +kernel
theorem d_Keeping_bestForDebtors_12 : decode M_Keeping_bestForDebtors.2.1 12 = .ok (.if_icmp .gt 33, 3) := by decide +kernel
theorem d_Keeping_bestForDebtors_15 : decode M_Keeping_bestForDebtors.2.1 15 = .ok (.aload_n 0, 1) := by decide +kernel
theorem d_Keeping_bestForDebtors_16 : decode M_Keeping_bestForDebtors.2.1 16 = .ok (.iload_n 1, 1) := by decide +kernel
theorem d_Keeping_bestForDebtors_17 : decode M_Keeping_bestForDebtors.2.1 17 = .ok (.iload 5, 2) := by decide +kernel
theorem d_Keeping_bestForDebtors_19 : decode M_Keeping_bestForDebtors.2.1 19 = .ok (.iload_n 2, 1) := by decide +kernel
theorem d_Keeping_bestForDebtors_20 : decode M_Keeping_bestForDebtors.2.1 20 = .ok (.invokevirtual 79, 3) := by decide +kernel
theorem d_Keeping_bestForDebtors_23 : decode M_Keeping_bestForDebtors.2.1 23 = .ok (.istore 6, 2) := by decide +kernel
theorem d_Keeping_bestForDebtors_25 : decode M_Keeping_bestForDebtors.2.1 25 = .ok (.iload 6, 2) := by decide +kernel
theorem d_Keeping_bestForDebtors_27 : decode M_Keeping_bestForDebtors.2.1 27 = .ok (.iload 4, 2) := by decide +kernel
theorem d_Keeping_bestForDebtors_29 : decode M_Keeping_bestForDebtors.2.1 29 = .ok (.if_icmp .le 10, 3) := by decide +kernel
theorem d_Keeping_bestForDebtors_32 : decode M_Keeping_bestForDebtors.2.1 32 = .ok (.iload 5, 2) := by decide +kernel
theorem d_Keeping_bestForDebtors_34 : decode M_Keeping_bestForDebtors.2.1 34 = .ok (.istore_n 3, 1) := by decide +kernel
theorem d_Keeping_bestForDebtors_35 : decode M_Keeping_bestForDebtors.2.1 35 = .ok (.iload 6, 2) := by decide +kernel
theorem d_Keeping_bestForDebtors_37 : decode M_Keeping_bestForDebtors.2.1 37 = .ok (.istore 4, 2) := by decide +kernel
theorem d_Keeping_bestForDebtors_39 : decode M_Keeping_bestForDebtors.2.1 39 = .ok (.iinc 5 1, 3) := by decide +kernel
theorem d_Keeping_bestForDebtors_42 : decode M_Keeping_bestForDebtors.2.1 42 = .ok (.goto (-34), 3) := by decide +kernel
theorem d_Keeping_bestForDebtors_45 : decode M_Keeping_bestForDebtors.2.1 45 = .ok (.iload_n 3, 1) := by decide +kernel
theorem d_Keeping_bestForDebtors_46 : decode M_Keeping_bestForDebtors.2.1 46 = .ok (.ireturn, 1) := by decide +kernel
theorem d_Keeping_dayOf_0 : decode M_Keeping_dayOf.2.1 0 = .ok (.aload_n 0, 1) := by decide +kernel
theorem d_Keeping_dayOf_1 : decode M_Keeping_dayOf.2.1 1 = .ok (.getfield 25, 3) := by decide +kernel
theorem d_Keeping_dayOf_4 : decode M_Keeping_dayOf.2.1 4 = .ok (.getfield 95, 3) := by decide +kernel
theorem d_Keeping_dayOf_7 : decode M_Keeping_dayOf.2.1 7 = .ok (.ifCond .le 22, 3) := by decide +kernel
theorem d_Keeping_dayOf_10 : decode M_Keeping_dayOf.2.1 10 = .ok (.aload_n 0, 1) := by decide +kernel
theorem d_Keeping_dayOf_11 : decode M_Keeping_dayOf.2.1 11 = .ok (.getfield 15, 3) := by decide +kernel
theorem d_Keeping_dayOf_14 : decode M_Keeping_dayOf.2.1 14 = .ok (.iload_n 1, 1) := by decide +kernel
theorem d_Keeping_dayOf_15 : decode M_Keeping_dayOf.2.1 15 = .ok (.invokevirtual 98, 3) := by decide +kernel
theorem d_Keeping_dayOf_18 : decode M_Keeping_dayOf.2.1 18 = .ok (.aload_n 0, 1) := by decide +kernel
theorem d_Keeping_dayOf_19 : decode M_Keeping_dayOf.2.1 19 = .ok (.getfield 25, 3) := by decide +kernel
theorem d_Keeping_dayOf_22 : decode M_Keeping_dayOf.2.1 22 = .ok (.getfield 95, 3) := by decide +kernel
theorem d_Keeping_dayOf_25 : decode M_Keeping_dayOf.2.1 25 = .ok (.idiv, 1) := by decide +kernel
theorem d_Keeping_dayOf_26 : decode M_Keeping_dayOf.2.1 26 = .ok (.goto 4, 3) := by decide +kernel
theorem d_Keeping_dayOf_29 : decode M_Keeping_dayOf.2.1 29 = .ok (.iconst 0, 1) := by decide +kernel
theorem d_Keeping_dayOf_30 : decode M_Keeping_dayOf.2.1 30 = .ok (.istore_n 2, 1) := by decide +kernel
theorem d_Keeping_dayOf_31 : decode M_Keeping_dayOf.2.1 31 = .ok (.iload_n 2, 1) := by decide +kernel
theorem d_Keeping_dayOf_32 : decode M_Keeping_dayOf.2.1 32 = .ok (.bipush 6, 2) := by decide +kernel
theorem d_Keeping_dayOf_34 : decode M_Keeping_dayOf.2.1 34 = .ok (.if_icmp .le 7, 3) := by decide +kernel
theorem d_Keeping_dayOf_37 : decode M_Keeping_dayOf.2.1 37 = .ok (.iconst (-1), 1) := by decide +kernel
theorem d_Keeping_dayOf_38 : decode M_Keeping_dayOf.2.1 38 = .ok (.goto 4, 3) := by decide +kernel
theorem d_Keeping_dayOf_41 : decode M_Keeping_dayOf.2.1 41 = .ok (.iload_n 2, 1) := by decide +kernel
theorem d_Keeping_dayOf_42 : decode M_Keeping_dayOf.2.1 42 = .ok (.ireturn, 1) := by decide +kernel
theorem d_Keeping_readOn_0 : decode M_Keeping_readOn.2.1 0 = .ok (.aload_n 0, 1) := by decide +kernel
theorem d_Keeping_readOn_1 : decode M_Keeping_readOn.2.1 1 = .ok (.getfield 15, 3) := by decide +kernel
theorem d_Keeping_readOn_4 : decode M_Keeping_readOn.2.1 4 = .ok (.iload_n 1, 1) := by decide +kernel
theorem d_Keeping_readOn_5 : decode M_Keeping_readOn.2.1 5 = .ok (.invokevirtual 89, 3) := by decide +kernel
theorem d_Keeping_readOn_8 : decode M_Keeping_readOn.2.1 8 = .ok (.istore_n 3, 1) := by decide +kernel
theorem d_Keeping_readOn_9 : decode M_Keeping_readOn.2.1 9 = .ok (.iconst 0, 1) := by decide +kernel
theorem d_Keeping_readOn_10 : decode M_Keeping_readOn.2.1 10 = .ok (.istore 4, 2) := by decide +kernel
theorem d_Keeping_readOn_12 : decode M_Keeping_readOn.2.1 12 = .ok (.iconst 0, 1) := by decide +kernel
theorem d_Keeping_readOn_13 : decode M_Keeping_readOn.2.1 13 = .ok (.istore 5, 2) := by decide +kernel
theorem d_Keeping_readOn_15 : decode M_Keeping_readOn.2.1 15 = .ok (.iload 5, 2) := by decide +kernel
theorem d_Keeping_readOn_17 : decode M_Keeping_readOn.2.1 17 = .ok (.aload_n 0, 1) := by decide +kernel
theorem d_Keeping_readOn_18 : decode M_Keeping_readOn.2.1 18 = .ok (.getfield 15, 3) := by decide +kernel
theorem d_Keeping_readOn_21 : decode M_Keeping_readOn.2.1 21 = .ok (.getfield 52, 3) := by decide +kernel
theorem d_Keeping_readOn_24 : decode M_Keeping_readOn.2.1 24 = .ok (.if_icmp .ge 31, 3) := by decide +kernel
theorem d_Keeping_readOn_27 : decode M_Keeping_readOn.2.1 27 = .ok (.iload_n 3, 1) := by decide +kernel
theorem d_Keeping_readOn_28 : decode M_Keeping_readOn.2.1 28 = .ok (.iload 5, 2) := by decide +kernel
theorem d_Keeping_readOn_30 : decode M_Keeping_readOn.2.1 30 = .ok (.invokestatic 32, 3) := by decide +kernel
theorem d_Keeping_readOn_33 : decode M_Keeping_readOn.2.1 33 = .ok (.ifCond .eq 16, 3) := by decide +kernel
theorem d_Keeping_readOn_36 : decode M_Keeping_readOn.2.1 36 = .ok (.aload_n 0, 1) := by decide +kernel
theorem d_Keeping_readOn_37 : decode M_Keeping_readOn.2.1 37 = .ok (.iload 5, 2) := by decide +kernel
theorem d_Keeping_readOn_39 : decode M_Keeping_readOn.2.1 39 = .ok (.invokevirtual 92, 3) := by decide +kernel
theorem d_Keeping_readOn_42 : decode M_Keeping_readOn.2.1 42 = .ok (.iload_n 2, 1) := by decide +kernel
theorem d_Keeping_readOn_43 : decode M_Keeping_readOn.2.1 43 = .ok (.if_icmp .ne 6, 3) := by decide +kernel
theorem d_Keeping_readOn_46 : decode M_Keeping_readOn.2.1 46 = .ok (.iinc 4 1, 3) := by decide +kernel
theorem d_Keeping_readOn_49 : decode M_Keeping_readOn.2.1 49 = .ok (.iinc 5 1, 3) := by decide +kernel
theorem d_Keeping_readOn_52 : decode M_Keeping_readOn.2.1 52 = .ok (.goto (-37), 3) := by decide +kernel
theorem d_Keeping_readOn_55 : decode M_Keeping_readOn.2.1 55 = .ok (.iload 4, 2) := by decide +kernel
theorem d_Keeping_readOn_57 : decode M_Keeping_readOn.2.1 57 = .ok (.ireturn, 1) := by decide +kernel
theorem d_Keeping_yearsLeft_0 : decode M_Keeping_yearsLeft.2.1 0 = .ok (.aload_n 0, 1) := by decide +kernel
theorem d_Keeping_yearsLeft_1 : decode M_Keeping_yearsLeft.2.1 1 = .ok (.getfield 25, 3) := by decide +kernel
theorem d_Keeping_yearsLeft_4 : decode M_Keeping_yearsLeft.2.1 4 = .ok (.iload_n 1, 1) := by decide +kernel
theorem d_Keeping_yearsLeft_5 : decode M_Keeping_yearsLeft.2.1 5 = .ok (.iconst 1, 1) := by decide +kernel
theorem d_Keeping_yearsLeft_6 : decode M_Keeping_yearsLeft.2.1 6 = .ok (.invokevirtual 101, 3) := by decide +kernel
theorem d_Keeping_yearsLeft_9 : decode M_Keeping_yearsLeft.2.1 9 = .ok (.istore_n 2, 1) := by decide +kernel
theorem d_Keeping_yearsLeft_10 : decode M_Keeping_yearsLeft.2.1 10 = .ok (.aload_n 0, 1) := by decide +kernel
theorem d_Keeping_yearsLeft_11 : decode M_Keeping_yearsLeft.2.1 11 = .ok (.getfield 15, 3) := by decide +kernel
theorem d_Keeping_yearsLeft_14 : decode M_Keeping_yearsLeft.2.1 14 = .ok (.iload_n 2, 1) := by decide +kernel
theorem d_Keeping_yearsLeft_15 : decode M_Keeping_yearsLeft.2.1 15 = .ok (.invokevirtual 104, 3) := by decide +kernel
theorem d_Keeping_yearsLeft_18 : decode M_Keeping_yearsLeft.2.1 18 = .ok (.ifCond .eq 8, 3) := by decide +kernel
theorem d_Keeping_yearsLeft_21 : decode M_Keeping_yearsLeft.2.1 21 = .ok (.bipush (-2), 2) := by decide +kernel
theorem d_Keeping_yearsLeft_23 : decode M_Keeping_yearsLeft.2.1 23 = .ok (.goto 20, 3) := by decide +kernel
theorem d_Keeping_yearsLeft_26 : decode M_Keeping_yearsLeft.2.1 26 = .ok (.aload_n 0, 1) := by decide +kernel
theorem d_Keeping_yearsLeft_27 : decode M_Keeping_yearsLeft.2.1 27 = .ok (.getfield 25, 3) := by decide +kernel
theorem d_Keeping_yearsLeft_30 : decode M_Keeping_yearsLeft.2.1 30 = .ok (.iload_n 2, 1) := by decide +kernel
theorem d_Keeping_yearsLeft_31 : decode M_Keeping_yearsLeft.2.1 31 = .ok (.invokevirtual 108, 3) := by decide +kernel
theorem d_Keeping_yearsLeft_34 : decode M_Keeping_yearsLeft.2.1 34 = .ok (.aload_n 0, 1) := by decide +kernel
theorem d_Keeping_yearsLeft_35 : decode M_Keeping_yearsLeft.2.1 35 = .ok (.getfield 15, 3) := by decide +kernel
theorem d_Keeping_yearsLeft_38 : decode M_Keeping_yearsLeft.2.1 38 = .ok (.iload_n 1, 1) := by decide +kernel
theorem d_Keeping_yearsLeft_39 : decode M_Keeping_yearsLeft.2.1 39 = .ok (.invokevirtual 98, 3) := by decide +kernel
theorem d_Keeping_yearsLeft_42 : decode M_Keeping_yearsLeft.2.1 42 = .ok (.isub, 1) := by decide +kernel
theorem d_Keeping_yearsLeft_43 : decode M_Keeping_yearsLeft.2.1 43 = .ok (.ireturn, 1) := by decide +kernel
theorem d_Keeping_lostWithin_0 : decode M_Keeping_lostWithin.2.1 0 = .ok (.iconst 0, 1) := by decide +kernel
theorem d_Keeping_lostWithin_1 : decode M_Keeping_lostWithin.2.1 1 = .ok (.istore_n 2, 1) := by decide +kernel
theorem d_Keeping_lostWithin_2 : decode M_Keeping_lostWithin.2.1 2 = .ok (.iconst 0, 1) := by decide +kernel
theorem d_Keeping_lostWithin_3 : decode M_Keeping_lostWithin.2.1 3 = .ok (.istore_n 3, 1) := by decide +kernel
theorem d_Keeping_lostWithin_4 : decode M_Keeping_lostWithin.2.1 4 = .ok (.iload_n 3, 1) := by decide +kernel
theorem d_Keeping_lostWithin_5 : decode M_Keeping_lostWithin.2.1 5 = .ok (.aload_n 0, 1) := by decide +kernel
theorem d_Keeping_lostWithin_6 : decode M_Keeping_lostWithin.2.1 6 = .ok (.getfield 15, 3) := by decide +kernel
theorem d_Keeping_lostWithin_9 : decode M_Keeping_lostWithin.2.1 9 = .ok (.getfield 52, 3) := by decide +kernel
theorem d_Keeping_lostWithin_12 : decode M_Keeping_lostWithin.2.1 12 = .ok (.if_icmp .ge 35, 3) := by decide +kernel
theorem d_Keeping_lostWithin_15 : decode M_Keeping_lostWithin.2.1 15 = .ok (.aload_n 0, 1) := by decide +kernel
theorem d_Keeping_lostWithin_16 : decode M_Keeping_lostWithin.2.1 16 = .ok (.iload_n 3, 1) := by decide +kernel
theorem d_Keeping_lostWithin_17 : decode M_Keeping_lostWithin.2.1 17 = .ok (.invokevirtual 111, 3) := by decide +kernel
theorem d_Keeping_lostWithin_20 : decode M_Keeping_lostWithin.2.1 20 = .ok (.istore 4, 2) := by decide +kernel
theorem d_Keeping_lostWithin_22 : decode M_Keeping_lostWithin.2.1 22 = .ok (.iload 4, 2) := by decide +kernel
theorem d_Keeping_lostWithin_24 : decode M_Keeping_lostWithin.2.1 24 = .ok (.bipush (-2), 2) := by decide +kernel
theorem d_Keeping_lostWithin_26 : decode M_Keeping_lostWithin.2.1 26 = .ok (.if_icmp .eq 15, 3) := by decide +kernel
theorem d_Keeping_lostWithin_29 : decode M_Keeping_lostWithin.2.1 29 = .ok (.iload 4, 2) := by decide +kernel
theorem d_Keeping_lostWithin_31 : decode M_Keeping_lostWithin.2.1 31 = .ok (.iload_n 1, 1) := by decide +kernel
theorem d_Keeping_lostWithin_32 : decode M_Keeping_lostWithin.2.1 32 = .ok (.if_icmp .ge 9, 3) := by decide +kernel
theorem d_Keeping_lostWithin_35 : decode M_Keeping_lostWithin.2.1 35 = .ok (.iload_n 2, 1) := by decide +kernel
theorem d_Keeping_lostWithin_36 : decode M_Keeping_lostWithin.2.1 36 = .ok (.iconst 1, 1) := by decide +kernel
theorem d_Keeping_lostWithin_37 : decode M_Keeping_lostWithin.2.1 37 = .ok (.iload_n 3, 1) := by decide +kernel
theorem d_Keeping_lostWithin_38 : decode M_Keeping_lostWithin.2.1 38 = .ok (.ishl, 1) := by decide +kernel
theorem d_Keeping_lostWithin_39 : decode M_Keeping_lostWithin.2.1 39 = .ok (.ior, 1) := by decide +kernel
theorem d_Keeping_lostWithin_40 : decode M_Keeping_lostWithin.2.1 40 = .ok (.istore_n 2, 1) := by decide +kernel
theorem d_Keeping_lostWithin_41 : decode M_Keeping_lostWithin.2.1 41 = .ok (.iinc 3 1, 3) := by decide +kernel
theorem d_Keeping_lostWithin_44 : decode M_Keeping_lostWithin.2.1 44 = .ok (.goto (-40), 3) := by decide +kernel
theorem d_Keeping_lostWithin_47 : decode M_Keeping_lostWithin.2.1 47 = .ok (.aload_n 0, 1) := by decide +kernel
theorem d_Keeping_lostWithin_48 : decode M_Keeping_lostWithin.2.1 48 = .ok (.getfield 15, 3) := by decide +kernel
theorem d_Keeping_lostWithin_51 : decode M_Keeping_lostWithin.2.1 51 = .ok (.iload_n 2, 1) := by decide +kernel
theorem d_Keeping_lostWithin_52 : decode M_Keeping_lostWithin.2.1 52 = .ok (.invokevirtual 67, 3) := by decide +kernel
theorem d_Keeping_lostWithin_55 : decode M_Keeping_lostWithin.2.1 55 = .ok (.invokestatic 44, 3) := by decide +kernel
theorem d_Keeping_lostWithin_58 : decode M_Keeping_lostWithin.2.1 58 = .ok (.ireturn, 1) := by decide +kernel
theorem d_Keeping_bestForBraiding_0 : decode M_Keeping_bestForBraiding.2.1 0 = .ok (.iconst (-1), 1) := by decide +kernel
theorem d_Keeping_bestForBraiding_1 : decode M_Keeping_bestForBraiding.2.1 1 = .ok (.istore_n 1, 1) := by decide +kernel
theorem d_Keeping_bestForBraiding_2 : decode M_Keeping_bestForBraiding.2.1 2 = .ok (.iconst 0, 1) := by decide +kernel
theorem d_Keeping_bestForBraiding_3 : decode M_Keeping_bestForBraiding.2.1 3 = .ok (.istore_n 2, 1) := by decide +kernel
theorem d_Keeping_bestForBraiding_4 : decode M_Keeping_bestForBraiding.2.1 4 = .ok (.iload_n 2, 1) := by decide +kernel
theorem d_Keeping_bestForBraiding_5 : decode M_Keeping_bestForBraiding.2.1 5 = .ok (.aload_n 0, 1) := by decide +kernel
theorem d_Keeping_bestForBraiding_6 : decode M_Keeping_bestForBraiding.2.1 6 = .ok (.getfield 25, 3) := by decide +kernel
theorem d_Keeping_bestForBraiding_9 : decode M_Keeping_bestForBraiding.2.1 9 = .ok (.getfield 26, 3) := by decide +kernel
theorem d_Keeping_bestForBraiding_12 : decode M_Keeping_bestForBraiding.2.1 12 = .ok (.if_icmp .ge 46, 3) := by decide +kernel
theorem d_Keeping_bestForBraiding_15 : decode M_Keeping_bestForBraiding.2.1 15 = .ok (.aload_n 0, 1) := by decide +kernel
theorem d_Keeping_bestForBraiding_16 : decode M_Keeping_bestForBraiding.2.1 16 = .ok (.getfield 15, 3) := by decide +kernel
theorem d_Keeping_bestForBraiding_19 : decode M_Keeping_bestForBraiding.2.1 19 = .ok (.iload_n 2, 1) := by decide +kernel
theorem d_Keeping_bestForBraiding_20 : decode M_Keeping_bestForBraiding.2.1 20 = .ok (.invokevirtual 104, 3) := by decide +kernel
theorem d_Keeping_bestForBraiding_23 : decode M_Keeping_bestForBraiding.2.1 23 = .ok (.ifCond .ne 29, 3) := by decide +kernel
theorem d_Keeping_bestForBraiding_26 : decode M_Keeping_bestForBraiding.2.1 26 = .ok (.iload_n 1, 1) := by decide +kernel
theorem d_Keeping_bestForBraiding_27 : decode M_Keeping_bestForBraiding.2.1 27 = .ok (.iconst (-1), 1) := by decide +kernel
theorem d_Keeping_bestForBraiding_28 : decode M_Keeping_bestForBraiding.2.1 28 = .ok (.if_icmp .eq 22, 3) := by decide +kernel
theorem d_Keeping_bestForBraiding_31 : decode M_Keeping_bestForBraiding.2.1 31 = .ok (.aload_n 0, 1) := by decide +kernel
theorem d_Keeping_bestForBraiding_32 : decode M_Keeping_bestForBraiding.2.1 32 = .ok (.getfield 25, 3) := by decide +kernel
theorem d_Keeping_bestForBraiding_35 : decode M_Keeping_bestForBraiding.2.1 35 = .ok (.iload_n 2, 1) := by decide +kernel
theorem d_Keeping_bestForBraiding_36 : decode M_Keeping_bestForBraiding.2.1 36 = .ok (.invokevirtual 108, 3) := by decide +kernel
theorem d_Keeping_bestForBraiding_39 : decode M_Keeping_bestForBraiding.2.1 39 = .ok (.aload_n 0, 1) := by decide +kernel
theorem d_Keeping_bestForBraiding_40 : decode M_Keeping_bestForBraiding.2.1 40 = .ok (.getfield 25, 3) := by decide +kernel
theorem d_Keeping_bestForBraiding_43 : decode M_Keeping_bestForBraiding.2.1 43 = .ok (.iload_n 1, 1) := by decide +kernel
theorem d_Keeping_bestForBraiding_44 : decode M_Keeping_bestForBraiding.2.1 44 = .ok (.invokevirtual 108, 3) := by decide +kernel
theorem d_Keeping_bestForBraiding_47 : decode M_Keeping_bestForBraiding.2.1 47 = .ok (.if_icmp .le 5, 3) := by decide +kernel
theorem d_Keeping_bestForBraiding_50 : decode M_Keeping_bestForBraiding.2.1 50 = .ok (.iload_n 2, 1) := by decide +kernel
theorem d_Keeping_bestForBraiding_51 : decode M_Keeping_bestForBraiding.2.1 51 = .ok (.istore_n 1, 1) := by decide +kernel
theorem d_Keeping_bestForBraiding_52 : decode M_Keeping_bestForBraiding.2.1 52 = .ok (.iinc 2 1, 3) := by decide +kernel
theorem d_Keeping_bestForBraiding_55 : decode M_Keeping_bestForBraiding.2.1 55 = .ok (.goto (-51), 3) := by decide +kernel
theorem d_Keeping_bestForBraiding_58 : decode M_Keeping_bestForBraiding.2.1 58 = .ok (.iload_n 1, 1) := by decide +kernel
theorem d_Keeping_bestForBraiding_59 : decode M_Keeping_bestForBraiding.2.1 59 = .ok (.ireturn, 1) := by decide +kernel
theorem d_Keeping_mostAlike_0 : decode M_Keeping_mostAlike.2.1 0 = .ok (.aload_n 0, 1) := by decide +kernel
theorem d_Keeping_mostAlike_1 : decode M_Keeping_mostAlike.2.1 1 = .ok (.getfield 15, 3) := by decide +kernel
theorem d_Keeping_mostAlike_4 : decode M_Keeping_mostAlike.2.1 4 = .ok (.iload_n 1, 1) := by decide +kernel
theorem d_Keeping_mostAlike_5 : decode M_Keeping_mostAlike.2.1 5 = .ok (.invokevirtual 36, 3) := by decide +kernel
theorem d_Keeping_mostAlike_8 : decode M_Keeping_mostAlike.2.1 8 = .ok (.istore_n 2, 1) := by decide +kernel
theorem d_Keeping_mostAlike_9 : decode M_Keeping_mostAlike.2.1 9 = .ok (.iconst (-1), 1) := by decide +kernel
theorem d_Keeping_mostAlike_10 : decode M_Keeping_mostAlike.2.1 10 = .ok (.istore_n 3, 1) := by decide +kernel
theorem d_Keeping_mostAlike_11 : decode M_Keeping_mostAlike.2.1 11 = .ok (.iconst (-1), 1) := by decide +kernel
theorem d_Keeping_mostAlike_12 : decode M_Keeping_mostAlike.2.1 12 = .ok (.istore 4, 2) := by decide +kernel
theorem d_Keeping_mostAlike_14 : decode M_Keeping_mostAlike.2.1 14 = .ok (.iconst 0, 1) := by decide +kernel
theorem d_Keeping_mostAlike_15 : decode M_Keeping_mostAlike.2.1 15 = .ok (.istore 5, 2) := by decide +kernel
theorem d_Keeping_mostAlike_17 : decode M_Keeping_mostAlike.2.1 17 = .ok (.iload 5, 2) := by decide +kernel
theorem d_Keeping_mostAlike_19 : decode M_Keeping_mostAlike.2.1 19 = .ok (.aload_n 0, 1) := by decide +kernel
theorem d_Keeping_mostAlike_20 : decode M_Keeping_mostAlike.2.1 20 = .ok (.getfield 25, 3) := by decide +kernel
theorem d_Keeping_mostAlike_23 : decode M_Keeping_mostAlike.2.1 23 = .ok (.getfield 26, 3) := by decide +kernel
theorem d_Keeping_mostAlike_26 : decode M_Keeping_mostAlike.2.1 26 = .ok (.if_icmp .ge 57, 3) := by decide +kernel
theorem d_Keeping_mostAlike_29 : decode M_Keeping_mostAlike.2.1 29 = .ok (.iload_n 2, 1) := by decide +kernel
theorem d_Keeping_mostAlike_30 : decode M_Keeping_mostAlike.2.1 30 = .ok (.aload_n 0, 1) := by decide +kernel
theorem d_Keeping_mostAlike_31 : decode M_Keeping_mostAlike.2.1 31 = .ok (.getfield 15, 3) := by decide +kernel
theorem d_Keeping_mostAlike_34 : decode M_Keeping_mostAlike.2.1 34 = .ok (.iload 5, 2) := by decide +kernel
theorem d_Keeping_mostAlike_36 : decode M_Keeping_mostAlike.2.1 36 = .ok (.invokevirtual 36, 3) := by decide +kernel
theorem d_Keeping_mostAlike_39 : decode M_Keeping_mostAlike.2.1 39 = .ok (.iand, 1) := by decide +kernel
theorem d_Keeping_mostAlike_40 : decode M_Keeping_mostAlike.2.1 40 = .ok (.invokestatic 44, 3) := by decide +kernel
theorem d_Keeping_mostAlike_43 : decode M_Keeping_mostAlike.2.1 43 = .ok (.istore 6, 2) := by decide +kernel
theorem d_Keeping_mostAlike_45 : decode M_Keeping_mostAlike.2.1 45 = .ok (.iload 5, 2) := by decide +kernel
theorem d_Keeping_mostAlike_47 : decode M_Keeping_mostAlike.2.1 47 = .ok (.iload_n 1, 1) := by decide +kernel
theorem d_Keeping_mostAlike_48 : decode M_Keeping_mostAlike.2.1 48 = .ok (.if_icmp .eq 29, 3) := by decide +kernel
theorem d_Keeping_mostAlike_51 : decode M_Keeping_mostAlike.2.1 51 = .ok (.aload_n 0, 1) := by decide +kernel
theorem d_Keeping_mostAlike_52 : decode M_Keeping_mostAlike.2.1 52 = .ok (.getfield 15, 3) := by decide +kernel
theorem d_Keeping_mostAlike_55 : decode M_Keeping_mostAlike.2.1 55 = .ok (.iload 5, 2) := by decide +kernel
theorem d_Keeping_mostAlike_57 : decode M_Keeping_mostAlike.2.1 57 = .ok (.invokevirtual 104, 3) := by decide +kernel
theorem d_Keeping_mostAlike_60 : decode M_Keeping_mostAlike.2.1 60 = .ok (.ifCond .ne 17, 3) := by decide +kernel
theorem d_Keeping_mostAlike_63 : decode M_Keeping_mostAlike.2.1 63 = .ok (.iload 6, 2) := by decide +kernel
theorem d_Keeping_mostAlike_65 : decode M_Keeping_mostAlike.2.1 65 = .ok (.iload 4, 2) := by decide +kernel
theorem d_Keeping_mostAlike_67 : decode M_Keeping_mostAlike.2.1 67 = .ok (.if_icmp .le 10, 3) := by decide +kernel
theorem d_Keeping_mostAlike_70 : decode M_Keeping_mostAlike.2.1 70 = .ok (.iload 5, 2) := by decide +kernel
theorem d_Keeping_mostAlike_72 : decode M_Keeping_mostAlike.2.1 72 = .ok (.istore_n 3, 1) := by decide +kernel
theorem d_Keeping_mostAlike_73 : decode M_Keeping_mostAlike.2.1 73 = .ok (.iload 6, 2) := by decide +kernel
theorem d_Keeping_mostAlike_75 : decode M_Keeping_mostAlike.2.1 75 = .ok (.istore 4, 2) := by decide +kernel
theorem d_Keeping_mostAlike_77 : decode M_Keeping_mostAlike.2.1 77 = .ok (.iinc 5 1, 3) := by decide +kernel
theorem d_Keeping_mostAlike_80 : decode M_Keeping_mostAlike.2.1 80 = .ok (.goto (-63), 3) := by decide +kernel
theorem d_Keeping_mostAlike_83 : decode M_Keeping_mostAlike.2.1 83 = .ok (.iload_n 3, 1) := by decide +kernel
theorem d_Keeping_mostAlike_84 : decode M_Keeping_mostAlike.2.1 84 = .ok (.ireturn, 1) := by decide +kernel
theorem d_Keeping_audit_0 : decode M_Keeping_audit.2.1 0 = .ok (.aload_n 0, 1) := by decide +kernel
theorem d_Keeping_audit_1 : decode M_Keeping_audit.2.1 1 = .ok (.getfield 15, 3) := by decide +kernel
theorem d_Keeping_audit_4 : decode M_Keeping_audit.2.1 4 = .ok (.iload_n 1, 1) := by decide +kernel
theorem d_Keeping_audit_5 : decode M_Keeping_audit.2.1 5 = .ok (.invokevirtual 89, 3) := by decide +kernel
theorem d_Keeping_audit_8 : decode M_Keeping_audit.2.1 8 = .ok (.istore_n 2, 1) := by decide +kernel
theorem d_Keeping_audit_9 : decode M_Keeping_audit.2.1 9 = .ok (.iconst 0, 1) := by decide +kernel
theorem d_Keeping_audit_10 : decode M_Keeping_audit.2.1 10 = .ok (.istore_n 3, 1) := by decide +kernel
theorem d_Keeping_audit_11 : decode M_Keeping_audit.2.1 11 = .ok (.iconst 0, 1) := by decide +kernel
theorem d_Keeping_audit_12 : decode M_Keeping_audit.2.1 12 = .ok (.istore 4, 2) := by decide +kernel
theorem d_Keeping_audit_14 : decode M_Keeping_audit.2.1 14 = .ok (.iload 4, 2) := by decide +kernel
theorem d_Keeping_audit_16 : decode M_Keeping_audit.2.1 16 = .ok (.aload_n 0, 1) := by decide +kernel
theorem d_Keeping_audit_17 : decode M_Keeping_audit.2.1 17 = .ok (.getfield 15, 3) := by decide +kernel
theorem d_Keeping_audit_20 : decode M_Keeping_audit.2.1 20 = .ok (.getfield 52, 3) := by decide +kernel
theorem d_Keeping_audit_23 : decode M_Keeping_audit.2.1 23 = .ok (.if_icmp .ge 43, 3) := by decide +kernel
theorem d_Keeping_audit_26 : decode M_Keeping_audit.2.1 26 = .ok (.iload_n 2, 1) := by decide +kernel
theorem d_Keeping_audit_27 : decode M_Keeping_audit.2.1 27 = .ok (.iload 4, 2) := by decide +kernel
theorem d_Keeping_audit_29 : decode M_Keeping_audit.2.1 29 = .ok (.invokestatic 32, 3) := by decide +kernel
theorem d_Keeping_audit_32 : decode M_Keeping_audit.2.1 32 = .ok (.ifCond .eq 28, 3) := by decide +kernel
theorem d_Keeping_audit_35 : decode M_Keeping_audit.2.1 35 = .ok (.iload_n 3, 1) := by decide +kernel
theorem d_Keeping_audit_36 : decode M_Keeping_audit.2.1 36 = .ok (.aload_n 0, 1) := by decide +kernel
theorem d_Keeping_audit_37 : decode M_Keeping_audit.2.1 37 = .ok (.getfield 25, 3) := by decide +kernel
theorem d_Keeping_audit_40 : decode M_Keeping_audit.2.1 40 = .ok (.iload 4, 2) := by decide +kernel
theorem d_Keeping_audit_42 : decode M_Keeping_audit.2.1 42 = .ok (.iconst 4, 1) := by decide +kernel
theorem d_Keeping_audit_43 : decode M_Keeping_audit.2.1 43 = .ok (.invokevirtual 101, 3) := by decide +kernel
theorem d_Keeping_audit_46 : decode M_Keeping_audit.2.1 46 = .ok (.aload_n 0, 1) := by decide +kernel
theorem d_Keeping_audit_47 : decode M_Keeping_audit.2.1 47 = .ok (.getfield 15, 3) := by decide +kernel
theorem d_Keeping_audit_50 : decode M_Keeping_audit.2.1 50 = .ok (.iload 4, 2) := by decide +kernel
theorem d_Keeping_audit_52 : decode M_Keeping_audit.2.1 52 = .ok (.invokevirtual 98, 3) := by decide +kernel
theorem d_Keeping_audit_55 : decode M_Keeping_audit.2.1 55 = .ok (.iconst 1, 1) := by decide +kernel
theorem d_Keeping_audit_56 : decode M_Keeping_audit.2.1 56 = .ok (.iadd, 1) := by decide +kernel
theorem d_Keeping_audit_57 : decode M_Keeping_audit.2.1 57 = .ok (.imul, 1) := by decide +kernel
theorem d_Keeping_audit_58 : decode M_Keeping_audit.2.1 58 = .ok (.iadd, 1) := by decide +kernel
theorem d_Keeping_audit_59 : decode M_Keeping_audit.2.1 59 = .ok (.istore_n 3, 1) := by decide +kernel
theorem d_Keeping_audit_60 : decode M_Keeping_audit.2.1 60 = .ok (.iinc 4 1, 3) := by decide +kernel
theorem d_Keeping_audit_63 : decode M_Keeping_audit.2.1 63 = .ok (.goto (-49), 3) := by decide +kernel
theorem d_Keeping_audit_66 : decode M_Keeping_audit.2.1 66 = .ok (.iload_n 3, 1) := by decide +kernel
theorem d_Keeping_audit_67 : decode M_Keeping_audit.2.1 67 = .ok (.bipush 97, 2) := by decide +kernel
theorem d_Keeping_audit_69 : decode M_Keeping_audit.2.1 69 = .ok (.irem, 1) := by decide +kernel
theorem d_Keeping_audit_70 : decode M_Keeping_audit.2.1 70 = .ok (.ireturn, 1) := by decide +kernel
theorem d_Laws_isThereOf_0 : decode M_Laws_isThereOf.2.1 0 = .ok (.aload_n 0, 1) := by decide +kernel
theorem d_Laws_isThereOf_1 : decode M_Laws_isThereOf.2.1 1 = .ok (.getfield 9, 3) := by decide +kernel
theorem d_Laws_isThereOf_4 : decode M_Laws_isThereOf.2.1 4 = .ok (.iload_n 1, 1) := by decide +kernel
theorem d_Laws_isThereOf_5 : decode M_Laws_isThereOf.2.1 5 = .ok (.invokevirtual 22, 3) := by decide +kernel
theorem d_Laws_isThereOf_8 : decode M_Laws_isThereOf.2.1 8 = .ok (.ifCond .eq 33, 3) := by decide +kernel
theorem d_Laws_isThereOf_11 : decode M_Laws_isThereOf.2.1 11 = .ok (.aload_n 0, 1) := by decide +kernel
theorem d_Laws_isThereOf_12 : decode M_Laws_isThereOf.2.1 12 = .ok (.getfield 21, 3) := by decide +kernel
theorem d_Laws_isThereOf_15 : decode M_Laws_isThereOf.2.1 15 = .ok (.iload_n 1, 1) := by decide +kernel
theorem d_Laws_isThereOf_16 : decode M_Laws_isThereOf.2.1 16 = .ok (.iconst 0, 1) := by decide +kernel
theorem d_Laws_isThereOf_17 : decode M_Laws_isThereOf.2.1 17 = .ok (.invokevirtual 26, 3) := by decide +kernel
theorem d_Laws_isThereOf_20 : decode M_Laws_isThereOf.2.1 20 = .ok (.iload_n 2, 1) := by decide +kernel
theorem d_Laws_isThereOf_21 : decode M_Laws_isThereOf.2.1 21 = .ok (.if_icmp .ne 20, 3) := by decide +kernel
theorem d_Laws_isThereOf_24 : decode M_Laws_isThereOf.2.1 24 = .ok (.aload_n 0, 1) := by decide +kernel
theorem d_Laws_isThereOf_25 : decode M_Laws_isThereOf.2.1 25 = .ok (.getfield 21, 3) := by decide +kernel
theorem d_Laws_isThereOf_28 : decode M_Laws_isThereOf.2.1 28 = .ok (.iload_n 1, 1) := by decide +kernel
theorem d_Laws_isThereOf_29 : decode M_Laws_isThereOf.2.1 29 = .ok (.iconst 3, 1) := by decide +kernel
theorem d_Laws_isThereOf_30 : decode M_Laws_isThereOf.2.1 30 = .ok (.invokevirtual 26, 3) := by decide +kernel
theorem d_Laws_isThereOf_33 : decode M_Laws_isThereOf.2.1 33 = .ok (.iload_n 3, 1) := by decide +kernel
theorem d_Laws_isThereOf_34 : decode M_Laws_isThereOf.2.1 34 = .ok (.if_icmp .ne 7, 3) := by decide +kernel
theorem d_Laws_isThereOf_37 : decode M_Laws_isThereOf.2.1 37 = .ok (.iconst 1, 1) := by decide +kernel
theorem d_Laws_isThereOf_38 : decode M_Laws_isThereOf.2.1 38 = .ok (.goto 4, 3) := by decide +kernel
theorem d_Laws_isThereOf_41 : decode M_Laws_isThereOf.2.1 41 = .ok (.iconst 0, 1) := by decide +kernel
theorem d_Laws_isThereOf_42 : decode M_Laws_isThereOf.2.1 42 = .ok (.ireturn, 1) := by decide +kernel
theorem d_Laws_standing_0 : decode M_Laws_standing.2.1 0 = .ok (.iconst (-1), 1) := by decide +kernel
theorem d_Laws_standing_1 : decode M_Laws_standing.2.1 1 = .ok (.istore_n 2, 1) := by decide +kernel
theorem d_Laws_standing_2 : decode M_Laws_standing.2.1 2 = .ok (.iconst (-1), 1) := by decide +kernel
theorem d_Laws_standing_3 : decode M_Laws_standing.2.1 3 = .ok (.istore_n 3, 1) := by decide +kernel
theorem d_Laws_standing_4 : decode M_Laws_standing.2.1 4 = .ok (.iconst 0, 1) := by decide +kernel
theorem d_Laws_standing_5 : decode M_Laws_standing.2.1 5 = .ok (.istore 4, 2) := by decide +kernel
theorem d_Laws_standing_7 : decode M_Laws_standing.2.1 7 = .ok (.iload 4, 2) := by decide +kernel
theorem d_Laws_standing_9 : decode M_Laws_standing.2.1 9 = .ok (.aload_n 0, 1) := by decide +kernel
theorem d_Laws_standing_10 : decode M_Laws_standing.2.1 10 = .ok (.getfield 9, 3) := by decide +kernel
theorem d_Laws_standing_13 : decode M_Laws_standing.2.1 13 = .ok (.getfield 32, 3) := by decide +kernel
theorem d_Laws_standing_16 : decode M_Laws_standing.2.1 16 = .ok (.if_icmp .ge 103, 3) := by decide +kernel
theorem d_Laws_standing_19 : decode M_Laws_standing.2.1 19 = .ok (.aload_n 0, 1) := by decide +kernel
theorem d_Laws_standing_20 : decode M_Laws_standing.2.1 20 = .ok (.iload 4, 2) := by decide +kernel
theorem d_Laws_standing_22 : decode M_Laws_standing.2.1 22 = .ok (.iconst 0, 1) := by decide +kernel
theorem d_Laws_standing_23 : decode M_Laws_standing.2.1 23 = .ok (.iload_n 1, 1) := by decide +kernel
theorem d_Laws_standing_24 : decode M_Laws_standing.2.1 24 = .ok (.invokevirtual 36, 3) := by decide +kernel
theorem d_Laws_standing_27 : decode M_Laws_standing.2.1 27 = .ok (.ifCond .eq 86, 3) := by decide +kernel
theorem d_Laws_standing_30 : decode M_Laws_standing.2.1 30 = .ok (.aload_n 0, 1) := by decide +kernel
theorem d_Laws_standing_31 : decode M_Laws_standing.2.1 31 = .ok (.getfield 21, 3) := by decide +kernel
theorem d_Laws_standing_34 : decode M_Laws_standing.2.1 34 = .ok (.iload 4, 2) := by decide +kernel
theorem d_Laws_standing_36 : decode M_Laws_standing.2.1 36 = .ok (.iconst 4, 1) := by decide +kernel
theorem d_Laws_standing_37 : decode M_Laws_standing.2.1 37 = .ok (.invokevirtual 26, 3) := by decide +kernel
theorem d_Laws_standing_40 : decode M_Laws_standing.2.1 40 = .ok (.istore 5, 2) := by decide +kernel
theorem d_Laws_standing_42 : decode M_Laws_standing.2.1 42 = .ok (.aload_n 0, 1) := by decide +kernel
theorem d_Laws_standing_43 : decode M_Laws_standing.2.1 43 = .ok (.getfield 21, 3) := by decide +kernel
theorem d_Laws_standing_46 : decode M_Laws_standing.2.1 46 = .ok (.iload 4, 2) := by decide +kernel
theorem d_Laws_standing_48 : decode M_Laws_standing.2.1 48 = .ok (.iconst 2, 1) := by decide +kernel
theorem d_Laws_standing_49 : decode M_Laws_standing.2.1 49 = .ok (.invokevirtual 26, 3) := by decide +kernel
theorem d_Laws_standing_52 : decode M_Laws_standing.2.1 52 = .ok (.istore 6, 2) := by decide +kernel
theorem d_Laws_standing_54 : decode M_Laws_standing.2.1 54 = .ok (.iload_n 2, 1) := by decide +kernel
theorem d_Laws_standing_55 : decode M_Laws_standing.2.1 55 = .ok (.iconst (-1), 1) := by decide +kernel
theorem d_Laws_standing_56 : decode M_Laws_standing.2.1 56 = .ok (.if_icmp .eq 17, 3) := by decide +kernel
theorem d_Laws_standing_59 : decode M_Laws_standing.2.1 59 = .ok (.iload 6, 2) := by decide +kernel
theorem d_Laws_standing_61 : decode M_Laws_standing.2.1 61 = .ok (.aload_n 0, 1) := by decide +kernel
theorem d_Laws_standing_62 : decode M_Laws_standing.2.1 62 = .ok (.getfield 21, 3) := by decide +kernel
theorem d_Laws_standing_65 : decode M_Laws_standing.2.1 65 = .ok (.iload_n 2, 1) := by decide +kernel
theorem d_Laws_standing_66 : decode M_Laws_standing.2.1 66 = .ok (.iconst 2, 1) := by decide +kernel
theorem d_Laws_standing_67 : decode M_Laws_standing.2.1 67 = .ok (.invokevirtual 26, 3) := by decide +kernel
theorem d_Laws_standing_70 : decode M_Laws_standing.2.1 70 = .ok (.if_icmp .le 12, 3) := by decide +kernel
theorem d_Laws_standing_73 : decode M_Laws_standing.2.1 73 = .ok (.iload 4, 2) := by decide +kernel
theorem d_Laws_standing_75 : decode M_Laws_standing.2.1 75 = .ok (.istore_n 2, 1) := by decide +kernel
theorem d_Laws_standing_76 : decode M_Laws_standing.2.1 76 = .ok (.iload 5, 2) := by decide +kernel
theorem d_Laws_standing_78 : decode M_Laws_standing.2.1 78 = .ok (.istore_n 3, 1) := by decide +kernel
theorem d_Laws_standing_79 : decode M_Laws_standing.2.1 79 = .ok (.goto 34, 3) := by decide +kernel
theorem d_Laws_standing_82 : decode M_Laws_standing.2.1 82 = .ok (.iload 6, 2) := by decide +kernel
theorem d_Laws_standing_84 : decode M_Laws_standing.2.1 84 = .ok (.aload_n 0, 1) := by decide +kernel
theorem d_Laws_standing_85 : decode M_Laws_standing.2.1 85 = .ok (.getfield 21, 3) := by decide +kernel
theorem d_Laws_standing_88 : decode M_Laws_standing.2.1 88 = .ok (.iload_n 2, 1) := by decide +kernel
theorem d_Laws_standing_89 : decode M_Laws_standing.2.1 89 = .ok (.iconst 2, 1) := by decide +kernel
theorem d_Laws_standing_90 : decode M_Laws_standing.2.1 90 = .ok (.invokevirtual 26, 3) := by decide +kernel
theorem d_Laws_standing_93 : decode M_Laws_standing.2.1 93 = .ok (.if_icmp .ne 20, 3) := by decide +kernel
theorem d_Laws_standing_96 : decode M_Laws_standing.2.1 96 = .ok (.iload 5, 2) := by decide +kernel
theorem d_Laws_standing_98 : decode M_Laws_standing.2.1 98 = .ok (.aload_n 0, 1) := by decide +kernel
theorem d_Laws_standing_99 : decode M_Laws_standing.2.1 99 = .ok (.getfield 21, 3) := by decide +kernel
theorem d_Laws_standing_102 : decode M_Laws_standing.2.1 102 = .ok (.iload_n 2, 1) := by decide +kernel
theorem d_Laws_standing_103 : decode M_Laws_standing.2.1 103 = .ok (.iconst 4, 1) := by decide +kernel
theorem d_Laws_standing_104 : decode M_Laws_standing.2.1 104 = .ok (.invokevirtual 26, 3) := by decide +kernel
theorem d_Laws_standing_107 : decode M_Laws_standing.2.1 107 = .ok (.if_icmp .eq 6, 3) := by decide +kernel
theorem d_Laws_standing_110 : decode M_Laws_standing.2.1 110 = .ok (.bipush (-2), 2) := by decide +kernel
theorem d_Laws_standing_112 : decode M_Laws_standing.2.1 112 = .ok (.istore_n 3, 1) := by decide +kernel
theorem d_Laws_standing_113 : decode M_Laws_standing.2.1 113 = .ok (.iinc 4 1, 3) := by decide +kernel
theorem d_Laws_standing_116 : decode M_Laws_standing.2.1 116 = .ok (.goto (-109), 3) := by decide +kernel
theorem d_Laws_standing_119 : decode M_Laws_standing.2.1 119 = .ok (.iload_n 3, 1) := by decide +kernel
theorem d_Laws_standing_120 : decode M_Laws_standing.2.1 120 = .ok (.ireturn, 1) := by decide +kernel
theorem d_Laws_differ_0 : decode M_Laws_differ.2.1 0 = .ok (.aload_n 0, 1) := by decide +kernel
theorem d_Laws_differ_1 : decode M_Laws_differ.2.1 1 = .ok (.getfield 21, 3) := by decide +kernel
theorem d_Laws_differ_4 : decode M_Laws_differ.2.1 4 = .ok (.iload_n 1, 1) := by decide +kernel
theorem d_Laws_differ_5 : decode M_Laws_differ.2.1 5 = .ok (.iconst 0, 1) := by decide +kernel
theorem d_Laws_differ_6 : decode M_Laws_differ.2.1 6 = .ok (.invokevirtual 26, 3) := by decide +kernel
theorem d_Laws_differ_9 : decode M_Laws_differ.2.1 9 = .ok (.ifCond .ne 82, 3) := by decide +kernel
theorem d_Laws_differ_12 : decode M_Laws_differ.2.1 12 = .ok (.aload_n 0, 1) := by decide +kernel
theorem d_Laws_differ_13 : decode M_Laws_differ.2.1 13 = .ok (.getfield 21, 3) := by decide +kernel
theorem d_Laws_differ_16 : decode M_Laws_differ.2.1 16 = .ok (.iload_n 2, 1) := by decide +kernel
theorem d_Laws_differ_17 : decode M_Laws_differ.2.1 17 = .ok (.iconst 0, 1) := by decide +kernel
theorem d_Laws_differ_18 : decode M_Laws_differ.2.1 18 = .ok (.invokevirtual 26, 3) := by decide +kernel
theorem d_Laws_differ_21 : decode M_Laws_differ.2.1 21 = .ok (.ifCond .ne 70, 3) := by decide +kernel
theorem d_Laws_differ_24 : decode M_Laws_differ.2.1 24 = .ok (.aload_n 0, 1) := by decide +kernel
theorem d_Laws_differ_25 : decode M_Laws_differ.2.1 25 = .ok (.getfield 21, 3) := by decide +kernel
theorem d_Laws_differ_28 : decode M_Laws_differ.2.1 28 = .ok (.iload_n 1, 1) := by decide +kernel
theorem d_Laws_differ_29 : decode M_Laws_differ.2.1 29 = .ok (.iconst 3, 1) := by decide +kernel
theorem d_Laws_differ_30 : decode M_Laws_differ.2.1 30 = .ok (.invokevirtual 26, 3) := by decide +kernel
theorem d_Laws_differ_33 : decode M_Laws_differ.2.1 33 = .ok (.aload_n 0, 1) := by decide +kernel
theorem d_Laws_differ_34 : decode M_Laws_differ.2.1 34 = .ok (.getfield 21, 3) := by decide +kernel
theorem d_Laws_differ_37 : decode M_Laws_differ.2.1 37 = .ok (.iload_n 2, 1) := by decide +kernel
theorem d_Laws_differ_38 : decode M_Laws_differ.2.1 38 = .ok (.iconst 3, 1) := by decide +kernel
theorem d_Laws_differ_39 : decode M_Laws_differ.2.1 39 = .ok (.invokevirtual 26, 3) := by decide +kernel
theorem d_Laws_differ_42 : decode M_Laws_differ.2.1 42 = .ok (.if_icmp .ne 49, 3) := by decide +kernel
theorem d_Laws_differ_45 : decode M_Laws_differ.2.1 45 = .ok (.aload_n 0, 1) := by decide +kernel
theorem d_Laws_differ_46 : decode M_Laws_differ.2.1 46 = .ok (.getfield 21, 3) := by decide +kernel
theorem d_Laws_differ_49 : decode M_Laws_differ.2.1 49 = .ok (.iload_n 1, 1) := by decide +kernel
theorem d_Laws_differ_50 : decode M_Laws_differ.2.1 50 = .ok (.iconst 2, 1) := by decide +kernel
theorem d_Laws_differ_51 : decode M_Laws_differ.2.1 51 = .ok (.invokevirtual 26, 3) := by decide +kernel
theorem d_Laws_differ_54 : decode M_Laws_differ.2.1 54 = .ok (.aload_n 0, 1) := by decide +kernel
theorem d_Laws_differ_55 : decode M_Laws_differ.2.1 55 = .ok (.getfield 21, 3) := by decide +kernel
theorem d_Laws_differ_58 : decode M_Laws_differ.2.1 58 = .ok (.iload_n 2, 1) := by decide +kernel
theorem d_Laws_differ_59 : decode M_Laws_differ.2.1 59 = .ok (.iconst 2, 1) := by decide +kernel
theorem d_Laws_differ_60 : decode M_Laws_differ.2.1 60 = .ok (.invokevirtual 26, 3) := by decide +kernel
theorem d_Laws_differ_63 : decode M_Laws_differ.2.1 63 = .ok (.if_icmp .ne 28, 3) := by decide +kernel
theorem d_Laws_differ_66 : decode M_Laws_differ.2.1 66 = .ok (.aload_n 0, 1) := by decide +kernel
theorem d_Laws_differ_67 : decode M_Laws_differ.2.1 67 = .ok (.getfield 21, 3) := by decide +kernel
theorem d_Laws_differ_70 : decode M_Laws_differ.2.1 70 = .ok (.iload_n 1, 1) := by decide +kernel
theorem d_Laws_differ_71 : decode M_Laws_differ.2.1 71 = .ok (.iconst 4, 1) := by decide +kernel
theorem d_Laws_differ_72 : decode M_Laws_differ.2.1 72 = .ok (.invokevirtual 26, 3) := by decide +kernel
theorem d_Laws_differ_75 : decode M_Laws_differ.2.1 75 = .ok (.aload_n 0, 1) := by decide +kernel
theorem d_Laws_differ_76 : decode M_Laws_differ.2.1 76 = .ok (.getfield 21, 3) := by decide +kernel
theorem d_Laws_differ_79 : decode M_Laws_differ.2.1 79 = .ok (.iload_n 2, 1) := by decide +kernel
theorem d_Laws_differ_80 : decode M_Laws_differ.2.1 80 = .ok (.iconst 4, 1) := by decide +kernel
theorem d_Laws_differ_81 : decode M_Laws_differ.2.1 81 = .ok (.invokevirtual 26, 3) := by decide +kernel
theorem d_Laws_differ_84 : decode M_Laws_differ.2.1 84 = .ok (.if_icmp .eq 7, 3) := by decide +kernel
theorem d_Laws_differ_87 : decode M_Laws_differ.2.1 87 = .ok (.iconst 1, 1) := by decide +kernel
theorem d_Laws_differ_88 : decode M_Laws_differ.2.1 88 = .ok (.goto 4, 3) := by decide +kernel
theorem d_Laws_differ_91 : decode M_Laws_differ.2.1 91 = .ok (.iconst 0, 1) := by decide +kernel
theorem d_Laws_differ_92 : decode M_Laws_differ.2.1 92 = .ok (.ireturn, 1) := by decide +kernel
theorem d_Laws_areRivals_0 : decode M_Laws_areRivals.2.1 0 = .ok (.aload_n 0, 1) := by decide +kernel
theorem d_Laws_areRivals_1 : decode M_Laws_areRivals.2.1 1 = .ok (.getfield 9, 3) := by decide +kernel
theorem d_Laws_areRivals_4 : decode M_Laws_areRivals.2.1 4 = .ok (.iload_n 1, 1) := by decide +kernel
theorem d_Laws_areRivals_5 : decode M_Laws_areRivals.2.1 5 = .ok (.invokevirtual 47, 3) := by decide +kernel
theorem d_Laws_areRivals_8 : decode M_Laws_areRivals.2.1 8 = .ok (.istore_n 3, 1) := by decide +kernel
theorem d_Laws_areRivals_9 : decode M_Laws_areRivals.2.1 9 = .ok (.aload_n 0, 1) := by decide +kernel
theorem d_Laws_areRivals_10 : decode M_Laws_areRivals.2.1 10 = .ok (.getfield 9, 3) := by decide +kernel
theorem d_Laws_areRivals_13 : decode M_Laws_areRivals.2.1 13 = .ok (.iload_n 2, 1) := by decide +kernel
theorem d_Laws_areRivals_14 : decode M_Laws_areRivals.2.1 14 = .ok (.invokevirtual 47, 3) := by decide +kernel
theorem d_Laws_areRivals_17 : decode M_Laws_areRivals.2.1 17 = .ok (.istore 4, 2) := by decide +kernel
theorem d_Laws_areRivals_19 : decode M_Laws_areRivals.2.1 19 = .ok (.iconst 0, 1) := by decide +kernel
theorem d_Laws_areRivals_20 : decode M_Laws_areRivals.2.1 20 = .ok (.istore 5, 2) := by decide +kernel
theorem d_Laws_areRivals_22 : decode M_Laws_areRivals.2.1 22 = .ok (.iload 5, 2) := by decide +kernel
theorem d_Laws_areRivals_24 : decode M_Laws_areRivals.2.1 24 = .ok (.aload_n 0, 1) := by decide +kernel
theorem d_Laws_areRivals_25 : decode M_Laws_areRivals.2.1 25 = .ok (.getfield 9, 3) := by decide +kernel
theorem d_Laws_areRivals_28 : decode M_Laws_areRivals.2.1 28 = .ok (.getfield 32, 3) := by decide +kernel
theorem d_Laws_areRivals_31 : decode M_Laws_areRivals.2.1 31 = .ok (.if_icmp .ge 62, 3) := by decide +kernel
theorem d_Laws_areRivals_34 : decode M_Laws_areRivals.2.1 34 = .ok (.iconst 0, 1) := by decide +kernel
theorem d_Laws_areRivals_35 : decode M_Laws_areRivals.2.1 35 = .ok (.istore 6, 2) := by decide +kernel
theorem d_Laws_areRivals_37 : decode M_Laws_areRivals.2.1 37 = .ok (.iload 6, 2) := by decide +kernel
theorem d_Laws_areRivals_39 : decode M_Laws_areRivals.2.1 39 = .ok (.aload_n 0, 1) := by decide +kernel
theorem d_Laws_areRivals_40 : decode M_Laws_areRivals.2.1 40 = .ok (.getfield 9, 3) := by decide +kernel
theorem d_Laws_areRivals_43 : decode M_Laws_areRivals.2.1 43 = .ok (.getfield 32, 3) := by decide +kernel
theorem d_Laws_areRivals_46 : decode M_Laws_areRivals.2.1 46 = .ok (.if_icmp .ge 41, 3) := by decide +kernel
theorem d_Laws_areRivals_49 : decode M_Laws_areRivals.2.1 49 = .ok (.iload_n 3, 1) := by decide +kernel
theorem d_Laws_areRivals_50 : decode M_Laws_areRivals.2.1 50 = .ok (.iload 5, 2) := by decide +kernel
theorem d_Laws_areRivals_52 : decode M_Laws_areRivals.2.1 52 = .ok (.invokestatic 51, 3) := by decide +kernel
theorem d_Laws_areRivals_55 : decode M_Laws_areRivals.2.1 55 = .ok (.ifCond .eq 26, 3) := by decide +kernel
theorem d_Laws_areRivals_58 : decode M_Laws_areRivals.2.1 58 = .ok (.iload 4, 2) := by decide +kernel
theorem d_Laws_areRivals_60 : decode M_Laws_areRivals.2.1 60 = .ok (.iload 6, 2) := by decide +kernel
theorem d_Laws_areRivals_62 : decode M_Laws_areRivals.2.1 62 = .ok (.invokestatic 51, 3) := by decide +kernel
theorem d_Laws_areRivals_65 : decode M_Laws_areRivals.2.1 65 = .ok (.ifCond .eq 16, 3) := by decide +kernel
theorem d_Laws_areRivals_68 : decode M_Laws_areRivals.2.1 68 = .ok (.aload_n 0, 1) := by decide +kernel
theorem d_Laws_areRivals_69 : decode M_Laws_areRivals.2.1 69 = .ok (.iload 5, 2) := by decide +kernel
theorem d_Laws_areRivals_71 : decode M_Laws_areRivals.2.1 71 = .ok (.iload 6, 2) := by decide +kernel
theorem d_Laws_areRivals_73 : decode M_Laws_areRivals.2.1 73 = .ok (.invokevirtual 54, 3) := by decide +kernel
theorem d_Laws_areRivals_76 : decode M_Laws_areRivals.2.1 76 = .ok (.ifCond .eq 5, 3) := by decide +kernel
theorem d_Laws_areRivals_79 : decode M_Laws_areRivals.2.1 79 = .ok (.iconst 1, 1) := by decide +kernel
theorem d_Laws_areRivals_80 : decode M_Laws_areRivals.2.1 80 = .ok (.ireturn, 1) := by decide +kernel
theorem d_Laws_areRivals_81 : decode M_Laws_areRivals.2.1 81 = .ok (.iinc 6 1, 3) := by decide +kernel
theorem d_Laws_areRivals_84 : decode M_Laws_areRivals.2.1 84 = .ok (.goto (-47), 3) := by decide +kernel
theorem d_Laws_areRivals_87 : decode M_Laws_areRivals.2.1 87 = .ok (.iinc 5 1, 3) := by decide +kernel
theorem d_Laws_areRivals_90 : decode M_Laws_areRivals.2.1 90 = .ok (.goto (-68), 3) := by decide +kernel
theorem d_Laws_areRivals_93 : decode M_Laws_areRivals.2.1 93 = .ok (.iconst 0, 1) := by decide +kernel
theorem d_Laws_areRivals_94 : decode M_Laws_areRivals.2.1 94 = .ok (.ireturn, 1) := by decide +kernel
theorem d_Laws_rivalCouples_0 : decode M_Laws_rivalCouples.2.1 0 = .ok (.iconst 0, 1) := by decide +kernel
theorem d_Laws_rivalCouples_1 : decode M_Laws_rivalCouples.2.1 1 = .ok (.istore_n 1, 1) := by decide +kernel
theorem d_Laws_rivalCouples_2 : decode M_Laws_rivalCouples.2.1 2 = .ok (.iconst 0, 1) := by decide +kernel
theorem d_Laws_rivalCouples_3 : decode M_Laws_rivalCouples.2.1 3 = .ok (.istore_n 2, 1) := by decide +kernel
theorem d_Laws_rivalCouples_4 : decode M_Laws_rivalCouples.2.1 4 = .ok (.iload_n 2, 1) := by decide +kernel
theorem d_Laws_rivalCouples_5 : decode M_Laws_rivalCouples.2.1 5 = .ok (.aload_n 0, 1) := by decide +kernel
theorem d_Laws_rivalCouples_6 : decode M_Laws_rivalCouples.2.1 6 = .ok (.getfield 21, 3) := by decide +kernel
theorem d_Laws_rivalCouples_9 : decode M_Laws_rivalCouples.2.1 9 = .ok (.getfield 40, 3) := by decide +kernel
theorem d_Laws_rivalCouples_12 : decode M_Laws_rivalCouples.2.1 12 = .ok (.if_icmp .ge 42, 3) := by decide +kernel
theorem d_Laws_rivalCouples_15 : decode M_Laws_rivalCouples.2.1 15 = .ok (.iload_n 2, 1) := by decide +kernel
theorem d_Laws_rivalCouples_16 : decode M_Laws_rivalCouples.2.1 16 = .ok (.iconst 1, 1) := by decide +kernel
theorem d_Laws_rivalCouples_17 : decode M_Laws_rivalCouples.2.1 17 = .ok (.iadd, 1) := by decide +kernel
theorem d_Laws_rivalCouples_18 : decode M_Laws_rivalCouples.2.1 18 = .ok (.istore_n 3, 1) := by decide +kernel
theorem d_Laws_rivalCouples_19 : decode M_Laws_rivalCouples.2.1 19 = .ok (.iload_n 3, 1) := by decide +kernel
theorem d_Laws_rivalCouples_20 : decode M_Laws_rivalCouples.2.1 20 = .ok (.aload_n 0, 1) := by decide +kernel
theorem d_Laws_rivalCouples_21 : decode M_Laws_rivalCouples.2.1 21 = .ok (.getfield 21, 3) := by decide +kernel
theorem d_Laws_rivalCouples_24 : decode M_Laws_rivalCouples.2.1 24 = .ok (.getfield 40, 3) := by decide +kernel
theorem d_Laws_rivalCouples_27 : decode M_Laws_rivalCouples.2.1 27 = .ok (.if_icmp .ge 21, 3) := by decide +kernel
theorem d_Laws_rivalCouples_30 : decode M_Laws_rivalCouples.2.1 30 = .ok (.aload_n 0, 1) := by decide +kernel
theorem d_Laws_rivalCouples_31 : decode M_Laws_rivalCouples.2.1 31 = .ok (.iload_n 2, 1) := by decide +kernel
theorem d_Laws_rivalCouples_32 : decode M_Laws_rivalCouples.2.1 32 = .ok (.iload_n 3, 1) := by decide +kernel
theorem d_Laws_rivalCouples_33 : decode M_Laws_rivalCouples.2.1 33 = .ok (.invokevirtual 43, 3) := by decide +kernel
theorem d_Laws_rivalCouples_36 : decode M_Laws_rivalCouples.2.1 36 = .ok (.ifCond .eq 6, 3) := by decide +kernel
theorem d_Laws_rivalCouples_39 : decode M_Laws_rivalCouples.2.1 39 = .ok (.iinc 1 1, 3) := by decide +kernel
theorem d_Laws_rivalCouples_42 : decode M_Laws_rivalCouples.2.1 42 = .ok (.iinc 3 1, 3) := by decide +kernel
theorem d_Laws_rivalCouples_45 : decode M_Laws_rivalCouples.2.1 45 = .ok (.goto (-26), 3) := by decide +kernel
theorem d_Laws_rivalCouples_48 : decode M_Laws_rivalCouples.2.1 48 = .ok (.iinc 2 1, 3) := by decide +kernel
theorem d_Laws_rivalCouples_51 : decode M_Laws_rivalCouples.2.1 51 = .ok (.goto (-47), 3) := by decide +kernel
theorem d_Laws_rivalCouples_54 : decode M_Laws_rivalCouples.2.1 54 = .ok (.iload_n 1, 1) := by decide +kernel
theorem d_Laws_rivalCouples_55 : decode M_Laws_rivalCouples.2.1 55 = .ok (.ireturn, 1) := by decide +kernel
theorem d_Laws_owing_0 : decode M_Laws_owing.2.1 0 = .ok (.aload_n 0, 1) := by decide +kernel
theorem d_Laws_owing_1 : decode M_Laws_owing.2.1 1 = .ok (.getfield 21, 3) := by decide +kernel
theorem d_Laws_owing_4 : decode M_Laws_owing.2.1 4 = .ok (.iload_n 1, 1) := by decide +kernel
theorem d_Laws_owing_5 : decode M_Laws_owing.2.1 5 = .ok (.iconst 0, 1) := by decide +kernel
theorem d_Laws_owing_6 : decode M_Laws_owing.2.1 6 = .ok (.invokevirtual 26, 3) := by decide +kernel
theorem d_Laws_owing_9 : decode M_Laws_owing.2.1 9 = .ok (.lookupswitch 48 #[(1, 27), (2, 37)], 27) := by decide +kernel
theorem d_Laws_owing_36 : decode M_Laws_owing.2.1 36 = .ok (.aload_n 0, 1) := by decide +kernel
theorem d_Laws_owing_37 : decode M_Laws_owing.2.1 37 = .ok (.getfield 21, 3) := by decide +kernel
theorem d_Laws_owing_40 : decode M_Laws_owing.2.1 40 = .ok (.iload_n 1, 1) := by decide +kernel
theorem d_Laws_owing_41 : decode M_Laws_owing.2.1 41 = .ok (.iconst 4, 1) := by decide +kernel
theorem d_Laws_owing_42 : decode M_Laws_owing.2.1 42 = .ok (.invokevirtual 26, 3) := by decide +kernel
theorem d_Laws_owing_45 : decode M_Laws_owing.2.1 45 = .ok (.ireturn, 1) := by decide +kernel
theorem d_Laws_owing_46 : decode M_Laws_owing.2.1 46 = .ok (.aload_n 0, 1) := by decide +kernel
theorem d_Laws_owing_47 : decode M_Laws_owing.2.1 47 = .ok (.getfield 21, 3) := by decide +kernel
theorem d_Laws_owing_50 : decode M_Laws_owing.2.1 50 = .ok (.iload_n 1, 1) := by decide +kernel
theorem d_Laws_owing_51 : decode M_Laws_owing.2.1 51 = .ok (.iconst 4, 1) := by decide +kernel
theorem d_Laws_owing_52 : decode M_Laws_owing.2.1 52 = .ok (.invokevirtual 26, 3) := by decide +kernel
theorem d_Laws_owing_55 : decode M_Laws_owing.2.1 55 = .ok (.ineg, 1) := by decide +kernel
theorem d_Laws_owing_56 : decode M_Laws_owing.2.1 56 = .ok (.ireturn, 1) := by decide +kernel
theorem d_Laws_owing_57 : decode M_Laws_owing.2.1 57 = .ok (.iconst 0, 1) := by decide +kernel
theorem d_Laws_owing_58 : decode M_Laws_owing.2.1 58 = .ok (.ireturn, 1) := by decide +kernel
theorem d_Laws_balance_0 : decode M_Laws_balance.2.1 0 = .ok (.aload_n 0, 1) := by decide +kernel
theorem d_Laws_balance_1 : decode M_Laws_balance.2.1 1 = .ok (.getfield 9, 3) := by decide +kernel
theorem d_Laws_balance_4 : decode M_Laws_balance.2.1 4 = .ok (.invokevirtual 57, 3) := by decide +kernel
theorem d_Laws_balance_7 : decode M_Laws_balance.2.1 7 = .ok (.istore_n 2, 1) := by decide +kernel
theorem d_Laws_balance_8 : decode M_Laws_balance.2.1 8 = .ok (.iconst 0, 1) := by decide +kernel
theorem d_Laws_balance_9 : decode M_Laws_balance.2.1 9 = .ok (.istore_n 3, 1) := by decide +kernel
theorem d_Laws_balance_10 : decode M_Laws_balance.2.1 10 = .ok (.iconst 0, 1) := by decide +kernel
theorem d_Laws_balance_11 : decode M_Laws_balance.2.1 11 = .ok (.istore 4, 2) := by decide +kernel
theorem d_Laws_balance_13 : decode M_Laws_balance.2.1 13 = .ok (.iload 4, 2) := by decide +kernel
theorem d_Laws_balance_15 : decode M_Laws_balance.2.1 15 = .ok (.aload_n 0, 1) := by decide +kernel
theorem d_Laws_balance_16 : decode M_Laws_balance.2.1 16 = .ok (.getfield 9, 3) := by decide +kernel
theorem d_Laws_balance_19 : decode M_Laws_balance.2.1 19 = .ok (.getfield 32, 3) := by decide +kernel
theorem d_Laws_balance_22 : decode M_Laws_balance.2.1 22 = .ok (.if_icmp .ge 46, 3) := by decide +kernel
theorem d_Laws_balance_25 : decode M_Laws_balance.2.1 25 = .ok (.iload_n 2, 1) := by decide +kernel
theorem d_Laws_balance_26 : decode M_Laws_balance.2.1 26 = .ok (.iload 4, 2) := by decide +kernel
theorem d_Laws_balance_28 : decode M_Laws_balance.2.1 28 = .ok (.invokestatic 51, 3) := by decide +kernel
theorem d_Laws_balance_31 : decode M_Laws_balance.2.1 31 = .ok (.ifCond .eq 31, 3) := by decide +kernel
theorem d_Laws_balance_34 : decode M_Laws_balance.2.1 34 = .ok (.iload_n 1, 1) := by decide +kernel
theorem d_Laws_balance_35 : decode M_Laws_balance.2.1 35 = .ok (.iconst (-1), 1) := by decide +kernel
theorem d_Laws_balance_36 : decode M_Laws_balance.2.1 36 = .ok (.if_icmp .eq 17, 3) := by decide +kernel
theorem d_Laws_balance_39 : decode M_Laws_balance.2.1 39 = .ok (.aload_n 0, 1) := by decide +kernel
theorem d_Laws_balance_40 : decode M_Laws_balance.2.1 40 = .ok (.getfield 21, 3) := by decide +kernel
theorem d_Laws_balance_43 : decode M_Laws_balance.2.1 43 = .ok (.iload 4, 2) := by decide +kernel
theorem d_Laws_balance_45 : decode M_Laws_balance.2.1 45 = .ok (.iconst 3, 1) := by decide +kernel
theorem d_Laws_balance_46 : decode M_Laws_balance.2.1 46 = .ok (.invokevirtual 26, 3) := by decide +kernel
theorem d_Laws_balance_49 : decode M_Laws_balance.2.1 49 = .ok (.iload_n 1, 1) := by decide +kernel
theorem d_Laws_balance_50 : decode M_Laws_balance.2.1 50 = .ok (.if_icmp .ne 12, 3) := by decide +kernel
theorem d_Laws_balance_53 : decode M_Laws_balance.2.1 53 = .ok (.iload_n 3, 1) := by decide +kernel
theorem d_Laws_balance_54 : decode M_Laws_balance.2.1 54 = .ok (.aload_n 0, 1) := by decide +kernel
theorem d_Laws_balance_55 : decode M_Laws_balance.2.1 55 = .ok (.iload 4, 2) := by decide +kernel
theorem d_Laws_balance_57 : decode M_Laws_balance.2.1 57 = .ok (.invokevirtual 61, 3) := by decide +kernel
theorem d_Laws_balance_60 : decode M_Laws_balance.2.1 60 = .ok (.iadd, 1) := by decide +kernel
theorem d_Laws_balance_61 : decode M_Laws_balance.2.1 61 = .ok (.istore_n 3, 1) := by decide +kernel
theorem d_Laws_balance_62 : decode M_Laws_balance.2.1 62 = .ok (.iinc 4 1, 3) := by decide +kernel
theorem d_Laws_balance_65 : decode M_Laws_balance.2.1 65 = .ok (.goto (-52), 3) := by decide +kernel
theorem d_Laws_balance_68 : decode M_Laws_balance.2.1 68 = .ok (.iload_n 3, 1) := by decide +kernel
theorem d_Laws_balance_69 : decode M_Laws_balance.2.1 69 = .ok (.ireturn, 1) := by decide +kernel
theorem d_Laws_earliest_0 : decode M_Laws_earliest.2.1 0 = .ok (.iconst (-1), 1) := by decide +kernel
theorem d_Laws_earliest_1 : decode M_Laws_earliest.2.1 1 = .ok (.istore_n 3, 1) := by decide +kernel
theorem d_Laws_earliest_2 : decode M_Laws_earliest.2.1 2 = .ok (.iconst 0, 1) := by decide +kernel
theorem d_Laws_earliest_3 : decode M_Laws_earliest.2.1 3 = .ok (.istore 4, 2) := by decide +kernel
theorem d_Laws_earliest_5 : decode M_Laws_earliest.2.1 5 = .ok (.iload 4, 2) := by decide +kernel
theorem d_Laws_earliest_7 : decode M_Laws_earliest.2.1 7 = .ok (.aload_n 0, 1) := by decide +kernel
theorem d_Laws_earliest_8 : decode M_Laws_earliest.2.1 8 = .ok (.getfield 9, 3) := by decide +kernel
theorem d_Laws_earliest_11 : decode M_Laws_earliest.2.1 11 = .ok (.getfield 32, 3) := by decide +kernel
theorem d_Laws_earliest_14 : decode M_Laws_earliest.2.1 14 = .ok (.if_icmp .ge 50, 3) := by decide +kernel
theorem d_Laws_earliest_17 : decode M_Laws_earliest.2.1 17 = .ok (.aload_n 0, 1) := by decide +kernel
theorem d_Laws_earliest_18 : decode M_Laws_earliest.2.1 18 = .ok (.iload 4, 2) := by decide +kernel
theorem d_Laws_earliest_20 : decode M_Laws_earliest.2.1 20 = .ok (.iload_n 1, 1) := by decide +kernel
theorem d_Laws_earliest_21 : decode M_Laws_earliest.2.1 21 = .ok (.iload_n 2, 1) := by decide +kernel
theorem d_Laws_earliest_22 : decode M_Laws_earliest.2.1 22 = .ok (.invokevirtual 36, 3) := by decide +kernel
theorem d_Laws_earliest_25 : decode M_Laws_earliest.2.1 25 = .ok (.ifCond .eq 33, 3) := by decide +kernel
theorem d_Laws_earliest_28 : decode M_Laws_earliest.2.1 28 = .ok (.iload_n 3, 1) := by decide +kernel
theorem d_Laws_earliest_29 : decode M_Laws_earliest.2.1 29 = .ok (.iconst (-1), 1) := by decide +kernel
theorem d_Laws_earliest_30 : decode M_Laws_earliest.2.1 30 = .ok (.if_icmp .eq 25, 3) := by decide +kernel
theorem d_Laws_earliest_33 : decode M_Laws_earliest.2.1 33 = .ok (.aload_n 0, 1) := by decide +kernel
theorem d_Laws_earliest_34 : decode M_Laws_earliest.2.1 34 = .ok (.getfield 21, 3) := by decide +kernel
theorem d_Laws_earliest_37 : decode M_Laws_earliest.2.1 37 = .ok (.iload 4, 2) := by decide +kernel
theorem d_Laws_earliest_39 : decode M_Laws_earliest.2.1 39 = .ok (.iconst 2, 1) := by decide +kernel
theorem d_Laws_earliest_40 : decode M_Laws_earliest.2.1 40 = .ok (.invokevirtual 26, 3) := by decide +kernel
theorem d_Laws_earliest_43 : decode M_Laws_earliest.2.1 43 = .ok (.aload_n 0, 1) := by decide +kernel
theorem d_Laws_earliest_44 : decode M_Laws_earliest.2.1 44 = .ok (.getfield 21, 3) := by decide +kernel
theorem d_Laws_earliest_47 : decode M_Laws_earliest.2.1 47 = .ok (.iload_n 3, 1) := by decide +kernel
theorem d_Laws_earliest_48 : decode M_Laws_earliest.2.1 48 = .ok (.iconst 2, 1) := by decide +kernel
theorem d_Laws_earliest_49 : decode M_Laws_earliest.2.1 49 = .ok (.invokevirtual 26, 3) := by decide +kernel
theorem d_Laws_earliest_52 : decode M_Laws_earliest.2.1 52 = .ok (.if_icmp .ge 6, 3) := by decide +kernel
theorem d_Laws_earliest_55 : decode M_Laws_earliest.2.1 55 = .ok (.iload 4, 2) := by decide +kernel
theorem d_Laws_earliest_57 : decode M_Laws_earliest.2.1 57 = .ok (.istore_n 3, 1) := by decide +kernel
theorem d_Laws_earliest_58 : decode M_Laws_earliest.2.1 58 = .ok (.iinc 4 1, 3) := by decide +kernel
theorem d_Laws_earliest_61 : decode M_Laws_earliest.2.1 61 = .ok (.goto (-56), 3) := by decide +kernel
theorem d_Laws_earliest_64 : decode M_Laws_earliest.2.1 64 = .ok (.iload_n 3, 1) := by decide +kernel
theorem d_Laws_earliest_65 : decode M_Laws_earliest.2.1 65 = .ok (.ireturn, 1) := by decide +kernel
theorem d_Laws_monksSaying_0 : decode M_Laws_monksSaying.2.1 0 = .ok (.iconst 0, 1) := by decide +kernel
theorem d_Laws_monksSaying_1 : decode M_Laws_monksSaying.2.1 1 = .ok (.istore_n 3, 1) := by decide +kernel
theorem d_Laws_monksSaying_2 : decode M_Laws_monksSaying.2.1 2 = .ok (.iconst 0, 1) := by decide +kernel
theorem d_Laws_monksSaying_3 : decode M_Laws_monksSaying.2.1 3 = .ok (.istore 4, 2) := by decide +kernel
theorem d_Laws_monksSaying_5 : decode M_Laws_monksSaying.2.1 5 = .ok (.iload 4, 2) := by decide +kernel
theorem d_Laws_monksSaying_7 : decode M_Laws_monksSaying.2.1 7 = .ok (.aload_n 0, 1) := by decide +kernel
theorem d_Laws_monksSaying_8 : decode M_Laws_monksSaying.2.1 8 = .ok (.getfield 9, 3) := by decide +kernel
theorem d_Laws_monksSaying_11 : decode M_Laws_monksSaying.2.1 11 = .ok (.getfield 32, 3) := by decide +kernel
theorem d_Laws_monksSaying_14 : decode M_Laws_monksSaying.2.1 14 = .ok (.if_icmp .ge 49, 3) := by decide +kernel
theorem d_Laws_monksSaying_17 : decode M_Laws_monksSaying.2.1 17 = .ok (.aload_n 0, 1) := by decide +kernel
theorem d_Laws_monksSaying_18 : decode M_Laws_monksSaying.2.1 18 = .ok (.iload 4, 2) := by decide +kernel
theorem d_Laws_monksSaying_20 : decode M_Laws_monksSaying.2.1 20 = .ok (.iconst 0, 1) := by decide +kernel
theorem d_Laws_monksSaying_21 : decode M_Laws_monksSaying.2.1 21 = .ok (.iload_n 1, 1) := by decide +kernel
theorem d_Laws_monksSaying_22 : decode M_Laws_monksSaying.2.1 22 = .ok (.invokevirtual 36, 3) := by decide +kernel
theorem d_Laws_monksSaying_25 : decode M_Laws_monksSaying.2.1 25 = .ok (.ifCond .eq 32, 3) := by decide +kernel
theorem d_Laws_monksSaying_28 : decode M_Laws_monksSaying.2.1 28 = .ok (.aload_n 0, 1) := by decide +kernel
theorem d_Laws_monksSaying_29 : decode M_Laws_monksSaying.2.1 29 = .ok (.getfield 21, 3) := by decide +kernel
theorem d_Laws_monksSaying_32 : decode M_Laws_monksSaying.2.1 32 = .ok (.iload 4, 2) := by decide +kernel
theorem d_Laws_monksSaying_34 : decode M_Laws_monksSaying.2.1 34 = .ok (.iconst 4, 1) := by decide +kernel
theorem d_Laws_monksSaying_35 : decode M_Laws_monksSaying.2.1 35 = .ok (.invokevirtual 26, 3) := by decide +kernel
theorem d_Laws_monksSaying_38 : decode M_Laws_monksSaying.2.1 38 = .ok (.iload_n 2, 1) := by decide +kernel
theorem d_Laws_monksSaying_39 : decode M_Laws_monksSaying.2.1 39 = .ok (.if_icmp .ne 18, 3) := by decide +kernel
theorem d_Laws_monksSaying_42 : decode M_Laws_monksSaying.2.1 42 = .ok (.iload_n 3, 1) := by decide +kernel
theorem d_Laws_monksSaying_43 : decode M_Laws_monksSaying.2.1 43 = .ok (.iconst 1, 1) := by decide +kernel
theorem d_Laws_monksSaying_44 : decode M_Laws_monksSaying.2.1 44 = .ok (.aload_n 0, 1) := by decide +kernel
theorem d_Laws_monksSaying_45 : decode M_Laws_monksSaying.2.1 45 = .ok (.getfield 21, 3) := by decide +kernel
theorem d_Laws_monksSaying_48 : decode M_Laws_monksSaying.2.1 48 = .ok (.iload 4, 2) := by decide +kernel
theorem d_Laws_monksSaying_50 : decode M_Laws_monksSaying.2.1 50 = .ok (.iconst 1, 1) := by decide +kernel
theorem d_Laws_monksSaying_51 : decode M_Laws_monksSaying.2.1 51 = .ok (.invokevirtual 26, 3) := by decide +kernel
theorem d_Laws_monksSaying_54 : decode M_Laws_monksSaying.2.1 54 = .ok (.ishl, 1) := by decide +kernel
theorem d_Laws_monksSaying_55 : decode M_Laws_monksSaying.2.1 55 = .ok (.ior, 1) := by decide +kernel
theorem d_Laws_monksSaying_56 : decode M_Laws_monksSaying.2.1 56 = .ok (.istore_n 3, 1) := by decide +kernel
theorem d_Laws_monksSaying_57 : decode M_Laws_monksSaying.2.1 57 = .ok (.iinc 4 1, 3) := by decide +kernel
theorem d_Laws_monksSaying_60 : decode M_Laws_monksSaying.2.1 60 = .ok (.goto (-55), 3) := by decide +kernel
theorem d_Laws_monksSaying_63 : decode M_Laws_monksSaying.2.1 63 = .ok (.iload_n 3, 1) := by decide +kernel
theorem d_Laws_monksSaying_64 : decode M_Laws_monksSaying.2.1 64 = .ok (.ireturn, 1) := by decide +kernel
theorem d_Laws_mostHeld_0 : decode M_Laws_mostHeld.2.1 0 = .ok (.iconst (-1), 1) := by decide +kernel
theorem d_Laws_mostHeld_1 : decode M_Laws_mostHeld.2.1 1 = .ok (.istore_n 2, 1) := by decide +kernel
theorem d_Laws_mostHeld_2 : decode M_Laws_mostHeld.2.1 2 = .ok (.iconst 0, 1) := by decide +kernel
theorem d_Laws_mostHeld_3 : decode M_Laws_mostHeld.2.1 3 = .ok (.istore_n 3, 1) := by decide +kernel
theorem d_Laws_mostHeld_4 : decode M_Laws_mostHeld.2.1 4 = .ok (.iconst 0, 1) := by decide +kernel
theorem d_Laws_mostHeld_5 : decode M_Laws_mostHeld.2.1 5 = .ok (.istore 4, 2) := by decide +kernel
theorem d_Laws_mostHeld_7 : decode M_Laws_mostHeld.2.1 7 = .ok (.iload 4, 2) := by decide +kernel
theorem d_Laws_mostHeld_9 : decode M_Laws_mostHeld.2.1 9 = .ok (.aload_n 0, 1) := by decide +kernel
theorem d_Laws_mostHeld_10 : decode M_Laws_mostHeld.2.1 10 = .ok (.getfield 9, 3) := by decide +kernel
theorem d_Laws_mostHeld_13 : decode M_Laws_mostHeld.2.1 13 = .ok (.getfield 32, 3) := by decide +kernel
theorem d_Laws_mostHeld_16 : decode M_Laws_mostHeld.2.1 16 = .ok (.if_icmp .ge 68, 3) := by decide +kernel
theorem d_Laws_mostHeld_19 : decode M_Laws_mostHeld.2.1 19 = .ok (.aload_n 0, 1) := by decide +kernel
theorem d_Laws_mostHeld_20 : decode M_Laws_mostHeld.2.1 20 = .ok (.iload 4, 2) := by decide +kernel
theorem d_Laws_mostHeld_22 : decode M_Laws_mostHeld.2.1 22 = .ok (.iconst 0, 1) := by decide +kernel
theorem d_Laws_mostHeld_23 : decode M_Laws_mostHeld.2.1 23 = .ok (.iload_n 1, 1) := by decide +kernel
theorem d_Laws_mostHeld_24 : decode M_Laws_mostHeld.2.1 24 = .ok (.invokevirtual 36, 3) := by decide +kernel
theorem d_Laws_mostHeld_27 : decode M_Laws_mostHeld.2.1 27 = .ok (.ifCond .eq 51, 3) := by decide +kernel
theorem d_Laws_mostHeld_30 : decode M_Laws_mostHeld.2.1 30 = .ok (.aload_n 0, 1) := by decide +kernel
theorem d_Laws_mostHeld_31 : decode M_Laws_mostHeld.2.1 31 = .ok (.getfield 21, 3) := by decide +kernel
theorem d_Laws_mostHeld_34 : decode M_Laws_mostHeld.2.1 34 = .ok (.iload 4, 2) := by decide +kernel
theorem d_Laws_mostHeld_36 : decode M_Laws_mostHeld.2.1 36 = .ok (.iconst 4, 1) := by decide +kernel
theorem d_Laws_mostHeld_37 : decode M_Laws_mostHeld.2.1 37 = .ok (.invokevirtual 26, 3) := by decide +kernel
theorem d_Laws_mostHeld_40 : decode M_Laws_mostHeld.2.1 40 = .ok (.istore 5, 2) := by decide +kernel
theorem d_Laws_mostHeld_42 : decode M_Laws_mostHeld.2.1 42 = .ok (.aload_n 0, 1) := by decide +kernel
theorem d_Laws_mostHeld_43 : decode M_Laws_mostHeld.2.1 43 = .ok (.iload_n 1, 1) := by decide +kernel
theorem d_Laws_mostHeld_44 : decode M_Laws_mostHeld.2.1 44 = .ok (.iload 5, 2) := by decide +kernel
theorem d_Laws_mostHeld_46 : decode M_Laws_mostHeld.2.1 46 = .ok (.invokevirtual 64, 3) := by decide +kernel
theorem d_Laws_mostHeld_49 : decode M_Laws_mostHeld.2.1 49 = .ok (.invokestatic 67, 3) := by decide +kernel
theorem d_Laws_mostHeld_52 : decode M_Laws_mostHeld.2.1 52 = .ok (.istore 6, 2) := by decide +kernel
theorem d_Laws_mostHeld_54 : decode M_Laws_mostHeld.2.1 54 = .ok (.iload 6, 2) := by decide +kernel
theorem d_Laws_mostHeld_56 : decode M_Laws_mostHeld.2.1 56 = .ok (.iload_n 3, 1) := by decide +kernel
theorem d_Laws_mostHeld_57 : decode M_Laws_mostHeld.2.1 57 = .ok (.if_icmp .gt 15, 3) := by decide +kernel
theorem d_Laws_mostHeld_60 : decode M_Laws_mostHeld.2.1 60 = .ok (.iload 6, 2) := by decide +kernel
theorem d_Laws_mostHeld_62 : decode M_Laws_mostHeld.2.1 62 = .ok (.iload_n 3, 1) := by decide +kernel
theorem d_Laws_mostHeld_63 : decode M_Laws_mostHeld.2.1 63 = .ok (.if_icmp .ne 15, 3) := by decide +kernel
theorem d_Laws_mostHeld_66 : decode M_Laws_mostHeld.2.1 66 = .ok (.iload 5, 2) := by decide +kernel
theorem d_Laws_mostHeld_68 : decode M_Laws_mostHeld.2.1 68 = .ok (.iload_n 2, 1) := by decide +kernel
theorem d_Laws_mostHeld_69 : decode M_Laws_mostHeld.2.1 69 = .ok (.if_icmp .ge 9, 3) := by decide +kernel
theorem d_Laws_mostHeld_72 : decode M_Laws_mostHeld.2.1 72 = .ok (.iload 5, 2) := by decide +kernel
theorem d_Laws_mostHeld_74 : decode M_Laws_mostHeld.2.1 74 = .ok (.istore_n 2, 1) := by decide +kernel
theorem d_Laws_mostHeld_75 : decode M_Laws_mostHeld.2.1 75 = .ok (.iload 6, 2) := by decide +kernel
theorem d_Laws_mostHeld_77 : decode M_Laws_mostHeld.2.1 77 = .ok (.istore_n 3, 1) := by decide +kernel
theorem d_Laws_mostHeld_78 : decode M_Laws_mostHeld.2.1 78 = .ok (.iinc 4 1, 3) := by decide +kernel
theorem d_Laws_mostHeld_81 : decode M_Laws_mostHeld.2.1 81 = .ok (.goto (-74), 3) := by decide +kernel
theorem d_Laws_mostHeld_84 : decode M_Laws_mostHeld.2.1 84 = .ok (.iload_n 2, 1) := by decide +kernel
theorem d_Laws_mostHeld_85 : decode M_Laws_mostHeld.2.1 85 = .ok (.ireturn, 1) := by decide +kernel
theorem d_Season_draw_0 : decode M_Season_draw.2.1 0 = .ok (.aload_n 0, 1) := by decide +kernel
theorem d_Season_draw_1 : decode M_Season_draw.2.1 1 = .ok (.aload_n 0, 1) := by decide +kernel
theorem d_Season_draw_2 : decode M_Season_draw.2.1 2 = .ok (.getfield 30, 3) := by decide +kernel
theorem d_Season_draw_5 : decode M_Season_draw.2.1 5 = .ok (.ldc 76, 2) := by decide +kernel
theorem d_Season_draw_7 : decode M_Season_draw.2.1 7 = .ok (.imul, 1) := by decide +kernel
theorem d_Season_draw_8 : decode M_Season_draw.2.1 8 = .ok (.sipush 12345, 3) := by decide +kernel
theorem d_Season_draw_11 : decode M_Season_draw.2.1 11 = .ok (.iadd, 1) := by decide +kernel
theorem d_Season_draw_12 : decode M_Season_draw.2.1 12 = .ok (.putfield 30, 3) := by decide +kernel
theorem d_Season_draw_15 : decode M_Season_draw.2.1 15 = .ok (.iload_n 1, 1) := by decide +kernel
theorem d_Season_draw_16 : decode M_Season_draw.2.1 16 = .ok (.ifCond .le 19, 3) := by decide +kernel
theorem d_Season_draw_19 : decode M_Season_draw.2.1 19 = .ok (.aload_n 0, 1) := by decide +kernel
theorem d_Season_draw_20 : decode M_Season_draw.2.1 20 = .ok (.getfield 30, 3) := by decide +kernel
theorem d_Season_draw_23 : decode M_Season_draw.2.1 23 = .ok (.bipush 16, 2) := by decide +kernel
theorem d_Season_draw_25 : decode M_Season_draw.2.1 25 = .ok (.iushr, 1) := by decide +kernel
theorem d_Season_draw_26 : decode M_Season_draw.2.1 26 = .ok (.sipush 32767, 3) := by decide +kernel
theorem d_Season_draw_29 : decode M_Season_draw.2.1 29 = .ok (.iand, 1) := by decide +kernel
theorem d_Season_draw_30 : decode M_Season_draw.2.1 30 = .ok (.iload_n 1, 1) := by decide +kernel
theorem d_Season_draw_31 : decode M_Season_draw.2.1 31 = .ok (.irem, 1) := by decide +kernel
theorem d_Season_draw_32 : decode M_Season_draw.2.1 32 = .ok (.goto 4, 3) := by decide +kernel
theorem d_Season_draw_35 : decode M_Season_draw.2.1 35 = .ok (.iconst 0, 1) := by decide +kernel
theorem d_Season_draw_36 : decode M_Season_draw.2.1 36 = .ok (.ireturn, 1) := by decide +kernel
theorem d_Season_visit_0 : decode M_Season_visit.2.1 0 = .ok (.aload_n 0, 1) := by decide +kernel
theorem d_Season_visit_1 : decode M_Season_visit.2.1 1 = .ok (.iconst 3, 1) := by decide +kernel
theorem d_Season_visit_2 : decode M_Season_visit.2.1 2 = .ok (.invokevirtual 50, 3) := by decide +kernel
theorem d_Season_visit_5 : decode M_Season_visit.2.1 5 = .ok (.istore_n 2, 1) := by decide +kernel
theorem d_Season_visit_6 : decode M_Season_visit.2.1 6 = .ok (.iload_n 2, 1) := by decide +kernel
theorem d_Season_visit_7 : decode M_Season_visit.2.1 7 = .ok (.ifCond .ne 33, 3) := by decide +kernel
theorem d_Season_visit_10 : decode M_Season_visit.2.1 10 = .ok (.aload_n 0, 1) := by decide +kernel
theorem d_Season_visit_11 : decode M_Season_visit.2.1 11 = .ok (.bipush 20, 2) := by decide +kernel
theorem d_Season_visit_13 : decode M_Season_visit.2.1 13 = .ok (.invokevirtual 50, 3) := by decide +kernel
theorem d_Season_visit_16 : decode M_Season_visit.2.1 16 = .ok (.istore_n 3, 1) := by decide +kernel
theorem d_Season_visit_17 : decode M_Season_visit.2.1 17 = .ok (.aload_n 0, 1) := by decide +kernel
theorem d_Season_visit_18 : decode M_Season_visit.2.1 18 = .ok (.getfield 12, 3) := by decide +kernel
theorem d_Season_visit_21 : decode M_Season_visit.2.1 21 = .ok (.aload_n 0, 1) := by decide +kernel
theorem d_Season_visit_22 : decode M_Season_visit.2.1 22 = .ok (.getfield 12, 3) := by decide +kernel
theorem d_Season_visit_25 : decode M_Season_visit.2.1 25 = .ok (.iload_n 1, 1) := by decide +kernel
theorem d_Season_visit_26 : decode M_Season_visit.2.1 26 = .ok (.iload_n 3, 1) := by decide +kernel
theorem d_Season_visit_27 : decode M_Season_visit.2.1 27 = .ok (.iload_n 3, 1) := by decide +kernel
theorem d_Season_visit_28 : decode M_Season_visit.2.1 28 = .ok (.iconst 2, 1) := by decide +kernel
theorem d_Season_visit_29 : decode M_Season_visit.2.1 29 = .ok (.iadd, 1) := by decide +kernel
theorem d_Season_visit_30 : decode M_Season_visit.2.1 30 = .ok (.invokevirtual 61, 3) := by decide +kernel
theorem d_Season_visit_33 : decode M_Season_visit.2.1 33 = .ok (.invokevirtual 65, 3) := by decide +kernel
theorem d_Season_visit_36 : decode M_Season_visit.2.1 36 = .ok (.pop, 1) := by decide +kernel
theorem d_Season_visit_37 : decode M_Season_visit.2.1 37 = .ok (.goto 38, 3) := by decide +kernel
theorem d_Season_visit_40 : decode M_Season_visit.2.1 40 = .ok (.iload_n 2, 1) := by decide +kernel
theorem d_Season_visit_41 : decode M_Season_visit.2.1 41 = .ok (.iconst 1, 1) := by decide +kernel
theorem d_Season_visit_42 : decode M_Season_visit.2.1 42 = .ok (.if_icmp .ne 33, 3) := by decide +kernel
theorem d_Season_visit_45 : decode M_Season_visit.2.1 45 = .ok (.aload_n 0, 1) := by decide +kernel
theorem d_Season_visit_46 : decode M_Season_visit.2.1 46 = .ok (.bipush 20, 2) := by decide +kernel
theorem d_Season_visit_48 : decode M_Season_visit.2.1 48 = .ok (.invokevirtual 50, 3) := by decide +kernel
theorem d_Season_visit_51 : decode M_Season_visit.2.1 51 = .ok (.istore_n 3, 1) := by decide +kernel
theorem d_Season_visit_52 : decode M_Season_visit.2.1 52 = .ok (.iload_n 3, 1) := by decide +kernel
theorem d_Season_visit_53 : decode M_Season_visit.2.1 53 = .ok (.aload_n 0, 1) := by decide +kernel
theorem d_Season_visit_54 : decode M_Season_visit.2.1 54 = .ok (.getfield 12, 3) := by decide +kernel
theorem d_Season_visit_57 : decode M_Season_visit.2.1 57 = .ok (.getfield 68, 3) := by decide +kernel
theorem d_Season_visit_60 : decode M_Season_visit.2.1 60 = .ok (.iload_n 1, 1) := by decide +kernel
theorem d_Season_visit_61 : decode M_Season_visit.2.1 61 = .ok (.iaload, 1) := by decide +kernel
theorem d_Season_visit_62 : decode M_Season_visit.2.1 62 = .ok (.if_icmp .ge 13, 3) := by decide +kernel
theorem d_Season_visit_65 : decode M_Season_visit.2.1 65 = .ok (.aload_n 0, 1) := by decide +kernel
theorem d_Season_visit_66 : decode M_Season_visit.2.1 66 = .ok (.getfield 12, 3) := by decide +kernel
theorem d_Season_visit_69 : decode M_Season_visit.2.1 69 = .ok (.iload_n 1, 1) := by decide +kernel
theorem d_Season_visit_70 : decode M_Season_visit.2.1 70 = .ok (.iload_n 3, 1) := by decide +kernel
theorem d_Season_visit_71 : decode M_Season_visit.2.1 71 = .ok (.invokevirtual 72, 3) := by decide +kernel
theorem d_Season_visit_74 : decode M_Season_visit.2.1 74 = .ok (.pop, 1) := by decide +kernel
theorem d_Season_visit_75 : decode M_Season_visit.2.1 75 = .ok (.return_, 1) := by decide +kernel
theorem d_Season_run_0 : decode M_Season_run.2.1 0 = .ok (.aload_n 0, 1) := by decide +kernel
theorem d_Season_run_1 : decode M_Season_run.2.1 1 = .ok (.getfield 12, 3) := by decide +kernel
theorem d_Season_run_4 : decode M_Season_run.2.1 4 = .ok (.aload_n 1, 1) := by decide +kernel
theorem d_Season_run_5 : decode M_Season_run.2.1 5 = .ok (.invokevirtual 27, 3) := by decide +kernel
theorem d_Season_run_8 : decode M_Season_run.2.1 8 = .ok (.aload_n 0, 1) := by decide +kernel
theorem d_Season_run_9 : decode M_Season_run.2.1 9 = .ok (.iload_n 2, 1) := by decide +kernel
theorem d_Season_run_10 : decode M_Season_run.2.1 10 = .ok (.putfield 30, 3) := by decide +kernel
theorem d_Season_run_13 : decode M_Season_run.2.1 13 = .ok (.aload_n 0, 1) := by decide +kernel
theorem d_Season_run_14 : decode M_Season_run.2.1 14 = .ok (.iconst 0, 1) := by decide +kernel
theorem d_Season_run_15 : decode M_Season_run.2.1 15 = .ok (.putfield 34, 3) := by decide +kernel
theorem d_Season_run_18 : decode M_Season_run.2.1 18 = .ok (.iconst 0, 1) := by decide +kernel
theorem d_Season_run_19 : decode M_Season_run.2.1 19 = .ok (.istore 4, 2) := by decide +kernel
theorem d_Season_run_21 : decode M_Season_run.2.1 21 = .ok (.iload 4, 2) := by decide +kernel
theorem d_Season_run_23 : decode M_Season_run.2.1 23 = .ok (.iload_n 3, 1) := by decide +kernel
theorem d_Season_run_24 : decode M_Season_run.2.1 24 = .ok (.if_icmp .ge 79, 3) := by decide +kernel
theorem d_Season_run_27 : decode M_Season_run.2.1 27 = .ok (.aload_n 0, 1) := by decide +kernel
theorem d_Season_run_28 : decode M_Season_run.2.1 28 = .ok (.getfield 12, 3) := by decide +kernel
theorem d_Season_run_31 : decode M_Season_run.2.1 31 = .ok (.invokevirtual 37, 3) := by decide +kernel
theorem d_Season_run_34 : decode M_Season_run.2.1 34 = .ok (.istore 5, 2) := by decide +kernel
theorem d_Season_run_36 : decode M_Season_run.2.1 36 = .ok (.aload_n 0, 1) := by decide +kernel
theorem d_Season_run_37 : decode M_Season_run.2.1 37 = .ok (.getfield 12, 3) := by decide +kernel
theorem d_Season_run_40 : decode M_Season_run.2.1 40 = .ok (.getfield 41, 3) := by decide +kernel
theorem d_Season_run_43 : decode M_Season_run.2.1 43 = .ok (.getfield 45, 3) := by decide +kernel
theorem d_Season_run_46 : decode M_Season_run.2.1 46 = .ok (.ifCond .le 21, 3) := by decide +kernel
theorem d_Season_run_49 : decode M_Season_run.2.1 49 = .ok (.aload_n 0, 1) := by decide +kernel
theorem d_Season_run_50 : decode M_Season_run.2.1 50 = .ok (.aload_n 0, 1) := by decide +kernel
theorem d_Season_run_51 : decode M_Season_run.2.1 51 = .ok (.aload_n 0, 1) := by decide +kernel
theorem d_Season_run_52 : decode M_Season_run.2.1 52 = .ok (.getfield 12, 3) := by decide +kernel
theorem d_Season_run_55 : decode M_Season_run.2.1 55 = .ok (.getfield 41, 3) := by decide +kernel
theorem d_Season_run_58 : decode M_Season_run.2.1 58 = .ok (.getfield 45, 3) := by decide +kernel
theorem d_Season_run_61 : decode M_Season_run.2.1 61 = .ok (.invokevirtual 50, 3) := by decide +kernel
theorem d_Season_run_64 : decode M_Season_run.2.1 64 = .ok (.invokevirtual 54, 3) := by decide +kernel
theorem d_Season_run_67 : decode M_Season_run.2.1 67 = .ok (.aload_n 0, 1) := by decide +kernel
theorem d_Season_run_68 : decode M_Season_run.2.1 68 = .ok (.getfield 12, 3) := by decide +kernel
theorem d_Season_run_71 : decode M_Season_run.2.1 71 = .ok (.iconst 1, 1) := by decide +kernel
theorem d_Season_run_72 : decode M_Season_run.2.1 72 = .ok (.invokevirtual 58, 3) := by decide +kernel
theorem d_Season_run_75 : decode M_Season_run.2.1 75 = .ok (.aload_n 0, 1) := by decide +kernel
theorem d_Season_run_76 : decode M_Season_run.2.1 76 = .ok (.getfield 12, 3) := by decide +kernel
theorem d_Season_run_79 : decode M_Season_run.2.1 79 = .ok (.invokevirtual 37, 3) := by decide +kernel
theorem d_Season_run_82 : decode M_Season_run.2.1 82 = .ok (.iload 5, 2) := by decide +kernel
theorem d_Season_run_84 : decode M_Season_run.2.1 84 = .ok (.if_icmp .eq 13, 3) := by decide +kernel
theorem d_Season_run_87 : decode M_Season_run.2.1 87 = .ok (.aload_n 0, 1) := by decide +kernel
theorem d_Season_run_88 : decode M_Season_run.2.1 88 = .ok (.dup, 1) := by decide +kernel
theorem d_Season_run_89 : decode M_Season_run.2.1 89 = .ok (.getfield 34, 3) := by decide +kernel
theorem d_Season_run_92 : decode M_Season_run.2.1 92 = .ok (.iconst 1, 1) := by decide +kernel
theorem d_Season_run_93 : decode M_Season_run.2.1 93 = .ok (.iadd, 1) := by decide +kernel
theorem d_Season_run_94 : decode M_Season_run.2.1 94 = .ok (.putfield 34, 3) := by decide +kernel
theorem d_Season_run_97 : decode M_Season_run.2.1 97 = .ok (.iinc 4 1, 3) := by decide +kernel
theorem d_Season_run_100 : decode M_Season_run.2.1 100 = .ok (.goto (-79), 3) := by decide +kernel
theorem d_Season_run_103 : decode M_Season_run.2.1 103 = .ok (.return_, 1) := by decide +kernel

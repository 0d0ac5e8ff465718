/-! decode rows of 23.acts (by program) -/
theorem d_Acts_keep_0 : decode M_Acts_keep.2.1 0 = .ok (.aload_n 0, 1) := by decide +kernel
theorem d_Acts_keep_1 : decode M_Acts_keep.2.1 1 = .ok (.getfield 17, 3) := by decide +kernel
theorem d_Acts_keep_4 : decode M_Acts_keep.2.1 4 = .ok (.bipush 40, 2) := by decide +kernel
theorem d_Acts_keep_6 : decode M_Acts_keep.2.1 6 = .ok (.if_icmp .lt 31, 3) := by decide +kernel
theorem d_Acts_keep_9 : decode M_Acts_keep.2.1 9 = .ok (.aload_n 0, 1) := by decide +kernel
theorem d_Acts_keep_10 : decode M_Acts_keep.2.1 10 = .ok (.getfield 11, 3) := by decide +kernel
theorem d_Acts_keep_13 : decode M_Acts_keep.2.1 13 = .ok (.bipush 16, 2) := by decide +kernel
theorem d_Acts_keep_15 : decode M_Acts_keep.2.1 15 = .ok (.aload_n 0, 1) := by decide +kernel
theorem d_Acts_keep_16 : decode M_Acts_keep.2.1 16 = .ok (.getfield 11, 3) := by decide +kernel
theorem d_Acts_keep_19 : decode M_Acts_keep.2.1 19 = .ok (.iconst 0, 1) := by decide +kernel
theorem d_Acts_keep_20 : decode M_Acts_keep.2.1 20 = .ok (.aload_n 0, 1) := by decide +kernel
theorem d_Acts_keep_21 : decode M_Acts_keep.2.1 21 = .ok (.getfield 11, 3) := by decide +kernel
theorem d_Acts_keep_24 : decode M_Acts_keep.2.1 24 = .ok (.arraylength, 1) := by decide +kernel
theorem d_Acts_keep_25 : decode M_Acts_keep.2.1 25 = .ok (.bipush 16, 2) := by decide +kernel
theorem d_Acts_keep_27 : decode M_Acts_keep.2.1 27 = .ok (.isub, 1) := by decide +kernel
theorem d_Acts_keep_28 : decode M_Acts_keep.2.1 28 = .ok (.invokestatic 21, 3) := by decide +kernel
theorem d_Acts_keep_31 : decode M_Acts_keep.2.1 31 = .ok (.aload_n 0, 1) := by decide +kernel
theorem d_Acts_keep_32 : decode M_Acts_keep.2.1 32 = .ok (.bipush 39, 2) := by decide +kernel
theorem d_Acts_keep_34 : decode M_Acts_keep.2.1 34 = .ok (.putfield 17, 3) := by decide +kernel
theorem d_Acts_keep_37 : decode M_Acts_keep.2.1 37 = .ok (.aload_n 1, 1) := by decide +kernel
theorem d_Acts_keep_38 : decode M_Acts_keep.2.1 38 = .ok (.aload_n 0, 1) := by decide +kernel
theorem d_Acts_keep_39 : decode M_Acts_keep.2.1 39 = .ok (.getfield 11, 3) := by decide +kernel
theorem d_Acts_keep_42 : decode M_Acts_keep.2.1 42 = .ok (.aload_n 0, 1) := by decide +kernel
theorem d_Acts_keep_43 : decode M_Acts_keep.2.1 43 = .ok (.getfield 17, 3) := by decide +kernel
theorem d_Acts_keep_46 : decode M_Acts_keep.2.1 46 = .ok (.bipush 16, 2) := by decide +kernel
theorem d_Acts_keep_48 : decode M_Acts_keep.2.1 48 = .ok (.imul, 1) := by decide +kernel
theorem d_Acts_keep_49 : decode M_Acts_keep.2.1 49 = .ok (.invokevirtual 27, 3) := by decide +kernel
theorem d_Acts_keep_52 : decode M_Acts_keep.2.1 52 = .ok (.aload_n 0, 1) := by decide +kernel
theorem d_Acts_keep_53 : decode M_Acts_keep.2.1 53 = .ok (.dup, 1) := by decide +kernel
theorem d_Acts_keep_54 : decode M_Acts_keep.2.1 54 = .ok (.getfield 17, 3) := by decide +kernel
theorem d_Acts_keep_57 : decode M_Acts_keep.2.1 57 = .ok (.iconst 1, 1) := by decide +kernel
theorem d_Acts_keep_58 : decode M_Acts_keep.2.1 58 = .ok (.iadd, 1) := by decide +kernel
theorem d_Acts_keep_59 : decode M_Acts_keep.2.1 59 = .ok (.putfield 17, 3) := by decide +kernel
theorem d_Acts_keep_62 : decode M_Acts_keep.2.1 62 = .ok (.return_, 1) := by decide +kernel
theorem d_Acts_takeBack_0 : decode M_Acts_takeBack.2.1 0 = .ok (.aload_n 0, 1) := by decide +kernel
theorem d_Acts_takeBack_1 : decode M_Acts_takeBack.2.1 1 = .ok (.getfield 17, 3) := by decide +kernel
theorem d_Acts_takeBack_4 : decode M_Acts_takeBack.2.1 4 = .ok (.ifCond .le 28, 3) := by decide +kernel
theorem d_Acts_takeBack_7 : decode M_Acts_takeBack.2.1 7 = .ok (.aload_n 0, 1) := by decide +kernel
theorem d_Acts_takeBack_8 : decode M_Acts_takeBack.2.1 8 = .ok (.dup, 1) := by decide +kernel
theorem d_Acts_takeBack_9 : decode M_Acts_takeBack.2.1 9 = .ok (.getfield 17, 3) := by decide +kernel
theorem d_Acts_takeBack_12 : decode M_Acts_takeBack.2.1 12 = .ok (.iconst 1, 1) := by decide +kernel
theorem d_Acts_takeBack_13 : decode M_Acts_takeBack.2.1 13 = .ok (.isub, 1) := by decide +kernel
theorem d_Acts_takeBack_14 : decode M_Acts_takeBack.2.1 14 = .ok (.putfield 17, 3) := by decide +kernel
theorem d_Acts_takeBack_17 : decode M_Acts_takeBack.2.1 17 = .ok (.aload_n 1, 1) := by decide +kernel
theorem d_Acts_takeBack_18 : decode M_Acts_takeBack.2.1 18 = .ok (.aload_n 0, 1) := by decide +kernel
theorem d_Acts_takeBack_19 : decode M_Acts_takeBack.2.1 19 = .ok (.getfield 11, 3) := by decide +kernel
theorem d_Acts_takeBack_22 : decode M_Acts_takeBack.2.1 22 = .ok (.aload_n 0, 1) := by decide +kernel
theorem d_Acts_takeBack_23 : decode M_Acts_takeBack.2.1 23 = .ok (.getfield 17, 3) := by decide +kernel
theorem d_Acts_takeBack_26 : decode M_Acts_takeBack.2.1 26 = .ok (.bipush 16, 2) := by decide +kernel
theorem d_Acts_takeBack_28 : decode M_Acts_takeBack.2.1 28 = .ok (.imul, 1) := by decide +kernel
theorem d_Acts_takeBack_29 : decode M_Acts_takeBack.2.1 29 = .ok (.invokevirtual 31, 3) := by decide +kernel
theorem d_Acts_takeBack_32 : decode M_Acts_takeBack.2.1 32 = .ok (.return_, 1) := by decide +kernel
theorem d_Acts_take_0 : decode M_Acts_take.2.1 0 = .ok (.aload_n 0, 1) := by decide +kernel
theorem d_Acts_take_1 : decode M_Acts_take.2.1 1 = .ok (.aload_n 1, 1) := by decide +kernel
theorem d_Acts_take_2 : decode M_Acts_take.2.1 2 = .ok (.getfield 17, 3) := by decide +kernel
theorem d_Acts_take_5 : decode M_Acts_take.2.1 5 = .ok (.putfield 17, 3) := by decide +kernel
theorem d_Acts_take_8 : decode M_Acts_take.2.1 8 = .ok (.aload_n 1, 1) := by decide +kernel
theorem d_Acts_take_9 : decode M_Acts_take.2.1 9 = .ok (.getfield 11, 3) := by decide +kernel
theorem d_Acts_take_12 : decode M_Acts_take.2.1 12 = .ok (.iconst 0, 1) := by decide +kernel
theorem d_Acts_take_13 : decode M_Acts_take.2.1 13 = .ok (.aload_n 0, 1) := by decide +kernel
theorem d_Acts_take_14 : decode M_Acts_take.2.1 14 = .ok (.getfield 11, 3) := by decide +kernel
theorem d_Acts_take_17 : decode M_Acts_take.2.1 17 = .ok (.iconst 0, 1) := by decide +kernel
theorem d_Acts_take_18 : decode M_Acts_take.2.1 18 = .ok (.aload_n 0, 1) := by decide +kernel
theorem d_Acts_take_19 : decode M_Acts_take.2.1 19 = .ok (.getfield 17, 3) := by decide +kernel
theorem d_Acts_take_22 : decode M_Acts_take.2.1 22 = .ok (.bipush 16, 2) := by decide +kernel
theorem d_Acts_take_24 : decode M_Acts_take.2.1 24 = .ok (.imul, 1) := by decide +kernel
theorem d_Acts_take_25 : decode M_Acts_take.2.1 25 = .ok (.invokestatic 21, 3) := by decide +kernel
theorem d_Acts_take_28 : decode M_Acts_take.2.1 28 = .ok (.return_, 1) := by decide +kernel
theorem d_Seen_take_0 : decode M_Seen_take.2.1 0 = .ok (.aload_n 0, 1) := by decide +kernel
theorem d_Seen_take_1 : decode M_Seen_take.2.1 1 = .ok (.aload_n 1, 1) := by decide +kernel
theorem d_Seen_take_2 : decode M_Seen_take.2.1 2 = .ok (.getfield 18, 3) := by decide +kernel
theorem d_Seen_take_5 : decode M_Seen_take.2.1 5 = .ok (.putfield 18, 3) := by decide +kernel
theorem d_Seen_take_8 : decode M_Seen_take.2.1 8 = .ok (.aload_n 1, 1) := by decide +kernel
theorem d_Seen_take_9 : decode M_Seen_take.2.1 9 = .ok (.getfield 9, 3) := by decide +kernel
theorem d_Seen_take_12 : decode M_Seen_take.2.1 12 = .ok (.iconst 0, 1) := by decide +kernel
theorem d_Seen_take_13 : decode M_Seen_take.2.1 13 = .ok (.aload_n 0, 1) := by decide +kernel
theorem d_Seen_take_14 : decode M_Seen_take.2.1 14 = .ok (.getfield 9, 3) := by decide +kernel
theorem d_Seen_take_17 : decode M_Seen_take.2.1 17 = .ok (.iconst 0, 1) := by decide +kernel
theorem d_Seen_take_18 : decode M_Seen_take.2.1 18 = .ok (.bipush 8, 2) := by decide +kernel
theorem d_Seen_take_20 : decode M_Seen_take.2.1 20 = .ok (.invokestatic 22, 3) := by decide +kernel
theorem d_Seen_take_23 : decode M_Seen_take.2.1 23 = .ok (.aload_n 1, 1) := by decide +kernel
theorem d_Seen_take_24 : decode M_Seen_take.2.1 24 = .ok (.getfield 15, 3) := by decide +kernel
theorem d_Seen_take_27 : decode M_Seen_take.2.1 27 = .ok (.iconst 0, 1) := by decide +kernel
theorem d_Seen_take_28 : decode M_Seen_take.2.1 28 = .ok (.aload_n 0, 1) := by decide +kernel
theorem d_Seen_take_29 : decode M_Seen_take.2.1 29 = .ok (.getfield 15, 3) := by decide +kernel
theorem d_Seen_take_32 : decode M_Seen_take.2.1 32 = .ok (.iconst 0, 1) := by decide +kernel
theorem d_Seen_take_33 : decode M_Seen_take.2.1 33 = .ok (.bipush 8, 2) := by decide +kernel
theorem d_Seen_take_35 : decode M_Seen_take.2.1 35 = .ok (.invokestatic 22, 3) := by decide +kernel
theorem d_Seen_take_38 : decode M_Seen_take.2.1 38 = .ok (.return_, 1) := by decide +kernel
theorem d_Seen_add_0 : decode M_Seen_add.2.1 0 = .ok (.aload_n 0, 1) := by decide +kernel
theorem d_Seen_add_1 : decode M_Seen_add.2.1 1 = .ok (.getfield 18, 3) := by decide +kernel
theorem d_Seen_add_4 : decode M_Seen_add.2.1 4 = .ok (.bipush 8, 2) := by decide +kernel
theorem d_Seen_add_6 : decode M_Seen_add.2.1 6 = .ok (.if_icmp .ge 41, 3) := by decide +kernel
theorem d_Seen_add_9 : decode M_Seen_add.2.1 9 = .ok (.aload_n 0, 1) := by decide +kernel
theorem d_Seen_add_10 : decode M_Seen_add.2.1 10 = .ok (.getfield 9, 3) := by decide +kernel
theorem d_Seen_add_13 : decode M_Seen_add.2.1 13 = .ok (.aload_n 0, 1) := by decide +kernel
theorem d_Seen_add_14 : decode M_Seen_add.2.1 14 = .ok (.getfield 18, 3) := by decide +kernel
theorem d_Seen_add_17 : decode M_Seen_add.2.1 17 = .ok (.iload_n 1, 1) := by decide +kernel
theorem d_Seen_add_18 : decode M_Seen_add.2.1 18 = .ok (.iastore, 1) := by decide +kernel
theorem d_Seen_add_19 : decode M_Seen_add.2.1 19 = .ok (.aload_n 0, 1) := by decide +kernel
theorem d_Seen_add_20 : decode M_Seen_add.2.1 20 = .ok (.getfield 15, 3) := by decide +kernel
theorem d_Seen_add_23 : decode M_Seen_add.2.1 23 = .ok (.aload_n 0, 1) := by decide +kernel
theorem d_Seen_add_24 : decode M_Seen_add.2.1 24 = .ok (.getfield 18, 3) := by decide +kernel
theorem d_Seen_add_27 : decode M_Seen_add.2.1 27 = .ok (.iload_n 2, 1) := by decide +kernel
theorem d_Seen_add_28 : decode M_Seen_add.2.1 28 = .ok (.ifCond .eq 7, 3) := by decide +kernel
theorem d_Seen_add_31 : decode M_Seen_add.2.1 31 = .ok (.iconst 1, 1) := by decide +kernel
theorem d_Seen_add_32 : decode M_Seen_add.2.1 32 = .ok (.goto 4, 3) := by decide +kernel
theorem d_Seen_add_35 : decode M_Seen_add.2.1 35 = .ok (.iconst 0, 1) := by decide +kernel
theorem d_Seen_add_36 : decode M_Seen_add.2.1 36 = .ok (.iastore, 1) := by decide +kernel
theorem d_Seen_add_37 : decode M_Seen_add.2.1 37 = .ok (.aload_n 0, 1) := by decide +kernel
theorem d_Seen_add_38 : decode M_Seen_add.2.1 38 = .ok (.dup, 1) := by decide +kernel
theorem d_Seen_add_39 : decode M_Seen_add.2.1 39 = .ok (.getfield 18, 3) := by decide +kernel
theorem d_Seen_add_42 : decode M_Seen_add.2.1 42 = .ok (.iconst 1, 1) := by decide +kernel
theorem d_Seen_add_43 : decode M_Seen_add.2.1 43 = .ok (.iadd, 1) := by decide +kernel
theorem d_Seen_add_44 : decode M_Seen_add.2.1 44 = .ok (.putfield 18, 3) := by decide +kernel
theorem d_Seen_add_47 : decode M_Seen_add.2.1 47 = .ok (.return_, 1) := by decide +kernel
theorem d_Seen_wouldBeSo_0 : decode M_Seen_wouldBeSo.2.1 0 = .ok (.aload_n 1, 1) := by decide +kernel
theorem d_Seen_wouldBeSo_1 : decode M_Seen_wouldBeSo.2.1 1 = .ok (.invokevirtual 38, 3) := by decide +kernel
theorem d_Seen_wouldBeSo_4 : decode M_Seen_wouldBeSo.2.1 4 = .ok (.iload_n 2, 1) := by decide +kernel
theorem d_Seen_wouldBeSo_5 : decode M_Seen_wouldBeSo.2.1 5 = .ok (.iconst (-1), 1) := by decide +kernel
theorem d_Seen_wouldBeSo_6 : decode M_Seen_wouldBeSo.2.1 6 = .ok (.ixor, 1) := by decide +kernel
theorem d_Seen_wouldBeSo_7 : decode M_Seen_wouldBeSo.2.1 7 = .ok (.iand, 1) := by decide +kernel
theorem d_Seen_wouldBeSo_8 : decode M_Seen_wouldBeSo.2.1 8 = .ok (.istore_n 3, 1) := by decide +kernel
theorem d_Seen_wouldBeSo_9 : decode M_Seen_wouldBeSo.2.1 9 = .ok (.iconst 0, 1) := by decide +kernel
theorem d_Seen_wouldBeSo_10 : decode M_Seen_wouldBeSo.2.1 10 = .ok (.istore 4, 2) := by decide +kernel
theorem d_Seen_wouldBeSo_12 : decode M_Seen_wouldBeSo.2.1 12 = .ok (.iload 4, 2) := by decide +kernel
theorem d_Seen_wouldBeSo_14 : decode M_Seen_wouldBeSo.2.1 14 = .ok (.aload_n 0, 1) := by decide +kernel
theorem d_Seen_wouldBeSo_15 : decode M_Seen_wouldBeSo.2.1 15 = .ok (.getfield 18, 3) := by decide +kernel
theorem d_Seen_wouldBeSo_18 : decode M_Seen_wouldBeSo.2.1 18 = .ok (.if_icmp .ge 32, 3) := by decide +kernel
theorem d_Seen_wouldBeSo_21 : decode M_Seen_wouldBeSo.2.1 21 = .ok (.iload_n 3, 1) := by decide +kernel
theorem d_Seen_wouldBeSo_22 : decode M_Seen_wouldBeSo.2.1 22 = .ok (.aload_n 0, 1) := by decide +kernel
theorem d_Seen_wouldBeSo_23 : decode M_Seen_wouldBeSo.2.1 23 = .ok (.getfield 9, 3) := by decide +kernel
theorem d_Seen_wouldBeSo_26 : decode M_Seen_wouldBeSo.2.1 26 = .ok (.iload 4, 2) := by decide +kernel
theorem d_Seen_wouldBeSo_28 : decode M_Seen_wouldBeSo.2.1 28 = .ok (.iaload, 1) := by decide +kernel
theorem d_Seen_wouldBeSo_29 : decode M_Seen_wouldBeSo.2.1 29 = .ok (.iushr, 1) := by decide +kernel
theorem d_Seen_wouldBeSo_30 : decode M_Seen_wouldBeSo.2.1 30 = .ok (.iconst 1, 1) := by decide +kernel
theorem d_Seen_wouldBeSo_31 : decode M_Seen_wouldBeSo.2.1 31 = .ok (.iand, 1) := by decide +kernel
theorem d_Seen_wouldBeSo_32 : decode M_Seen_wouldBeSo.2.1 32 = .ok (.aload_n 0, 1) := by decide +kernel
theorem d_Seen_wouldBeSo_33 : decode M_Seen_wouldBeSo.2.1 33 = .ok (.getfield 15, 3) := by decide +kernel
theorem d_Seen_wouldBeSo_36 : decode M_Seen_wouldBeSo.2.1 36 = .ok (.iload 4, 2) := by decide +kernel
theorem d_Seen_wouldBeSo_38 : decode M_Seen_wouldBeSo.2.1 38 = .ok (.iaload, 1) := by decide +kernel
theorem d_Seen_wouldBeSo_39 : decode M_Seen_wouldBeSo.2.1 39 = .ok (.if_icmp .eq 5, 3) := by decide +kernel
theorem d_Seen_wouldBeSo_42 : decode M_Seen_wouldBeSo.2.1 42 = .ok (.iconst 0, 1) := by decide +kernel
theorem d_Seen_wouldBeSo_43 : decode M_Seen_wouldBeSo.2.1 43 = .ok (.ireturn, 1) := by decide +kernel
theorem d_Seen_wouldBeSo_44 : decode M_Seen_wouldBeSo.2.1 44 = .ok (.iinc 4 1, 3) := by decide +kernel
theorem d_Seen_wouldBeSo_47 : decode M_Seen_wouldBeSo.2.1 47 = .ok (.goto (-35), 3) := by decide +kernel
theorem d_Seen_wouldBeSo_50 : decode M_Seen_wouldBeSo.2.1 50 = .ok (.iconst 1, 1) := by decide +kernel
theorem d_Seen_wouldBeSo_51 : decode M_Seen_wouldBeSo.2.1 51 = .ok (.ireturn, 1) := by decide +kernel
theorem d_Seen_waysToEat_0 : decode M_Seen_waysToEat.2.1 0 = .ok (.iconst 0, 1) := by decide +kernel
theorem d_Seen_waysToEat_1 : decode M_Seen_waysToEat.2.1 1 = .ok (.istore_n 3, 1) := by decide +kernel
theorem d_Seen_waysToEat_2 : decode M_Seen_waysToEat.2.1 2 = .ok (.iconst 0, 1) := by decide +kernel
theorem d_Seen_waysToEat_3 : decode M_Seen_waysToEat.2.1 3 = .ok (.istore 4, 2) := by decide +kernel
theorem d_Seen_waysToEat_5 : decode M_Seen_waysToEat.2.1 5 = .ok (.iload 4, 2) := by decide +kernel
theorem d_Seen_waysToEat_7 : decode M_Seen_waysToEat.2.1 7 = .ok (.bipush 20, 2) := by decide +kernel
theorem d_Seen_waysToEat_9 : decode M_Seen_waysToEat.2.1 9 = .ok (.if_icmp .gt 46, 3) := by decide +kernel
theorem d_Seen_waysToEat_12 : decode M_Seen_waysToEat.2.1 12 = .ok (.iload 4, 2) := by decide +kernel
theorem d_Seen_waysToEat_14 : decode M_Seen_waysToEat.2.1 14 = .ok (.istore 5, 2) := by decide +kernel
theorem d_Seen_waysToEat_16 : decode M_Seen_waysToEat.2.1 16 = .ok (.iload 5, 2) := by decide +kernel
theorem d_Seen_waysToEat_18 : decode M_Seen_waysToEat.2.1 18 = .ok (.bipush 20, 2) := by decide +kernel
theorem d_Seen_waysToEat_20 : decode M_Seen_waysToEat.2.1 20 = .ok (.if_icmp .gt 29, 3) := by decide +kernel
theorem d_Seen_waysToEat_23 : decode M_Seen_waysToEat.2.1 23 = .ok (.aload_n 0, 1) := by decide +kernel
theorem d_Seen_waysToEat_24 : decode M_Seen_waysToEat.2.1 24 = .ok (.aload_n 1, 1) := by decide +kernel
theorem d_Seen_waysToEat_25 : decode M_Seen_waysToEat.2.1 25 = .ok (.aload_n 1, 1) := by decide +kernel
theorem d_Seen_waysToEat_26 : decode M_Seen_waysToEat.2.1 26 = .ok (.iload_n 2, 1) := by decide +kernel
theorem d_Seen_waysToEat_27 : decode M_Seen_waysToEat.2.1 27 = .ok (.iload 4, 2) := by decide +kernel
theorem d_Seen_waysToEat_29 : decode M_Seen_waysToEat.2.1 29 = .ok (.iload 5, 2) := by decide +kernel
theorem d_Seen_waysToEat_31 : decode M_Seen_waysToEat.2.1 31 = .ok (.invokevirtual 28, 3) := by decide +kernel
theorem d_Seen_waysToEat_34 : decode M_Seen_waysToEat.2.1 34 = .ok (.invokevirtual 34, 3) := by decide +kernel
theorem d_Seen_waysToEat_37 : decode M_Seen_waysToEat.2.1 37 = .ok (.ifCond .eq 6, 3) := by decide +kernel
theorem d_Seen_waysToEat_40 : decode M_Seen_waysToEat.2.1 40 = .ok (.iinc 3 1, 3) := by decide +kernel
theorem d_Seen_waysToEat_43 : decode M_Seen_waysToEat.2.1 43 = .ok (.iinc 5 1, 3) := by decide +kernel
theorem d_Seen_waysToEat_46 : decode M_Seen_waysToEat.2.1 46 = .ok (.goto (-30), 3) := by decide +kernel
theorem d_Seen_waysToEat_49 : decode M_Seen_waysToEat.2.1 49 = .ok (.iinc 4 1, 3) := by decide +kernel
theorem d_Seen_waysToEat_52 : decode M_Seen_waysToEat.2.1 52 = .ok (.goto (-47), 3) := by decide +kernel
theorem d_Seen_waysToEat_55 : decode M_Seen_waysToEat.2.1 55 = .ok (.iload_n 3, 1) := by decide +kernel
theorem d_Seen_waysToEat_56 : decode M_Seen_waysToEat.2.1 56 = .ok (.ireturn, 1) := by decide +kernel
theorem d_Seen_firstToEat_0 : decode M_Seen_firstToEat.2.1 0 = .ok (.iconst 0, 1) := by decide +kernel
theorem d_Seen_firstToEat_1 : decode M_Seen_firstToEat.2.1 1 = .ok (.istore_n 3, 1) := by decide +kernel
theorem d_Seen_firstToEat_2 : decode M_Seen_firstToEat.2.1 2 = .ok (.iload_n 3, 1) := by decide +kernel
theorem d_Seen_firstToEat_3 : decode M_Seen_firstToEat.2.1 3 = .ok (.bipush 20, 2) := by decide +kernel
theorem d_Seen_firstToEat_5 : decode M_Seen_firstToEat.2.1 5 = .ok (.if_icmp .gt 49, 3) := by decide +kernel
theorem d_Seen_firstToEat_8 : decode M_Seen_firstToEat.2.1 8 = .ok (.iload_n 3, 1) := by decide +kernel
theorem d_Seen_firstToEat_9 : decode M_Seen_firstToEat.2.1 9 = .ok (.istore 4, 2) := by decide +kernel
theorem d_Seen_firstToEat_11 : decode M_Seen_firstToEat.2.1 11 = .ok (.iload 4, 2) := by decide +kernel
theorem d_Seen_firstToEat_13 : decode M_Seen_firstToEat.2.1 13 = .ok (.bipush 20, 2) := by decide +kernel
theorem d_Seen_firstToEat_15 : decode M_Seen_firstToEat.2.1 15 = .ok (.if_icmp .gt 33, 3) := by decide +kernel
theorem d_Seen_firstToEat_18 : decode M_Seen_firstToEat.2.1 18 = .ok (.aload_n 0, 1) := by decide +kernel
theorem d_Seen_firstToEat_19 : decode M_Seen_firstToEat.2.1 19 = .ok (.aload_n 1, 1) := by decide +kernel
theorem d_Seen_firstToEat_20 : decode M_Seen_firstToEat.2.1 20 = .ok (.aload_n 1, 1) := by decide +kernel
theorem d_Seen_firstToEat_21 : decode M_Seen_firstToEat.2.1 21 = .ok (.iload_n 2, 1) := by decide +kernel
theorem d_Seen_firstToEat_22 : decode M_Seen_firstToEat.2.1 22 = .ok (.iload_n 3, 1) := by decide +kernel
theorem d_Seen_firstToEat_23 : decode M_Seen_firstToEat.2.1 23 = .ok (.iload 4, 2) := by decide +kernel
theorem d_Seen_firstToEat_25 : decode M_Seen_firstToEat.2.1 25 = .ok (.invokevirtual 28, 3) := by decide +kernel
theorem d_Seen_firstToEat_28 : decode M_Seen_firstToEat.2.1 28 = .ok (.invokevirtual 34, 3) := by decide +kernel
theorem d_Seen_firstToEat_31 : decode M_Seen_firstToEat.2.1 31 = .ok (.ifCond .eq 11, 3) := by decide +kernel
theorem d_Seen_firstToEat_34 : decode M_Seen_firstToEat.2.1 34 = .ok (.bipush 100, 2) := by decide +kernel
theorem d_Seen_firstToEat_36 : decode M_Seen_firstToEat.2.1 36 = .ok (.iload_n 3, 1) := by decide +kernel
theorem d_Seen_firstToEat_37 : decode M_Seen_firstToEat.2.1 37 = .ok (.imul, 1) := by decide +kernel
theorem d_Seen_firstToEat_38 : decode M_Seen_firstToEat.2.1 38 = .ok (.iload 4, 2) := by decide +kernel
theorem d_Seen_firstToEat_40 : decode M_Seen_firstToEat.2.1 40 = .ok (.iadd, 1) := by decide +kernel
theorem d_Seen_firstToEat_41 : decode M_Seen_firstToEat.2.1 41 = .ok (.ireturn, 1) := by decide +kernel
theorem d_Seen_firstToEat_42 : decode M_Seen_firstToEat.2.1 42 = .ok (.iinc 4 1, 3) := by decide +kernel
theorem d_Seen_firstToEat_45 : decode M_Seen_firstToEat.2.1 45 = .ok (.goto (-34), 3) := by decide +kernel
theorem d_Seen_firstToEat_48 : decode M_Seen_firstToEat.2.1 48 = .ok (.iinc 3 1, 3) := by decide +kernel
theorem d_Seen_firstToEat_51 : decode M_Seen_firstToEat.2.1 51 = .ok (.goto (-49), 3) := by decide +kernel
theorem d_Seen_firstToEat_54 : decode M_Seen_firstToEat.2.1 54 = .ok (.iconst (-1), 1) := by decide +kernel
theorem d_Seen_firstToEat_55 : decode M_Seen_firstToEat.2.1 55 = .ok (.ireturn, 1) := by decide +kernel

/-! decode rows of 22.hair (by program) -/
theorem d_Hair_begin_0 : decode M_Hair_begin.2.1 0 = .ok (.aload_n 0, 1) := by decide +kernel
theorem d_Hair_begin_1 : decode M_Hair_begin.2.1 1 = .ok (.iconst 0, 1) := by decide +kernel
theorem d_Hair_begin_2 : decode M_Hair_begin.2.1 2 = .ok (.putfield 22, 3) := by decide +kernel
theorem d_Hair_begin_5 : decode M_Hair_begin.2.1 5 = .ok (.aload_n 0, 1) := by decide +kernel
theorem d_Hair_begin_6 : decode M_Hair_begin.2.1 6 = .ok (.iconst 0, 1) := by decide +kernel
theorem d_Hair_begin_7 : decode M_Hair_begin.2.1 7 = .ok (.putfield 26, 3) := by decide +kernel
theorem d_Hair_begin_10 : decode M_Hair_begin.2.1 10 = .ok (.aload_n 0, 1) := by decide +kernel
theorem d_Hair_begin_11 : decode M_Hair_begin.2.1 11 = .ok (.iconst 0, 1) := by decide +kernel
theorem d_Hair_begin_12 : decode M_Hair_begin.2.1 12 = .ok (.putfield 29, 3) := by decide +kernel
theorem d_Hair_begin_15 : decode M_Hair_begin.2.1 15 = .ok (.aload_n 0, 1) := by decide +kernel
theorem d_Hair_begin_16 : decode M_Hair_begin.2.1 16 = .ok (.iconst 0, 1) := by decide +kernel
theorem d_Hair_begin_17 : decode M_Hair_begin.2.1 17 = .ok (.putfield 32, 3) := by decide +kernel
theorem d_Hair_begin_20 : decode M_Hair_begin.2.1 20 = .ok (.aload_n 0, 1) := by decide +kernel
theorem d_Hair_begin_21 : decode M_Hair_begin.2.1 21 = .ok (.getfield 9, 3) := by decide +kernel
theorem d_Hair_begin_24 : decode M_Hair_begin.2.1 24 = .ok (.iconst 0, 1) := by decide +kernel
theorem d_Hair_begin_25 : decode M_Hair_begin.2.1 25 = .ok (.invokestatic 35, 3) := by decide +kernel
theorem d_Hair_begin_28 : decode M_Hair_begin.2.1 28 = .ok (.aload_n 0, 1) := by decide +kernel
theorem d_Hair_begin_29 : decode M_Hair_begin.2.1 29 = .ok (.getfield 15, 3) := by decide +kernel
theorem d_Hair_begin_32 : decode M_Hair_begin.2.1 32 = .ok (.iconst (-1), 1) := by decide +kernel
theorem d_Hair_begin_33 : decode M_Hair_begin.2.1 33 = .ok (.invokestatic 35, 3) := by decide +kernel
theorem d_Hair_begin_36 : decode M_Hair_begin.2.1 36 = .ok (.return_, 1) := by decide +kernel
theorem d_Hair_take_0 : decode M_Hair_take.2.1 0 = .ok (.aload_n 0, 1) := by decide +kernel
theorem d_Hair_take_1 : decode M_Hair_take.2.1 1 = .ok (.aload_n 1, 1) := by decide +kernel
theorem d_Hair_take_2 : decode M_Hair_take.2.1 2 = .ok (.getfield 22, 3) := by decide +kernel
theorem d_Hair_take_5 : decode M_Hair_take.2.1 5 = .ok (.putfield 22, 3) := by decide +kernel
theorem d_Hair_take_8 : decode M_Hair_take.2.1 8 = .ok (.aload_n 0, 1) := by decide +kernel
theorem d_Hair_take_9 : decode M_Hair_take.2.1 9 = .ok (.aload_n 1, 1) := by decide +kernel
theorem d_Hair_take_10 : decode M_Hair_take.2.1 10 = .ok (.getfield 26, 3) := by decide +kernel
theorem d_Hair_take_13 : decode M_Hair_take.2.1 13 = .ok (.putfield 26, 3) := by decide +kernel
theorem d_Hair_take_16 : decode M_Hair_take.2.1 16 = .ok (.aload_n 0, 1) := by decide +kernel
theorem d_Hair_take_17 : decode M_Hair_take.2.1 17 = .ok (.aload_n 1, 1) := by decide +kernel
theorem d_Hair_take_18 : decode M_Hair_take.2.1 18 = .ok (.getfield 29, 3) := by decide +kernel
theorem d_Hair_take_21 : decode M_Hair_take.2.1 21 = .ok (.putfield 29, 3) := by decide +kernel
theorem d_Hair_take_24 : decode M_Hair_take.2.1 24 = .ok (.aload_n 0, 1) := by decide +kernel
theorem d_Hair_take_25 : decode M_Hair_take.2.1 25 = .ok (.aload_n 1, 1) := by decide +kernel
theorem d_Hair_take_26 : decode M_Hair_take.2.1 26 = .ok (.getfield 32, 3) := by decide +kernel
theorem d_Hair_take_29 : decode M_Hair_take.2.1 29 = .ok (.putfield 32, 3) := by decide +kernel
theorem d_Hair_take_32 : decode M_Hair_take.2.1 32 = .ok (.aload_n 1, 1) := by decide +kernel
theorem d_Hair_take_33 : decode M_Hair_take.2.1 33 = .ok (.getfield 9, 3) := by decide +kernel
theorem d_Hair_take_36 : decode M_Hair_take.2.1 36 = .ok (.iconst 0, 1) := by decide +kernel
theorem d_Hair_take_37 : decode M_Hair_take.2.1 37 = .ok (.aload_n 0, 1) := by decide +kernel
theorem d_Hair_take_38 : decode M_Hair_take.2.1 38 = .ok (.getfield 9, 3) := by decide +kernel
theorem d_Hair_take_41 : decode M_Hair_take.2.1 41 = .ok (.iconst 0, 1) := by decide +kernel
theorem d_Hair_take_42 : decode M_Hair_take.2.1 42 = .ok (.bipush 6, 2) := by decide +kernel
theorem d_Hair_take_44 : decode M_Hair_take.2.1 44 = .ok (.invokestatic 41, 3) := by decide +kernel
theorem d_Hair_take_47 : decode M_Hair_take.2.1 47 = .ok (.aload_n 1, 1) := by decide +kernel
theorem d_Hair_take_48 : decode M_Hair_take.2.1 48 = .ok (.getfield 15, 3) := by decide +kernel
theorem d_Hair_take_51 : decode M_Hair_take.2.1 51 = .ok (.iconst 0, 1) := by decide +kernel
theorem d_Hair_take_52 : decode M_Hair_take.2.1 52 = .ok (.aload_n 0, 1) := by decide +kernel
theorem d_Hair_take_53 : decode M_Hair_take.2.1 53 = .ok (.getfield 15, 3) := by decide +kernel
theorem d_Hair_take_56 : decode M_Hair_take.2.1 56 = .ok (.iconst 0, 1) := by decide +kernel
theorem d_Hair_take_57 : decode M_Hair_take.2.1 57 = .ok (.bipush 6, 2) := by decide +kernel
theorem d_Hair_take_59 : decode M_Hair_take.2.1 59 = .ok (.invokestatic 41, 3) := by decide +kernel
theorem d_Hair_take_62 : decode M_Hair_take.2.1 62 = .ok (.return_, 1) := by decide +kernel
theorem d_Hair_writeTo_0 : decode M_Hair_writeTo.2.1 0 = .ok (.aload_n 1, 1) := by decide +kernel
theorem d_Hair_writeTo_1 : decode M_Hair_writeTo.2.1 1 = .ok (.iload_n 2, 1) := by decide +kernel
theorem d_Hair_writeTo_2 : decode M_Hair_writeTo.2.1 2 = .ok (.aload_n 0, 1) := by decide +kernel
theorem d_Hair_writeTo_3 : decode M_Hair_writeTo.2.1 3 = .ok (.getfield 22, 3) := by decide +kernel
theorem d_Hair_writeTo_6 : decode M_Hair_writeTo.2.1 6 = .ok (.iastore, 1) := by decide +kernel
theorem d_Hair_writeTo_7 : decode M_Hair_writeTo.2.1 7 = .ok (.aload_n 1, 1) := by decide +kernel
theorem d_Hair_writeTo_8 : decode M_Hair_writeTo.2.1 8 = .ok (.iload_n 2, 1) := by decide +kernel
theorem d_Hair_writeTo_9 : decode M_Hair_writeTo.2.1 9 = .ok (.iconst 1, 1) := by decide +kernel
theorem d_Hair_writeTo_10 : decode M_Hair_writeTo.2.1 10 = .ok (.iadd, 1) := by decide +kernel
theorem d_Hair_writeTo_11 : decode M_Hair_writeTo.2.1 11 = .ok (.aload_n 0, 1) := by decide +kernel
theorem d_Hair_writeTo_12 : decode M_Hair_writeTo.2.1 12 = .ok (.getfield 26, 3) := by decide +kernel
theorem d_Hair_writeTo_15 : decode M_Hair_writeTo.2.1 15 = .ok (.iastore, 1) := by decide +kernel
theorem d_Hair_writeTo_16 : decode M_Hair_writeTo.2.1 16 = .ok (.aload_n 1, 1) := by decide +kernel
theorem d_Hair_writeTo_17 : decode M_Hair_writeTo.2.1 17 = .ok (.iload_n 2, 1) := by decide +kernel
theorem d_Hair_writeTo_18 : decode M_Hair_writeTo.2.1 18 = .ok (.iconst 2, 1) := by decide +kernel
theorem d_Hair_writeTo_19 : decode M_Hair_writeTo.2.1 19 = .ok (.iadd, 1) := by decide +kernel
theorem d_Hair_writeTo_20 : decode M_Hair_writeTo.2.1 20 = .ok (.aload_n 0, 1) := by decide +kernel
theorem d_Hair_writeTo_21 : decode M_Hair_writeTo.2.1 21 = .ok (.getfield 29, 3) := by decide +kernel
theorem d_Hair_writeTo_24 : decode M_Hair_writeTo.2.1 24 = .ok (.iastore, 1) := by decide +kernel
theorem d_Hair_writeTo_25 : decode M_Hair_writeTo.2.1 25 = .ok (.aload_n 1, 1) := by decide +kernel
theorem d_Hair_writeTo_26 : decode M_Hair_writeTo.2.1 26 = .ok (.iload_n 2, 1) := by decide +kernel
theorem d_Hair_writeTo_27 : decode M_Hair_writeTo.2.1 27 = .ok (.iconst 3, 1) := by decide +kernel
theorem d_Hair_writeTo_28 : decode M_Hair_writeTo.2.1 28 = .ok (.iadd, 1) := by decide +kernel
theorem d_Hair_writeTo_29 : decode M_Hair_writeTo.2.1 29 = .ok (.aload_n 0, 1) := by decide +kernel
theorem d_Hair_writeTo_30 : decode M_Hair_writeTo.2.1 30 = .ok (.getfield 32, 3) := by decide +kernel
theorem d_Hair_writeTo_33 : decode M_Hair_writeTo.2.1 33 = .ok (.iastore, 1) := by decide +kernel
theorem d_Hair_writeTo_34 : decode M_Hair_writeTo.2.1 34 = .ok (.aload_n 0, 1) := by decide +kernel
theorem d_Hair_writeTo_35 : decode M_Hair_writeTo.2.1 35 = .ok (.getfield 9, 3) := by decide +kernel
theorem d_Hair_writeTo_38 : decode M_Hair_writeTo.2.1 38 = .ok (.iconst 0, 1) := by decide +kernel
theorem d_Hair_writeTo_39 : decode M_Hair_writeTo.2.1 39 = .ok (.aload_n 1, 1) := by decide +kernel
theorem d_Hair_writeTo_40 : decode M_Hair_writeTo.2.1 40 = .ok (.iload_n 2, 1) := by decide +kernel
theorem d_Hair_writeTo_41 : decode M_Hair_writeTo.2.1 41 = .ok (.iconst 4, 1) := by decide +kernel
theorem d_Hair_writeTo_42 : decode M_Hair_writeTo.2.1 42 = .ok (.iadd, 1) := by decide +kernel
theorem d_Hair_writeTo_43 : decode M_Hair_writeTo.2.1 43 = .ok (.bipush 6, 2) := by decide +kernel
theorem d_Hair_writeTo_45 : decode M_Hair_writeTo.2.1 45 = .ok (.invokestatic 41, 3) := by decide +kernel
theorem d_Hair_writeTo_48 : decode M_Hair_writeTo.2.1 48 = .ok (.aload_n 0, 1) := by decide +kernel
theorem d_Hair_writeTo_49 : decode M_Hair_writeTo.2.1 49 = .ok (.getfield 15, 3) := by decide +kernel
theorem d_Hair_writeTo_52 : decode M_Hair_writeTo.2.1 52 = .ok (.iconst 0, 1) := by decide +kernel
theorem d_Hair_writeTo_53 : decode M_Hair_writeTo.2.1 53 = .ok (.aload_n 1, 1) := by decide +kernel
theorem d_Hair_writeTo_54 : decode M_Hair_writeTo.2.1 54 = .ok (.iload_n 2, 1) := by decide +kernel
theorem d_Hair_writeTo_55 : decode M_Hair_writeTo.2.1 55 = .ok (.iconst 4, 1) := by decide +kernel
theorem d_Hair_writeTo_56 : decode M_Hair_writeTo.2.1 56 = .ok (.iadd, 1) := by decide +kernel
theorem d_Hair_writeTo_57 : decode M_Hair_writeTo.2.1 57 = .ok (.bipush 6, 2) := by decide +kernel
theorem d_Hair_writeTo_59 : decode M_Hair_writeTo.2.1 59 = .ok (.iadd, 1) := by decide +kernel
theorem d_Hair_writeTo_60 : decode M_Hair_writeTo.2.1 60 = .ok (.bipush 6, 2) := by decide +kernel
theorem d_Hair_writeTo_62 : decode M_Hair_writeTo.2.1 62 = .ok (.invokestatic 41, 3) := by decide +kernel
theorem d_Hair_writeTo_65 : decode M_Hair_writeTo.2.1 65 = .ok (.return_, 1) := by decide +kernel
theorem d_Hair_readFrom_0 : decode M_Hair_readFrom.2.1 0 = .ok (.aload_n 0, 1) := by decide +kernel
theorem d_Hair_readFrom_1 : decode M_Hair_readFrom.2.1 1 = .ok (.aload_n 1, 1) := by decide +kernel
theorem d_Hair_readFrom_2 : decode M_Hair_readFrom.2.1 2 = .ok (.iload_n 2, 1) := by decide +kernel
theorem d_Hair_readFrom_3 : decode M_Hair_readFrom.2.1 3 = .ok (.iaload, 1) := by decide +kernel
theorem d_Hair_readFrom_4 : decode M_Hair_readFrom.2.1 4 = .ok (.putfield 22, 3) := by decide +kernel
theorem d_Hair_readFrom_7 : decode M_Hair_readFrom.2.1 7 = .ok (.aload_n 0, 1) := by decide +kernel
theorem d_Hair_readFrom_8 : decode M_Hair_readFrom.2.1 8 = .ok (.aload_n 1, 1) := by decide +kernel
theorem d_Hair_readFrom_9 : decode M_Hair_readFrom.2.1 9 = .ok (.iload_n 2, 1) := by decide +kernel
theorem d_Hair_readFrom_10 : decode M_Hair_readFrom.2.1 10 = .ok (.iconst 1, 1) := by decide +kernel
theorem d_Hair_readFrom_11 : decode M_Hair_readFrom.2.1 11 = .ok (.iadd, 1) := by decide +kernel
theorem d_Hair_readFrom_12 : decode M_Hair_readFrom.2.1 12 = .ok (.iaload, 1) := by decide +kernel
theorem d_Hair_readFrom_13 : decode M_Hair_readFrom.2.1 13 = .ok (.putfield 26, 3) := by decide +kernel
theorem d_Hair_readFrom_16 : decode M_Hair_readFrom.2.1 16 = .ok (.aload_n 0, 1) := by decide +kernel
theorem d_Hair_readFrom_17 : decode M_Hair_readFrom.2.1 17 = .ok (.aload_n 1, 1) := by decide +kernel
theorem d_Hair_readFrom_18 : decode M_Hair_readFrom.2.1 18 = .ok (.iload_n 2, 1) := by decide +kernel
theorem d_Hair_readFrom_19 : decode M_Hair_readFrom.2.1 19 = .ok (.iconst 2, 1) := by decide +kernel
theorem d_Hair_readFrom_20 : decode M_Hair_readFrom.2.1 20 = .ok (.iadd, 1) := by decide +kernel
theorem d_Hair_readFrom_21 : decode M_Hair_readFrom.2.1 21 = .ok (.iaload, 1) := by decide +kernel
theorem d_Hair_readFrom_22 : decode M_Hair_readFrom.2.1 22 = .ok (.putfield 29, 3) := by decide +kernel
theorem d_Hair_readFrom_25 : decode M_Hair_readFrom.2.1 25 = .ok (.aload_n 0, 1) := by decide +kernel
theorem d_Hair_readFrom_26 : decode M_Hair_readFrom.2.1 26 = .ok (.aload_n 1, 1) := by decide +kernel
theorem d_Hair_readFrom_27 : decode M_Hair_readFrom.2.1 27 = .ok (.iload_n 2, 1) := by decide +kernel
theorem d_Hair_readFrom_28 : decode M_Hair_readFrom.2.1 28 = .ok (.iconst 3, 1) := by decide +kernel
theorem d_Hair_readFrom_29 : decode M_Hair_readFrom.2.1 29 = .ok (.iadd, 1) := by decide +kernel
theorem d_Hair_readFrom_30 : decode M_Hair_readFrom.2.1 30 = .ok (.iaload, 1) := by decide +kernel
theorem d_Hair_readFrom_31 : decode M_Hair_readFrom.2.1 31 = .ok (.putfield 32, 3) := by decide +kernel
theorem d_Hair_readFrom_34 : decode M_Hair_readFrom.2.1 34 = .ok (.aload_n 1, 1) := by decide +kernel
theorem d_Hair_readFrom_35 : decode M_Hair_readFrom.2.1 35 = .ok (.iload_n 2, 1) := by decide +kernel
theorem d_Hair_readFrom_36 : decode M_Hair_readFrom.2.1 36 = .ok (.iconst 4, 1) := by decide +kernel
theorem d_Hair_readFrom_37 : decode M_Hair_readFrom.2.1 37 = .ok (.iadd, 1) := by decide +kernel
theorem d_Hair_readFrom_38 : decode M_Hair_readFrom.2.1 38 = .ok (.aload_n 0, 1) := by decide +kernel
theorem d_Hair_readFrom_39 : decode M_Hair_readFrom.2.1 39 = .ok (.getfield 9, 3) := by decide +kernel
theorem d_Hair_readFrom_42 : decode M_Hair_readFrom.2.1 42 = .ok (.iconst 0, 1) := by decide +kernel
theorem d_Hair_readFrom_43 : decode M_Hair_readFrom.2.1 43 = .ok (.bipush 6, 2) := by decide +kernel
theorem d_Hair_readFrom_45 : decode M_Hair_readFrom.2.1 45 = .ok (.invokestatic 41, 3) := by decide +kernel
theorem d_Hair_readFrom_48 : decode M_Hair_readFrom.2.1 48 = .ok (.aload_n 1, 1) := by decide +kernel
theorem d_Hair_readFrom_49 : decode M_Hair_readFrom.2.1 49 = .ok (.iload_n 2, 1) := by decide +kernel
theorem d_Hair_readFrom_50 : decode M_Hair_readFrom.2.1 50 = .ok (.iconst 4, 1) := by decide +kernel
theorem d_Hair_readFrom_51 : decode M_Hair_readFrom.2.1 51 = .ok (.iadd, 1) := by decide +kernel
theorem d_Hair_readFrom_52 : decode M_Hair_readFrom.2.1 52 = .ok (.bipush 6, 2) := by decide +kernel
theorem d_Hair_readFrom_54 : decode M_Hair_readFrom.2.1 54 = .ok (.iadd, 1) := by decide +kernel
theorem d_Hair_readFrom_55 : decode M_Hair_readFrom.2.1 55 = .ok (.aload_n 0, 1) := by decide +kernel
theorem d_Hair_readFrom_56 : decode M_Hair_readFrom.2.1 56 = .ok (.getfield 15, 3) := by decide +kernel
theorem d_Hair_readFrom_59 : decode M_Hair_readFrom.2.1 59 = .ok (.iconst 0, 1) := by decide +kernel
theorem d_Hair_readFrom_60 : decode M_Hair_readFrom.2.1 60 = .ok (.bipush 6, 2) := by decide +kernel
theorem d_Hair_readFrom_62 : decode M_Hair_readFrom.2.1 62 = .ok (.invokestatic 41, 3) := by decide +kernel
theorem d_Hair_readFrom_65 : decode M_Hair_readFrom.2.1 65 = .ok (.return_, 1) := by decide +kernel
theorem d_Hair_isDead_0 : decode M_Hair_isDead.2.1 0 = .ok (.aload_n 0, 1) := by decide +kernel
theorem d_Hair_isDead_1 : decode M_Hair_isDead.2.1 1 = .ok (.getfield 15, 3) := by decide +kernel
theorem d_Hair_isDead_4 : decode M_Hair_isDead.2.1 4 = .ok (.iload_n 1, 1) := by decide +kernel
theorem d_Hair_isDead_5 : decode M_Hair_isDead.2.1 5 = .ok (.iaload, 1) := by decide +kernel
theorem d_Hair_isDead_6 : decode M_Hair_isDead.2.1 6 = .ok (.iconst (-1), 1) := by decide +kernel
theorem d_Hair_isDead_7 : decode M_Hair_isDead.2.1 7 = .ok (.if_icmp .eq 7, 3) := by decide +kernel
theorem d_Hair_isDead_10 : decode M_Hair_isDead.2.1 10 = .ok (.iconst 1, 1) := by decide +kernel
theorem d_Hair_isDead_11 : decode M_Hair_isDead.2.1 11 = .ok (.goto 4, 3) := by decide +kernel
theorem d_Hair_isDead_14 : decode M_Hair_isDead.2.1 14 = .ok (.iconst 0, 1) := by decide +kernel
theorem d_Hair_isDead_15 : decode M_Hair_isDead.2.1 15 = .ok (.ireturn, 1) := by decide +kernel
theorem d_Hair_deadOnes_0 : decode M_Hair_deadOnes.2.1 0 = .ok (.iconst 0, 1) := by decide +kernel
theorem d_Hair_deadOnes_1 : decode M_Hair_deadOnes.2.1 1 = .ok (.istore_n 1, 1) := by decide +kernel
theorem d_Hair_deadOnes_2 : decode M_Hair_deadOnes.2.1 2 = .ok (.iconst 0, 1) := by decide +kernel
theorem d_Hair_deadOnes_3 : decode M_Hair_deadOnes.2.1 3 = .ok (.istore_n 2, 1) := by decide +kernel
theorem d_Hair_deadOnes_4 : decode M_Hair_deadOnes.2.1 4 = .ok (.iload_n 2, 1) := by decide +kernel
theorem d_Hair_deadOnes_5 : decode M_Hair_deadOnes.2.1 5 = .ok (.aload_n 0, 1) := by decide +kernel
theorem d_Hair_deadOnes_6 : decode M_Hair_deadOnes.2.1 6 = .ok (.getfield 18, 3) := by decide +kernel
theorem d_Hair_deadOnes_9 : decode M_Hair_deadOnes.2.1 9 = .ok (.getfield 47, 3) := by decide +kernel
theorem d_Hair_deadOnes_12 : decode M_Hair_deadOnes.2.1 12 = .ok (.if_icmp .ge 23, 3) := by decide +kernel
theorem d_Hair_deadOnes_15 : decode M_Hair_deadOnes.2.1 15 = .ok (.aload_n 0, 1) := by decide +kernel
theorem d_Hair_deadOnes_16 : decode M_Hair_deadOnes.2.1 16 = .ok (.iload_n 2, 1) := by decide +kernel
theorem d_Hair_deadOnes_17 : decode M_Hair_deadOnes.2.1 17 = .ok (.invokevirtual 52, 3) := by decide +kernel
theorem d_Hair_deadOnes_20 : decode M_Hair_deadOnes.2.1 20 = .ok (.ifCond .eq 9, 3) := by decide +kernel
theorem d_Hair_deadOnes_23 : decode M_Hair_deadOnes.2.1 23 = .ok (.iload_n 1, 1) := by decide +kernel
theorem d_Hair_deadOnes_24 : decode M_Hair_deadOnes.2.1 24 = .ok (.iconst 1, 1) := by decide +kernel
theorem d_Hair_deadOnes_25 : decode M_Hair_deadOnes.2.1 25 = .ok (.iload_n 2, 1) := by decide +kernel
theorem d_Hair_deadOnes_26 : decode M_Hair_deadOnes.2.1 26 = .ok (.ishl, 1) := by decide +kernel
theorem d_Hair_deadOnes_27 : decode M_Hair_deadOnes.2.1 27 = .ok (.ior, 1) := by decide +kernel
theorem d_Hair_deadOnes_28 : decode M_Hair_deadOnes.2.1 28 = .ok (.istore_n 1, 1) := by decide +kernel
theorem d_Hair_deadOnes_29 : decode M_Hair_deadOnes.2.1 29 = .ok (.iinc 2 1, 3) := by decide +kernel
theorem d_Hair_deadOnes_32 : decode M_Hair_deadOnes.2.1 32 = .ok (.goto (-28), 3) := by decide +kernel
theorem d_Hair_deadOnes_35 : decode M_Hair_deadOnes.2.1 35 = .ok (.iload_n 1, 1) := by decide +kernel
theorem d_Hair_deadOnes_36 : decode M_Hair_deadOnes.2.1 36 = .ok (.ireturn, 1) := by decide +kernel
theorem d_Hair_yearOf_0 : decode M_Hair_yearOf.2.1 0 = .ok (.aload_n 0, 1) := by decide +kernel
theorem d_Hair_yearOf_1 : decode M_Hair_yearOf.2.1 1 = .ok (.getfield 15, 3) := by decide +kernel
theorem d_Hair_yearOf_4 : decode M_Hair_yearOf.2.1 4 = .ok (.iload_n 1, 1) := by decide +kernel
theorem d_Hair_yearOf_5 : decode M_Hair_yearOf.2.1 5 = .ok (.iaload, 1) := by decide +kernel
theorem d_Hair_yearOf_6 : decode M_Hair_yearOf.2.1 6 = .ok (.iconst (-1), 1) := by decide +kernel
theorem d_Hair_yearOf_7 : decode M_Hair_yearOf.2.1 7 = .ok (.if_icmp .ne 10, 3) := by decide +kernel
theorem d_Hair_yearOf_10 : decode M_Hair_yearOf.2.1 10 = .ok (.aload_n 0, 1) := by decide +kernel
theorem d_Hair_yearOf_11 : decode M_Hair_yearOf.2.1 11 = .ok (.getfield 22, 3) := by decide +kernel
theorem d_Hair_yearOf_14 : decode M_Hair_yearOf.2.1 14 = .ok (.goto 9, 3) := by decide +kernel
theorem d_Hair_yearOf_17 : decode M_Hair_yearOf.2.1 17 = .ok (.aload_n 0, 1) := by decide +kernel
theorem d_Hair_yearOf_18 : decode M_Hair_yearOf.2.1 18 = .ok (.getfield 15, 3) := by decide +kernel
theorem d_Hair_yearOf_21 : decode M_Hair_yearOf.2.1 21 = .ok (.iload_n 1, 1) := by decide +kernel
theorem d_Hair_yearOf_22 : decode M_Hair_yearOf.2.1 22 = .ok (.iaload, 1) := by decide +kernel
theorem d_Hair_yearOf_23 : decode M_Hair_yearOf.2.1 23 = .ok (.ireturn, 1) := by decide +kernel
theorem d_Hair_ageOf_0 : decode M_Hair_ageOf.2.1 0 = .ok (.aload_n 0, 1) := by decide +kernel
theorem d_Hair_ageOf_1 : decode M_Hair_ageOf.2.1 1 = .ok (.getfield 18, 3) := by decide +kernel
theorem d_Hair_ageOf_4 : decode M_Hair_ageOf.2.1 4 = .ok (.getfield 56, 3) := by decide +kernel
theorem d_Hair_ageOf_7 : decode M_Hair_ageOf.2.1 7 = .ok (.iload_n 1, 1) := by decide +kernel
theorem d_Hair_ageOf_8 : decode M_Hair_ageOf.2.1 8 = .ok (.iaload, 1) := by decide +kernel
theorem d_Hair_ageOf_9 : decode M_Hair_ageOf.2.1 9 = .ok (.aload_n 0, 1) := by decide +kernel
theorem d_Hair_ageOf_10 : decode M_Hair_ageOf.2.1 10 = .ok (.iload_n 1, 1) := by decide +kernel
theorem d_Hair_ageOf_11 : decode M_Hair_ageOf.2.1 11 = .ok (.invokevirtual 59, 3) := by decide +kernel
theorem d_Hair_ageOf_14 : decode M_Hair_ageOf.2.1 14 = .ok (.iadd, 1) := by decide +kernel
theorem d_Hair_ageOf_15 : decode M_Hair_ageOf.2.1 15 = .ok (.ireturn, 1) := by decide +kernel
theorem d_Hair_isGrey_0 : decode M_Hair_isGrey.2.1 0 = .ok (.aload_n 0, 1) := by decide +kernel
theorem d_Hair_isGrey_1 : decode M_Hair_isGrey.2.1 1 = .ok (.iload_n 1, 1) := by decide +kernel
theorem d_Hair_isGrey_2 : decode M_Hair_isGrey.2.1 2 = .ok (.invokevirtual 63, 3) := by decide +kernel
theorem d_Hair_isGrey_5 : decode M_Hair_isGrey.2.1 5 = .ok (.aload_n 0, 1) := by decide +kernel
theorem d_Hair_isGrey_6 : decode M_Hair_isGrey.2.1 6 = .ok (.getfield 18, 3) := by decide +kernel
theorem d_Hair_isGrey_9 : decode M_Hair_isGrey.2.1 9 = .ok (.getfield 66, 3) := by decide +kernel
theorem d_Hair_isGrey_12 : decode M_Hair_isGrey.2.1 12 = .ok (.if_icmp .lt 7, 3) := by decide +kernel
theorem d_Hair_isGrey_15 : decode M_Hair_isGrey.2.1 15 = .ok (.iconst 1, 1) := by decide +kernel
theorem d_Hair_isGrey_16 : decode M_Hair_isGrey.2.1 16 = .ok (.goto 4, 3) := by decide +kernel
theorem d_Hair_isGrey_19 : decode M_Hair_isGrey.2.1 19 = .ok (.iconst 0, 1) := by decide +kernel
theorem d_Hair_isGrey_20 : decode M_Hair_isGrey.2.1 20 = .ok (.ireturn, 1) := by decide +kernel
theorem d_Hair_breadths_0 : decode M_Hair_breadths.2.1 0 = .ok (.aload_n 0, 1) := by decide +kernel
theorem d_Hair_breadths_1 : decode M_Hair_breadths.2.1 1 = .ok (.aload_n 0, 1) := by decide +kernel
theorem d_Hair_breadths_2 : decode M_Hair_breadths.2.1 2 = .ok (.getfield 18, 3) := by decide +kernel
theorem d_Hair_breadths_5 : decode M_Hair_breadths.2.1 5 = .ok (.iload_n 1, 1) := by decide +kernel
theorem d_Hair_breadths_6 : decode M_Hair_breadths.2.1 6 = .ok (.iconst 1, 1) := by decide +kernel
theorem d_Hair_breadths_7 : decode M_Hair_breadths.2.1 7 = .ok (.invokevirtual 69, 3) := by decide +kernel
theorem d_Hair_breadths_10 : decode M_Hair_breadths.2.1 10 = .ok (.invokevirtual 59, 3) := by decide +kernel
theorem d_Hair_breadths_13 : decode M_Hair_breadths.2.1 13 = .ok (.aload_n 0, 1) := by decide +kernel
theorem d_Hair_breadths_14 : decode M_Hair_breadths.2.1 14 = .ok (.getfield 18, 3) := by decide +kernel
theorem d_Hair_breadths_17 : decode M_Hair_breadths.2.1 17 = .ok (.iload_n 1, 1) := by decide +kernel
theorem d_Hair_breadths_18 : decode M_Hair_breadths.2.1 18 = .ok (.iconst 2, 1) := by decide +kernel
theorem d_Hair_breadths_19 : decode M_Hair_breadths.2.1 19 = .ok (.invokevirtual 69, 3) := by decide +kernel
theorem d_Hair_breadths_22 : decode M_Hair_breadths.2.1 22 = .ok (.isub, 1) := by decide +kernel
theorem d_Hair_breadths_23 : decode M_Hair_breadths.2.1 23 = .ok (.ireturn, 1) := by decide +kernel
theorem d_Hair_isFull_0 : decode M_Hair_isFull.2.1 0 = .ok (.aload_n 0, 1) := by decide +kernel
theorem d_Hair_isFull_1 : decode M_Hair_isFull.2.1 1 = .ok (.getfield 26, 3) := by decide +kernel
theorem d_Hair_isFull_4 : decode M_Hair_isFull.2.1 4 = .ok (.bipush 24, 2) := by decide +kernel
theorem d_Hair_isFull_6 : decode M_Hair_isFull.2.1 6 = .ok (.if_icmp .lt 7, 3) := by decide +kernel
theorem d_Hair_isFull_9 : decode M_Hair_isFull.2.1 9 = .ok (.iconst 1, 1) := by decide +kernel
theorem d_Hair_isFull_10 : decode M_Hair_isFull.2.1 10 = .ok (.goto 4, 3) := by decide +kernel
theorem d_Hair_isFull_13 : decode M_Hair_isFull.2.1 13 = .ok (.iconst 0, 1) := by decide +kernel
theorem d_Hair_isFull_14 : decode M_Hair_isFull.2.1 14 = .ok (.ireturn, 1) := by decide +kernel
theorem d_Hair_allThere_0 : decode M_Hair_allThere.2.1 0 = .ok (.iconst 1, 1) := by decide +kernel
theorem d_Hair_allThere_1 : decode M_Hair_allThere.2.1 1 = .ok (.aload_n 0, 1) := by decide +kernel
theorem d_Hair_allThere_2 : decode M_Hair_allThere.2.1 2 = .ok (.getfield 26, 3) := by decide +kernel
theorem d_Hair_allThere_5 : decode M_Hair_allThere.2.1 5 = .ok (.ishl, 1) := by decide +kernel
theorem d_Hair_allThere_6 : decode M_Hair_allThere.2.1 6 = .ok (.iconst 1, 1) := by decide +kernel
theorem d_Hair_allThere_7 : decode M_Hair_allThere.2.1 7 = .ok (.isub, 1) := by decide +kernel
theorem d_Hair_allThere_8 : decode M_Hair_allThere.2.1 8 = .ok (.aload_n 0, 1) := by decide +kernel
theorem d_Hair_allThere_9 : decode M_Hair_allThere.2.1 9 = .ok (.getfield 29, 3) := by decide +kernel
theorem d_Hair_allThere_12 : decode M_Hair_allThere.2.1 12 = .ok (.iconst (-1), 1) := by decide +kernel
theorem d_Hair_allThere_13 : decode M_Hair_allThere.2.1 13 = .ok (.ixor, 1) := by decide +kernel
theorem d_Hair_allThere_14 : decode M_Hair_allThere.2.1 14 = .ok (.iand, 1) := by decide +kernel
theorem d_Hair_allThere_15 : decode M_Hair_allThere.2.1 15 = .ok (.ireturn, 1) := by decide +kernel
theorem d_Hair_isThere_0 : decode M_Hair_isThere.2.1 0 = .ok (.aload_n 0, 1) := by decide +kernel
theorem d_Hair_isThere_1 : decode M_Hair_isThere.2.1 1 = .ok (.invokevirtual 73, 3) := by decide +kernel
theorem d_Hair_isThere_4 : decode M_Hair_isThere.2.1 4 = .ok (.iload_n 1, 1) := by decide +kernel
theorem d_Hair_isThere_5 : decode M_Hair_isThere.2.1 5 = .ok (.invokestatic 77, 3) := by decide +kernel
theorem d_Hair_isThere_8 : decode M_Hair_isThere.2.1 8 = .ok (.ireturn, 1) := by decide +kernel
theorem d_Hair_isKnotted_0 : decode M_Hair_isKnotted.2.1 0 = .ok (.aload_n 0, 1) := by decide +kernel
theorem d_Hair_isKnotted_1 : decode M_Hair_isKnotted.2.1 1 = .ok (.getfield 32, 3) := by decide +kernel
theorem d_Hair_isKnotted_4 : decode M_Hair_isKnotted.2.1 4 = .ok (.iload_n 1, 1) := by decide +kernel
theorem d_Hair_isKnotted_5 : decode M_Hair_isKnotted.2.1 5 = .ok (.invokestatic 77, 3) := by decide +kernel
theorem d_Hair_isKnotted_8 : decode M_Hair_isKnotted.2.1 8 = .ok (.ireturn, 1) := by decide +kernel
theorem d_Hair_thereOf_0 : decode M_Hair_thereOf.2.1 0 = .ok (.iconst 0, 1) := by decide +kernel
theorem d_Hair_thereOf_1 : decode M_Hair_thereOf.2.1 1 = .ok (.istore_n 2, 1) := by decide +kernel
theorem d_Hair_thereOf_2 : decode M_Hair_thereOf.2.1 2 = .ok (.iconst 0, 1) := by decide +kernel
theorem d_Hair_thereOf_3 : decode M_Hair_thereOf.2.1 3 = .ok (.istore_n 3, 1) := by decide +kernel
theorem d_Hair_thereOf_4 : decode M_Hair_thereOf.2.1 4 = .ok (.iload_n 3, 1) := by decide +kernel
theorem d_Hair_thereOf_5 : decode M_Hair_thereOf.2.1 5 = .ok (.aload_n 0, 1) := by decide +kernel
theorem d_Hair_thereOf_6 : decode M_Hair_thereOf.2.1 6 = .ok (.getfield 26, 3) := by decide +kernel
theorem d_Hair_thereOf_9 : decode M_Hair_thereOf.2.1 9 = .ok (.if_icmp .ge 28, 3) := by decide +kernel
theorem d_Hair_thereOf_12 : decode M_Hair_thereOf.2.1 12 = .ok (.aload_n 0, 1) := by decide +kernel
theorem d_Hair_thereOf_13 : decode M_Hair_thereOf.2.1 13 = .ok (.getfield 18, 3) := by decide +kernel
theorem d_Hair_thereOf_16 : decode M_Hair_thereOf.2.1 16 = .ok (.iload_n 3, 1) := by decide +kernel
theorem d_Hair_thereOf_17 : decode M_Hair_thereOf.2.1 17 = .ok (.iconst 1, 1) := by decide +kernel
theorem d_Hair_thereOf_18 : decode M_Hair_thereOf.2.1 18 = .ok (.invokevirtual 69, 3) := by decide +kernel
theorem d_Hair_thereOf_21 : decode M_Hair_thereOf.2.1 21 = .ok (.iload_n 1, 1) := by decide +kernel
theorem d_Hair_thereOf_22 : decode M_Hair_thereOf.2.1 22 = .ok (.if_icmp .ne 9, 3) := by decide +kernel
theorem d_Hair_thereOf_25 : decode M_Hair_thereOf.2.1 25 = .ok (.iload_n 2, 1) := by decide +kernel
theorem d_Hair_thereOf_26 : decode M_Hair_thereOf.2.1 26 = .ok (.iconst 1, 1) := by decide +kernel
theorem d_Hair_thereOf_27 : decode M_Hair_thereOf.2.1 27 = .ok (.iload_n 3, 1) := by decide +kernel
theorem d_Hair_thereOf_28 : decode M_Hair_thereOf.2.1 28 = .ok (.ishl, 1) := by decide +kernel
theorem d_Hair_thereOf_29 : decode M_Hair_thereOf.2.1 29 = .ok (.ior, 1) := by decide +kernel
theorem d_Hair_thereOf_30 : decode M_Hair_thereOf.2.1 30 = .ok (.istore_n 2, 1) := by decide +kernel
theorem d_Hair_thereOf_31 : decode M_Hair_thereOf.2.1 31 = .ok (.iinc 3 1, 3) := by decide +kernel
theorem d_Hair_thereOf_34 : decode M_Hair_thereOf.2.1 34 = .ok (.goto (-30), 3) := by decide +kernel
theorem d_Hair_thereOf_37 : decode M_Hair_thereOf.2.1 37 = .ok (.iload_n 2, 1) := by decide +kernel
theorem d_Hair_thereOf_38 : decode M_Hair_thereOf.2.1 38 = .ok (.aload_n 0, 1) := by decide +kernel
theorem d_Hair_thereOf_39 : decode M_Hair_thereOf.2.1 39 = .ok (.getfield 29, 3) := by decide +kernel
theorem d_Hair_thereOf_42 : decode M_Hair_thereOf.2.1 42 = .ok (.iconst (-1), 1) := by decide +kernel
theorem d_Hair_thereOf_43 : decode M_Hair_thereOf.2.1 43 = .ok (.ixor, 1) := by decide +kernel
theorem d_Hair_thereOf_44 : decode M_Hair_thereOf.2.1 44 = .ok (.iand, 1) := by decide +kernel
theorem d_Hair_thereOf_45 : decode M_Hair_thereOf.2.1 45 = .ok (.ireturn, 1) := by decide +kernel
theorem d_Hair_recordsOf_0 : decode M_Hair_recordsOf.2.1 0 = .ok (.iconst 0, 1) := by decide +kernel
theorem d_Hair_recordsOf_1 : decode M_Hair_recordsOf.2.1 1 = .ok (.istore_n 2, 1) := by decide +kernel
theorem d_Hair_recordsOf_2 : decode M_Hair_recordsOf.2.1 2 = .ok (.iconst 0, 1) := by decide +kernel
theorem d_Hair_recordsOf_3 : decode M_Hair_recordsOf.2.1 3 = .ok (.istore_n 3, 1) := by decide +kernel
theorem d_Hair_recordsOf_4 : decode M_Hair_recordsOf.2.1 4 = .ok (.iload_n 3, 1) := by decide +kernel
theorem d_Hair_recordsOf_5 : decode M_Hair_recordsOf.2.1 5 = .ok (.aload_n 0, 1) := by decide +kernel
theorem d_Hair_recordsOf_6 : decode M_Hair_recordsOf.2.1 6 = .ok (.getfield 26, 3) := by decide +kernel
theorem d_Hair_recordsOf_9 : decode M_Hair_recordsOf.2.1 9 = .ok (.if_icmp .ge 32, 3) := by decide +kernel
theorem d_Hair_recordsOf_12 : decode M_Hair_recordsOf.2.1 12 = .ok (.iload_n 1, 1) := by decide +kernel
theorem d_Hair_recordsOf_13 : decode M_Hair_recordsOf.2.1 13 = .ok (.iload_n 3, 1) := by decide +kernel
theorem d_Hair_recordsOf_14 : decode M_Hair_recordsOf.2.1 14 = .ok (.invokestatic 77, 3) := by decide +kernel
theorem d_Hair_recordsOf_17 : decode M_Hair_recordsOf.2.1 17 = .ok (.ifCond .eq 18, 3) := by decide +kernel
theorem d_Hair_recordsOf_20 : decode M_Hair_recordsOf.2.1 20 = .ok (.iload_n 2, 1) := by decide +kernel
theorem d_Hair_recordsOf_21 : decode M_Hair_recordsOf.2.1 21 = .ok (.iconst 1, 1) := by decide +kernel
theorem d_Hair_recordsOf_22 : decode M_Hair_recordsOf.2.1 22 = .ok (.aload_n 0, 1) := by decide +kernel
theorem d_Hair_recordsOf_23 : decode M_Hair_recordsOf.2.1 23 = .ok (.getfield 18, 3) := by decide +kernel
theorem d_Hair_recordsOf_26 : decode M_Hair_recordsOf.2.1 26 = .ok (.iload_n 3, 1) := by decide +kernel
theorem d_Hair_recordsOf_27 : decode M_Hair_recordsOf.2.1 27 = .ok (.bipush 7, 2) := by decide +kernel
theorem d_Hair_recordsOf_29 : decode M_Hair_recordsOf.2.1 29 = .ok (.invokevirtual 69, 3) := by decide +kernel
theorem d_Hair_recordsOf_32 : decode M_Hair_recordsOf.2.1 32 = .ok (.ishl, 1) := by decide +kernel
theorem d_Hair_recordsOf_33 : decode M_Hair_recordsOf.2.1 33 = .ok (.ior, 1) := by decide +kernel
theorem d_Hair_recordsOf_34 : decode M_Hair_recordsOf.2.1 34 = .ok (.istore_n 2, 1) := by decide +kernel
theorem d_Hair_recordsOf_35 : decode M_Hair_recordsOf.2.1 35 = .ok (.iinc 3 1, 3) := by decide +kernel
theorem d_Hair_recordsOf_38 : decode M_Hair_recordsOf.2.1 38 = .ok (.goto (-34), 3) := by decide +kernel
theorem d_Hair_recordsOf_41 : decode M_Hair_recordsOf.2.1 41 = .ok (.iload_n 2, 1) := by decide +kernel
theorem d_Hair_recordsOf_42 : decode M_Hair_recordsOf.2.1 42 = .ok (.ireturn, 1) := by decide +kernel
theorem d_Hair_recordsThere_0 : decode M_Hair_recordsThere.2.1 0 = .ok (.aload_n 0, 1) := by decide +kernel
theorem d_Hair_recordsThere_1 : decode M_Hair_recordsThere.2.1 1 = .ok (.aload_n 0, 1) := by decide +kernel
theorem d_Hair_recordsThere_2 : decode M_Hair_recordsThere.2.1 2 = .ok (.invokevirtual 73, 3) := by decide +kernel
theorem d_Hair_recordsThere_5 : decode M_Hair_recordsThere.2.1 5 = .ok (.invokevirtual 81, 3) := by decide +kernel
theorem d_Hair_recordsThere_8 : decode M_Hair_recordsThere.2.1 8 = .ok (.ireturn, 1) := by decide +kernel
theorem d_Hair_recordsHeldBy_0 : decode M_Hair_recordsHeldBy.2.1 0 = .ok (.aload_n 0, 1) := by decide +kernel
theorem d_Hair_recordsHeldBy_1 : decode M_Hair_recordsHeldBy.2.1 1 = .ok (.aload_n 0, 1) := by decide +kernel
theorem d_Hair_recordsHeldBy_2 : decode M_Hair_recordsHeldBy.2.1 2 = .ok (.iload_n 1, 1) := by decide +kernel
theorem d_Hair_recordsHeldBy_3 : decode M_Hair_recordsHeldBy.2.1 3 = .ok (.invokevirtual 84, 3) := by decide +kernel
theorem d_Hair_recordsHeldBy_6 : decode M_Hair_recordsHeldBy.2.1 6 = .ok (.invokevirtual 81, 3) := by decide +kernel
theorem d_Hair_recordsHeldBy_9 : decode M_Hair_recordsHeldBy.2.1 9 = .ok (.ireturn, 1) := by decide +kernel
theorem d_Hair_monksWith_0 : decode M_Hair_monksWith.2.1 0 = .ok (.aload_n 0, 1) := by decide +kernel
theorem d_Hair_monksWith_1 : decode M_Hair_monksWith.2.1 1 = .ok (.invokevirtual 73, 3) := by decide +kernel
theorem d_Hair_monksWith_4 : decode M_Hair_monksWith.2.1 4 = .ok (.istore_n 2, 1) := by decide +kernel
theorem d_Hair_monksWith_5 : decode M_Hair_monksWith.2.1 5 = .ok (.iconst 0, 1) := by decide +kernel
theorem d_Hair_monksWith_6 : decode M_Hair_monksWith.2.1 6 = .ok (.istore_n 3, 1) := by decide +kernel
theorem d_Hair_monksWith_7 : decode M_Hair_monksWith.2.1 7 = .ok (.iconst 0, 1) := by decide +kernel
theorem d_Hair_monksWith_8 : decode M_Hair_monksWith.2.1 8 = .ok (.istore 4, 2) := by decide +kernel
theorem d_Hair_monksWith_10 : decode M_Hair_monksWith.2.1 10 = .ok (.iload 4, 2) := by decide +kernel
theorem d_Hair_monksWith_12 : decode M_Hair_monksWith.2.1 12 = .ok (.aload_n 0, 1) := by decide +kernel
theorem d_Hair_monksWith_13 : decode M_Hair_monksWith.2.1 13 = .ok (.getfield 26, 3) := by decide +kernel
theorem d_Hair_monksWith_16 : decode M_Hair_monksWith.2.1 16 = .ok (.if_icmp .ge 48, 3) := by decide +kernel
theorem d_Hair_monksWith_19 : decode M_Hair_monksWith.2.1 19 = .ok (.iload_n 2, 1) := by decide +kernel
theorem d_Hair_monksWith_20 : decode M_Hair_monksWith.2.1 20 = .ok (.iload 4, 2) := by decide +kernel
theorem d_Hair_monksWith_22 : decode M_Hair_monksWith.2.1 22 = .ok (.invokestatic 77, 3) := by decide +kernel
theorem d_Hair_monksWith_25 : decode M_Hair_monksWith.2.1 25 = .ok (.ifCond .eq 33, 3) := by decide +kernel
theorem d_Hair_monksWith_28 : decode M_Hair_monksWith.2.1 28 = .ok (.aload_n 0, 1) := by decide +kernel
theorem d_Hair_monksWith_29 : decode M_Hair_monksWith.2.1 29 = .ok (.getfield 18, 3) := by decide +kernel
theorem d_Hair_monksWith_32 : decode M_Hair_monksWith.2.1 32 = .ok (.iload 4, 2) := by decide +kernel
theorem d_Hair_monksWith_34 : decode M_Hair_monksWith.2.1 34 = .ok (.bipush 7, 2) := by decide +kernel
theorem d_Hair_monksWith_36 : decode M_Hair_monksWith.2.1 36 = .ok (.invokevirtual 69, 3) := by decide +kernel
theorem d_Hair_monksWith_39 : decode M_Hair_monksWith.2.1 39 = .ok (.iload_n 1, 1) := by decide +kernel
theorem d_Hair_monksWith_40 : decode M_Hair_monksWith.2.1 40 = .ok (.if_icmp .ne 18, 3) := by decide +kernel
theorem d_Hair_monksWith_43 : decode M_Hair_monksWith.2.1 43 = .ok (.iload_n 3, 1) := by decide +kernel
theorem d_Hair_monksWith_44 : decode M_Hair_monksWith.2.1 44 = .ok (.iconst 1, 1) := by decide +kernel
theorem d_Hair_monksWith_45 : decode M_Hair_monksWith.2.1 45 = .ok (.aload_n 0, 1) := by decide +kernel
theorem d_Hair_monksWith_46 : decode M_Hair_monksWith.2.1 46 = .ok (.getfield 18, 3) := by decide +kernel
theorem d_Hair_monksWith_49 : decode M_Hair_monksWith.2.1 49 = .ok (.iload 4, 2) := by decide +kernel
theorem d_Hair_monksWith_51 : decode M_Hair_monksWith.2.1 51 = .ok (.iconst 1, 1) := by decide +kernel
theorem d_Hair_monksWith_52 : decode M_Hair_monksWith.2.1 52 = .ok (.invokevirtual 69, 3) := by decide +kernel
theorem d_Hair_monksWith_55 : decode M_Hair_monksWith.2.1 55 = .ok (.ishl, 1) := by decide +kernel
theorem d_Hair_monksWith_56 : decode M_Hair_monksWith.2.1 56 = .ok (.ior, 1) := by decide +kernel
theorem d_Hair_monksWith_57 : decode M_Hair_monksWith.2.1 57 = .ok (.istore_n 3, 1) := by decide +kernel
theorem d_Hair_monksWith_58 : decode M_Hair_monksWith.2.1 58 = .ok (.iinc 4 1, 3) := by decide +kernel
theorem d_Hair_monksWith_61 : decode M_Hair_monksWith.2.1 61 = .ok (.goto (-51), 3) := by decide +kernel
theorem d_Hair_monksWith_64 : decode M_Hair_monksWith.2.1 64 = .ok (.iload_n 3, 1) := by decide +kernel
theorem d_Hair_monksWith_65 : decode M_Hair_monksWith.2.1 65 = .ok (.ireturn, 1) := by decide +kernel
theorem d_Hair_holds_0 : decode M_Hair_holds.2.1 0 = .ok (.aload_n 0, 1) := by decide +kernel
theorem d_Hair_holds_1 : decode M_Hair_holds.2.1 1 = .ok (.iload_n 2, 1) := by decide +kernel
theorem d_Hair_holds_2 : decode M_Hair_holds.2.1 2 = .ok (.invokevirtual 87, 3) := by decide +kernel
theorem d_Hair_holds_5 : decode M_Hair_holds.2.1 5 = .ok (.iload_n 1, 1) := by decide +kernel
theorem d_Hair_holds_6 : decode M_Hair_holds.2.1 6 = .ok (.invokestatic 77, 3) := by decide +kernel
theorem d_Hair_holds_9 : decode M_Hair_holds.2.1 9 = .ok (.ireturn, 1) := by decide +kernel
theorem d_Hair_recordsLostBy_0 : decode M_Hair_recordsLostBy.2.1 0 = .ok (.aload_n 0, 1) := by decide +kernel
theorem d_Hair_recordsLostBy_1 : decode M_Hair_recordsLostBy.2.1 1 = .ok (.invokevirtual 73, 3) := by decide +kernel
theorem d_Hair_recordsLostBy_4 : decode M_Hair_recordsLostBy.2.1 4 = .ok (.istore_n 2, 1) := by decide +kernel
theorem d_Hair_recordsLostBy_5 : decode M_Hair_recordsLostBy.2.1 5 = .ok (.aload_n 0, 1) := by decide +kernel
theorem d_Hair_recordsLostBy_6 : decode M_Hair_recordsLostBy.2.1 6 = .ok (.iload_n 2, 1) := by decide +kernel
theorem d_Hair_recordsLostBy_7 : decode M_Hair_recordsLostBy.2.1 7 = .ok (.invokevirtual 81, 3) := by decide +kernel
theorem d_Hair_recordsLostBy_10 : decode M_Hair_recordsLostBy.2.1 10 = .ok (.aload_n 0, 1) := by decide +kernel
theorem d_Hair_recordsLostBy_11 : decode M_Hair_recordsLostBy.2.1 11 = .ok (.iload_n 2, 1) := by decide +kernel
theorem d_Hair_recordsLostBy_12 : decode M_Hair_recordsLostBy.2.1 12 = .ok (.iload_n 1, 1) := by decide +kernel
theorem d_Hair_recordsLostBy_13 : decode M_Hair_recordsLostBy.2.1 13 = .ok (.iconst (-1), 1) := by decide +kernel
theorem d_Hair_recordsLostBy_14 : decode M_Hair_recordsLostBy.2.1 14 = .ok (.ixor, 1) := by decide +kernel
theorem d_Hair_recordsLostBy_15 : decode M_Hair_recordsLostBy.2.1 15 = .ok (.iand, 1) := by decide +kernel
theorem d_Hair_recordsLostBy_16 : decode M_Hair_recordsLostBy.2.1 16 = .ok (.invokevirtual 81, 3) := by decide +kernel
theorem d_Hair_recordsLostBy_19 : decode M_Hair_recordsLostBy.2.1 19 = .ok (.iconst (-1), 1) := by decide +kernel
theorem d_Hair_recordsLostBy_20 : decode M_Hair_recordsLostBy.2.1 20 = .ok (.ixor, 1) := by decide +kernel
theorem d_Hair_recordsLostBy_21 : decode M_Hair_recordsLostBy.2.1 21 = .ok (.iand, 1) := by decide +kernel
theorem d_Hair_recordsLostBy_22 : decode M_Hair_recordsLostBy.2.1 22 = .ok (.ireturn, 1) := by decide +kernel
theorem d_Hair_valuesOf_0 : decode M_Hair_valuesOf.2.1 0 = .ok (.iconst 0, 1) := by decide +kernel
theorem d_Hair_valuesOf_1 : decode M_Hair_valuesOf.2.1 1 = .ok (.istore_n 3, 1) := by decide +kernel
theorem d_Hair_valuesOf_2 : decode M_Hair_valuesOf.2.1 2 = .ok (.iconst 0, 1) := by decide +kernel
theorem d_Hair_valuesOf_3 : decode M_Hair_valuesOf.2.1 3 = .ok (.istore 4, 2) := by decide +kernel
theorem d_Hair_valuesOf_5 : decode M_Hair_valuesOf.2.1 5 = .ok (.iload 4, 2) := by decide +kernel
theorem d_Hair_valuesOf_7 : decode M_Hair_valuesOf.2.1 7 = .ok (.aload_n 0, 1) := by decide +kernel
theorem d_Hair_valuesOf_8 : decode M_Hair_valuesOf.2.1 8 = .ok (.getfield 26, 3) := by decide +kernel
theorem d_Hair_valuesOf_11 : decode M_Hair_valuesOf.2.1 11 = .ok (.if_icmp .ge 45, 3) := by decide +kernel
theorem d_Hair_valuesOf_14 : decode M_Hair_valuesOf.2.1 14 = .ok (.iload_n 1, 1) := by decide +kernel
theorem d_Hair_valuesOf_15 : decode M_Hair_valuesOf.2.1 15 = .ok (.iload 4, 2) := by decide +kernel
theorem d_Hair_valuesOf_17 : decode M_Hair_valuesOf.2.1 17 = .ok (.invokestatic 77, 3) := by decide +kernel
theorem d_Hair_valuesOf_20 : decode M_Hair_valuesOf.2.1 20 = .ok (.ifCond .eq 30, 3) := by decide +kernel
theorem d_Hair_valuesOf_23 : decode M_Hair_valuesOf.2.1 23 = .ok (.aload_n 0, 1) := by decide +kernel
theorem d_Hair_valuesOf_24 : decode M_Hair_valuesOf.2.1 24 = .ok (.getfield 18, 3) := by decide +kernel
theorem d_Hair_valuesOf_27 : decode M_Hair_valuesOf.2.1 27 = .ok (.iload 4, 2) := by decide +kernel
theorem d_Hair_valuesOf_29 : decode M_Hair_valuesOf.2.1 29 = .ok (.iconst 0, 1) := by decide +kernel
theorem d_Hair_valuesOf_30 : decode M_Hair_valuesOf.2.1 30 = .ok (.invokevirtual 69, 3) := by decide +kernel
theorem d_Hair_valuesOf_33 : decode M_Hair_valuesOf.2.1 33 = .ok (.iload_n 2, 1) := by decide +kernel
theorem d_Hair_valuesOf_34 : decode M_Hair_valuesOf.2.1 34 = .ok (.if_icmp .ne 16, 3) := by decide +kernel
theorem d_Hair_valuesOf_37 : decode M_Hair_valuesOf.2.1 37 = .ok (.iload_n 3, 1) := by decide +kernel
theorem d_Hair_valuesOf_38 : decode M_Hair_valuesOf.2.1 38 = .ok (.aload_n 0, 1) := by decide +kernel
theorem d_Hair_valuesOf_39 : decode M_Hair_valuesOf.2.1 39 = .ok (.getfield 18, 3) := by decide +kernel
theorem d_Hair_valuesOf_42 : decode M_Hair_valuesOf.2.1 42 = .ok (.iload 4, 2) := by decide +kernel
theorem d_Hair_valuesOf_44 : decode M_Hair_valuesOf.2.1 44 = .ok (.iconst 4, 1) := by decide +kernel
theorem d_Hair_valuesOf_45 : decode M_Hair_valuesOf.2.1 45 = .ok (.invokevirtual 69, 3) := by decide +kernel
theorem d_Hair_valuesOf_48 : decode M_Hair_valuesOf.2.1 48 = .ok (.iadd, 1) := by decide +kernel
theorem d_Hair_valuesOf_49 : decode M_Hair_valuesOf.2.1 49 = .ok (.istore_n 3, 1) := by decide +kernel
theorem d_Hair_valuesOf_50 : decode M_Hair_valuesOf.2.1 50 = .ok (.iinc 4 1, 3) := by decide +kernel
theorem d_Hair_valuesOf_53 : decode M_Hair_valuesOf.2.1 53 = .ok (.goto (-48), 3) := by decide +kernel
theorem d_Hair_valuesOf_56 : decode M_Hair_valuesOf.2.1 56 = .ok (.iload_n 3, 1) := by decide +kernel
theorem d_Hair_valuesOf_57 : decode M_Hair_valuesOf.2.1 57 = .ok (.ireturn, 1) := by decide +kernel
theorem d_Hair_between_0 : decode M_Hair_between.2.1 0 = .ok (.aload_n 0, 1) := by decide +kernel
theorem d_Hair_between_1 : decode M_Hair_between.2.1 1 = .ok (.iload_n 1, 1) := by decide +kernel
theorem d_Hair_between_2 : decode M_Hair_between.2.1 2 = .ok (.invokevirtual 84, 3) := by decide +kernel
theorem d_Hair_between_5 : decode M_Hair_between.2.1 5 = .ok (.istore 4, 2) := by decide +kernel
theorem d_Hair_between_7 : decode M_Hair_between.2.1 7 = .ok (.iconst 0, 1) := by decide +kernel
theorem d_Hair_between_8 : decode M_Hair_between.2.1 8 = .ok (.istore 5, 2) := by decide +kernel
theorem d_Hair_between_10 : decode M_Hair_between.2.1 10 = .ok (.iconst 0, 1) := by decide +kernel
theorem d_Hair_between_11 : decode M_Hair_between.2.1 11 = .ok (.istore 6, 2) := by decide +kernel
theorem d_Hair_between_13 : decode M_Hair_between.2.1 13 = .ok (.iload 6, 2) := by decide +kernel
theorem d_Hair_between_15 : decode M_Hair_between.2.1 15 = .ok (.aload_n 0, 1) := by decide +kernel
theorem d_Hair_between_16 : decode M_Hair_between.2.1 16 = .ok (.getfield 26, 3) := by decide +kernel
theorem d_Hair_between_19 : decode M_Hair_between.2.1 19 = .ok (.if_icmp .ge 48, 3) := by decide +kernel
theorem d_Hair_between_22 : decode M_Hair_between.2.1 22 = .ok (.aload_n 0, 1) := by decide +kernel
theorem d_Hair_between_23 : decode M_Hair_between.2.1 23 = .ok (.iload 6, 2) := by decide +kernel
theorem d_Hair_between_25 : decode M_Hair_between.2.1 25 = .ok (.invokevirtual 98, 3) := by decide +kernel
theorem d_Hair_between_28 : decode M_Hair_between.2.1 28 = .ok (.istore 7, 2) := by decide +kernel
theorem d_Hair_between_30 : decode M_Hair_between.2.1 30 = .ok (.iload 4, 2) := by decide +kernel
theorem d_Hair_between_32 : decode M_Hair_between.2.1 32 = .ok (.iload 6, 2) := by decide +kernel
theorem d_Hair_between_34 : decode M_Hair_between.2.1 34 = .ok (.invokestatic 77, 3) := by decide +kernel
theorem d_Hair_between_37 : decode M_Hair_between.2.1 37 = .ok (.ifCond .eq 24, 3) := by decide +kernel
theorem d_Hair_between_40 : decode M_Hair_between.2.1 40 = .ok (.iload 7, 2) := by decide +kernel
theorem d_Hair_between_42 : decode M_Hair_between.2.1 42 = .ok (.iload_n 2, 1) := by decide +kernel
theorem d_Hair_between_43 : decode M_Hair_between.2.1 43 = .ok (.if_icmp .lt 18, 3) := by decide +kernel
theorem d_Hair_between_46 : decode M_Hair_between.2.1 46 = .ok (.iload 7, 2) := by decide +kernel
theorem d_Hair_between_48 : decode M_Hair_between.2.1 48 = .ok (.iload_n 3, 1) := by decide +kernel
theorem d_Hair_between_49 : decode M_Hair_between.2.1 49 = .ok (.if_icmp .gt 12, 3) := by decide +kernel
theorem d_Hair_between_52 : decode M_Hair_between.2.1 52 = .ok (.iload 5, 2) := by decide +kernel
theorem d_Hair_between_54 : decode M_Hair_between.2.1 54 = .ok (.iconst 1, 1) := by decide +kernel
theorem d_Hair_between_55 : decode M_Hair_between.2.1 55 = .ok (.iload 6, 2) := by decide +kernel
theorem d_Hair_between_57 : decode M_Hair_between.2.1 57 = .ok (.ishl, 1) := by decide +kernel
theorem d_Hair_between_58 : decode M_Hair_between.2.1 58 = .ok (.ior, 1) := by decide +kernel
theorem d_Hair_between_59 : decode M_Hair_between.2.1 59 = .ok (.istore 5, 2) := by decide +kernel
theorem d_Hair_between_61 : decode M_Hair_between.2.1 61 = .ok (.iinc 6 1, 3) := by decide +kernel
theorem d_Hair_between_64 : decode M_Hair_between.2.1 64 = .ok (.goto (-51), 3) := by decide +kernel
theorem d_Hair_between_67 : decode M_Hair_between.2.1 67 = .ok (.iload 5, 2) := by decide +kernel
theorem d_Hair_between_69 : decode M_Hair_between.2.1 69 = .ok (.ireturn, 1) := by decide +kernel
theorem d_Hair_beyond_0 : decode M_Hair_beyond.2.1 0 = .ok (.aload_n 0, 1) := by decide +kernel
theorem d_Hair_beyond_1 : decode M_Hair_beyond.2.1 1 = .ok (.iload_n 1, 1) := by decide +kernel
theorem d_Hair_beyond_2 : decode M_Hair_beyond.2.1 2 = .ok (.iload_n 2, 1) := by decide +kernel
theorem d_Hair_beyond_3 : decode M_Hair_beyond.2.1 3 = .ok (.iconst 1, 1) := by decide +kernel
theorem d_Hair_beyond_4 : decode M_Hair_beyond.2.1 4 = .ok (.iadd, 1) := by decide +kernel
theorem d_Hair_beyond_5 : decode M_Hair_beyond.2.1 5 = .ok (.ldc 90, 2) := by decide +kernel
theorem d_Hair_beyond_7 : decode M_Hair_beyond.2.1 7 = .ok (.invokevirtual 91, 3) := by decide +kernel
theorem d_Hair_beyond_10 : decode M_Hair_beyond.2.1 10 = .ok (.ireturn, 1) := by decide +kernel
theorem d_Hair_eatable_0 : decode M_Hair_eatable.2.1 0 = .ok (.aload_n 0, 1) := by decide +kernel
theorem d_Hair_eatable_1 : decode M_Hair_eatable.2.1 1 = .ok (.getfield 18, 3) := by decide +kernel
theorem d_Hair_eatable_4 : decode M_Hair_eatable.2.1 4 = .ok (.getfield 95, 3) := by decide +kernel
theorem d_Hair_eatable_7 : decode M_Hair_eatable.2.1 7 = .ok (.iload_n 1, 1) := by decide +kernel
theorem d_Hair_eatable_8 : decode M_Hair_eatable.2.1 8 = .ok (.iaload, 1) := by decide +kernel
theorem d_Hair_eatable_9 : decode M_Hair_eatable.2.1 9 = .ok (.iconst 3, 1) := by decide +kernel
theorem d_Hair_eatable_10 : decode M_Hair_eatable.2.1 10 = .ok (.if_icmp .ne 7, 3) := by decide +kernel
theorem d_Hair_eatable_13 : decode M_Hair_eatable.2.1 13 = .ok (.iconst 0, 1) := by decide +kernel
theorem d_Hair_eatable_14 : decode M_Hair_eatable.2.1 14 = .ok (.goto 17, 3) := by decide +kernel
theorem d_Hair_eatable_17 : decode M_Hair_eatable.2.1 17 = .ok (.aload_n 0, 1) := by decide +kernel
theorem d_Hair_eatable_18 : decode M_Hair_eatable.2.1 18 = .ok (.iload_n 1, 1) := by decide +kernel
theorem d_Hair_eatable_19 : decode M_Hair_eatable.2.1 19 = .ok (.iload_n 2, 1) := by decide +kernel
theorem d_Hair_eatable_20 : decode M_Hair_eatable.2.1 20 = .ok (.iload_n 3, 1) := by decide +kernel
theorem d_Hair_eatable_21 : decode M_Hair_eatable.2.1 21 = .ok (.invokevirtual 91, 3) := by decide +kernel
theorem d_Hair_eatable_24 : decode M_Hair_eatable.2.1 24 = .ok (.aload_n 0, 1) := by decide +kernel
theorem d_Hair_eatable_25 : decode M_Hair_eatable.2.1 25 = .ok (.getfield 32, 3) := by decide +kernel
theorem d_Hair_eatable_28 : decode M_Hair_eatable.2.1 28 = .ok (.iconst (-1), 1) := by decide +kernel
theorem d_Hair_eatable_29 : decode M_Hair_eatable.2.1 29 = .ok (.ixor, 1) := by decide +kernel
theorem d_Hair_eatable_30 : decode M_Hair_eatable.2.1 30 = .ok (.iand, 1) := by decide +kernel
theorem d_Hair_eatable_31 : decode M_Hair_eatable.2.1 31 = .ok (.ireturn, 1) := by decide +kernel
theorem d_Hair_lose_0 : decode M_Hair_lose.2.1 0 = .ok (.aload_n 0, 1) := by decide +kernel
theorem d_Hair_lose_1 : decode M_Hair_lose.2.1 1 = .ok (.dup, 1) := by decide +kernel
theorem d_Hair_lose_2 : decode M_Hair_lose.2.1 2 = .ok (.getfield 29, 3) := by decide +kernel
theorem d_Hair_lose_5 : decode M_Hair_lose.2.1 5 = .ok (.iload_n 1, 1) := by decide +kernel
theorem d_Hair_lose_6 : decode M_Hair_lose.2.1 6 = .ok (.ior, 1) := by decide +kernel
theorem d_Hair_lose_7 : decode M_Hair_lose.2.1 7 = .ok (.putfield 29, 3) := by decide +kernel
theorem d_Hair_lose_10 : decode M_Hair_lose.2.1 10 = .ok (.iload_n 1, 1) := by decide +kernel
theorem d_Hair_lose_11 : decode M_Hair_lose.2.1 11 = .ok (.invokestatic 101, 3) := by decide +kernel
theorem d_Hair_lose_14 : decode M_Hair_lose.2.1 14 = .ok (.ireturn, 1) := by decide +kernel
theorem d_Hair_shaveTo_0 : decode M_Hair_shaveTo.2.1 0 = .ok (.aload_n 0, 1) := by decide +kernel
theorem d_Hair_shaveTo_1 : decode M_Hair_shaveTo.2.1 1 = .ok (.getfield 9, 3) := by decide +kernel
theorem d_Hair_shaveTo_4 : decode M_Hair_shaveTo.2.1 4 = .ok (.iload_n 1, 1) := by decide +kernel
theorem d_Hair_shaveTo_5 : decode M_Hair_shaveTo.2.1 5 = .ok (.iload_n 2, 1) := by decide +kernel
theorem d_Hair_shaveTo_6 : decode M_Hair_shaveTo.2.1 6 = .ok (.iastore, 1) := by decide +kernel
theorem d_Hair_shaveTo_7 : decode M_Hair_shaveTo.2.1 7 = .ok (.aload_n 0, 1) := by decide +kernel
theorem d_Hair_shaveTo_8 : decode M_Hair_shaveTo.2.1 8 = .ok (.aload_n 0, 1) := by decide +kernel
theorem d_Hair_shaveTo_9 : decode M_Hair_shaveTo.2.1 9 = .ok (.iload_n 1, 1) := by decide +kernel
theorem d_Hair_shaveTo_10 : decode M_Hair_shaveTo.2.1 10 = .ok (.iload_n 2, 1) := by decide +kernel
theorem d_Hair_shaveTo_11 : decode M_Hair_shaveTo.2.1 11 = .ok (.invokevirtual 106, 3) := by decide +kernel
theorem d_Hair_shaveTo_14 : decode M_Hair_shaveTo.2.1 14 = .ok (.invokevirtual 109, 3) := by decide +kernel
theorem d_Hair_shaveTo_17 : decode M_Hair_shaveTo.2.1 17 = .ok (.ireturn, 1) := by decide +kernel
theorem d_Hair_tie_0 : decode M_Hair_tie.2.1 0 = .ok (.aload_n 0, 1) := by decide +kernel
theorem d_Hair_tie_1 : decode M_Hair_tie.2.1 1 = .ok (.dup, 1) := by decide +kernel
theorem d_Hair_tie_2 : decode M_Hair_tie.2.1 2 = .ok (.getfield 32, 3) := by decide +kernel
theorem d_Hair_tie_5 : decode M_Hair_tie.2.1 5 = .ok (.iconst 1, 1) := by decide +kernel
theorem d_Hair_tie_6 : decode M_Hair_tie.2.1 6 = .ok (.iload_n 1, 1) := by decide +kernel
theorem d_Hair_tie_7 : decode M_Hair_tie.2.1 7 = .ok (.ishl, 1) := by decide +kernel
theorem d_Hair_tie_8 : decode M_Hair_tie.2.1 8 = .ok (.ior, 1) := by decide +kernel
theorem d_Hair_tie_9 : decode M_Hair_tie.2.1 9 = .ok (.putfield 32, 3) := by decide +kernel
theorem d_Hair_tie_12 : decode M_Hair_tie.2.1 12 = .ok (.return_, 1) := by decide +kernel
theorem d_Hair_pass_0 : decode M_Hair_pass.2.1 0 = .ok (.aload_n 0, 1) := by decide +kernel
theorem d_Hair_pass_1 : decode M_Hair_pass.2.1 1 = .ok (.dup, 1) := by decide +kernel
theorem d_Hair_pass_2 : decode M_Hair_pass.2.1 2 = .ok (.getfield 22, 3) := by decide +kernel
theorem d_Hair_pass_5 : decode M_Hair_pass.2.1 5 = .ok (.iload_n 1, 1) := by decide +kernel
theorem d_Hair_pass_6 : decode M_Hair_pass.2.1 6 = .ok (.iadd, 1) := by decide +kernel
theorem d_Hair_pass_7 : decode M_Hair_pass.2.1 7 = .ok (.putfield 22, 3) := by decide +kernel
theorem d_Hair_pass_10 : decode M_Hair_pass.2.1 10 = .ok (.iconst 0, 1) := by decide +kernel
theorem d_Hair_pass_11 : decode M_Hair_pass.2.1 11 = .ok (.istore_n 2, 1) := by decide +kernel
theorem d_Hair_pass_12 : decode M_Hair_pass.2.1 12 = .ok (.iload_n 2, 1) := by decide +kernel
theorem d_Hair_pass_13 : decode M_Hair_pass.2.1 13 = .ok (.aload_n 0, 1) := by decide +kernel
theorem d_Hair_pass_14 : decode M_Hair_pass.2.1 14 = .ok (.getfield 18, 3) := by decide +kernel
theorem d_Hair_pass_17 : decode M_Hair_pass.2.1 17 = .ok (.getfield 47, 3) := by decide +kernel
theorem d_Hair_pass_20 : decode M_Hair_pass.2.1 20 = .ok (.if_icmp .ge 58, 3) := by decide +kernel
theorem d_Hair_pass_23 : decode M_Hair_pass.2.1 23 = .ok (.aload_n 0, 1) := by decide +kernel
theorem d_Hair_pass_24 : decode M_Hair_pass.2.1 24 = .ok (.iload_n 2, 1) := by decide +kernel
theorem d_Hair_pass_25 : decode M_Hair_pass.2.1 25 = .ok (.invokevirtual 52, 3) := by decide +kernel
theorem d_Hair_pass_28 : decode M_Hair_pass.2.1 28 = .ok (.ifCond .ne 44, 3) := by decide +kernel
theorem d_Hair_pass_31 : decode M_Hair_pass.2.1 31 = .ok (.aload_n 0, 1) := by decide +kernel
theorem d_Hair_pass_32 : decode M_Hair_pass.2.1 32 = .ok (.getfield 9, 3) := by decide +kernel
theorem d_Hair_pass_35 : decode M_Hair_pass.2.1 35 = .ok (.iload_n 2, 1) := by decide +kernel
theorem d_Hair_pass_36 : decode M_Hair_pass.2.1 36 = .ok (.aload_n 0, 1) := by decide +kernel
theorem d_Hair_pass_37 : decode M_Hair_pass.2.1 37 = .ok (.getfield 9, 3) := by decide +kernel
theorem d_Hair_pass_40 : decode M_Hair_pass.2.1 40 = .ok (.iload_n 2, 1) := by decide +kernel
theorem d_Hair_pass_41 : decode M_Hair_pass.2.1 41 = .ok (.iaload, 1) := by decide +kernel
theorem d_Hair_pass_42 : decode M_Hair_pass.2.1 42 = .ok (.iload_n 1, 1) := by decide +kernel
theorem d_Hair_pass_43 : decode M_Hair_pass.2.1 43 = .ok (.iadd, 1) := by decide +kernel
theorem d_Hair_pass_44 : decode M_Hair_pass.2.1 44 = .ok (.aload_n 0, 1) := by decide +kernel
theorem d_Hair_pass_45 : decode M_Hair_pass.2.1 45 = .ok (.getfield 18, 3) := by decide +kernel
theorem d_Hair_pass_48 : decode M_Hair_pass.2.1 48 = .ok (.iload_n 2, 1) := by decide +kernel
theorem d_Hair_pass_49 : decode M_Hair_pass.2.1 49 = .ok (.invokevirtual 112, 3) := by decide +kernel
theorem d_Hair_pass_52 : decode M_Hair_pass.2.1 52 = .ok (.invokestatic 115, 3) := by decide +kernel
theorem d_Hair_pass_55 : decode M_Hair_pass.2.1 55 = .ok (.iastore, 1) := by decide +kernel
theorem d_Hair_pass_56 : decode M_Hair_pass.2.1 56 = .ok (.aload_n 0, 1) := by decide +kernel
theorem d_Hair_pass_57 : decode M_Hair_pass.2.1 57 = .ok (.aload_n 0, 1) := by decide +kernel
theorem d_Hair_pass_58 : decode M_Hair_pass.2.1 58 = .ok (.iload_n 2, 1) := by decide +kernel
theorem d_Hair_pass_59 : decode M_Hair_pass.2.1 59 = .ok (.aload_n 0, 1) := by decide +kernel
theorem d_Hair_pass_60 : decode M_Hair_pass.2.1 60 = .ok (.getfield 9, 3) := by decide +kernel
theorem d_Hair_pass_63 : decode M_Hair_pass.2.1 63 = .ok (.iload_n 2, 1) := by decide +kernel
theorem d_Hair_pass_64 : decode M_Hair_pass.2.1 64 = .ok (.iaload, 1) := by decide +kernel
theorem d_Hair_pass_65 : decode M_Hair_pass.2.1 65 = .ok (.invokevirtual 106, 3) := by decide +kernel
theorem d_Hair_pass_68 : decode M_Hair_pass.2.1 68 = .ok (.invokevirtual 109, 3) := by decide +kernel
theorem d_Hair_pass_71 : decode M_Hair_pass.2.1 71 = .ok (.pop, 1) := by decide +kernel
theorem d_Hair_pass_72 : decode M_Hair_pass.2.1 72 = .ok (.iinc 2 1, 3) := by decide +kernel
theorem d_Hair_pass_75 : decode M_Hair_pass.2.1 75 = .ok (.goto (-63), 3) := by decide +kernel
theorem d_Hair_pass_78 : decode M_Hair_pass.2.1 78 = .ok (.return_, 1) := by decide +kernel
theorem d_Hair_settle_0 : decode M_Hair_settle.2.1 0 = .ok (.iconst 1, 1) := by decide +kernel
theorem d_Hair_settle_1 : decode M_Hair_settle.2.1 1 = .ok (.iload_n 1, 1) := by decide +kernel
theorem d_Hair_settle_2 : decode M_Hair_settle.2.1 2 = .ok (.ishl, 1) := by decide +kernel
theorem d_Hair_settle_3 : decode M_Hair_settle.2.1 3 = .ok (.istore_n 3, 1) := by decide +kernel
theorem d_Hair_settle_4 : decode M_Hair_settle.2.1 4 = .ok (.aload_n 0, 1) := by decide +kernel
theorem d_Hair_settle_5 : decode M_Hair_settle.2.1 5 = .ok (.iload_n 1, 1) := by decide +kernel
theorem d_Hair_settle_6 : decode M_Hair_settle.2.1 6 = .ok (.iconst 1, 1) := by decide +kernel
theorem d_Hair_settle_7 : decode M_Hair_settle.2.1 7 = .ok (.iadd, 1) := by decide +kernel
theorem d_Hair_settle_8 : decode M_Hair_settle.2.1 8 = .ok (.putfield 26, 3) := by decide +kernel
theorem d_Hair_settle_11 : decode M_Hair_settle.2.1 11 = .ok (.aload_n 0, 1) := by decide +kernel
theorem d_Hair_settle_12 : decode M_Hair_settle.2.1 12 = .ok (.dup, 1) := by decide +kernel
theorem d_Hair_settle_13 : decode M_Hair_settle.2.1 13 = .ok (.getfield 32, 3) := by decide +kernel
theorem d_Hair_settle_16 : decode M_Hair_settle.2.1 16 = .ok (.iload_n 3, 1) := by decide +kernel
theorem d_Hair_settle_17 : decode M_Hair_settle.2.1 17 = .ok (.iconst (-1), 1) := by decide +kernel
theorem d_Hair_settle_18 : decode M_Hair_settle.2.1 18 = .ok (.ixor, 1) := by decide +kernel
theorem d_Hair_settle_19 : decode M_Hair_settle.2.1 19 = .ok (.iand, 1) := by decide +kernel
theorem d_Hair_settle_20 : decode M_Hair_settle.2.1 20 = .ok (.putfield 32, 3) := by decide +kernel
theorem d_Hair_settle_23 : decode M_Hair_settle.2.1 23 = .ok (.aload_n 0, 1) := by decide +kernel
theorem d_Hair_settle_24 : decode M_Hair_settle.2.1 24 = .ok (.dup, 1) := by decide +kernel
theorem d_Hair_settle_25 : decode M_Hair_settle.2.1 25 = .ok (.getfield 29, 3) := by decide +kernel
theorem d_Hair_settle_28 : decode M_Hair_settle.2.1 28 = .ok (.iload_n 3, 1) := by decide +kernel
theorem d_Hair_settle_29 : decode M_Hair_settle.2.1 29 = .ok (.iconst (-1), 1) := by decide +kernel
theorem d_Hair_settle_30 : decode M_Hair_settle.2.1 30 = .ok (.ixor, 1) := by decide +kernel
theorem d_Hair_settle_31 : decode M_Hair_settle.2.1 31 = .ok (.iand, 1) := by decide +kernel
theorem d_Hair_settle_32 : decode M_Hair_settle.2.1 32 = .ok (.putfield 29, 3) := by decide +kernel
theorem d_Hair_settle_35 : decode M_Hair_settle.2.1 35 = .ok (.aload_n 0, 1) := by decide +kernel
theorem d_Hair_settle_36 : decode M_Hair_settle.2.1 36 = .ok (.iload_n 1, 1) := by decide +kernel
theorem d_Hair_settle_37 : decode M_Hair_settle.2.1 37 = .ok (.invokevirtual 98, 3) := by decide +kernel
theorem d_Hair_settle_40 : decode M_Hair_settle.2.1 40 = .ok (.aload_n 0, 1) := by decide +kernel
theorem d_Hair_settle_41 : decode M_Hair_settle.2.1 41 = .ok (.getfield 9, 3) := by decide +kernel
theorem d_Hair_settle_44 : decode M_Hair_settle.2.1 44 = .ok (.iload_n 2, 1) := by decide +kernel
theorem d_Hair_settle_45 : decode M_Hair_settle.2.1 45 = .ok (.iaload, 1) := by decide +kernel
theorem d_Hair_settle_46 : decode M_Hair_settle.2.1 46 = .ok (.if_icmp .le 13, 3) := by decide +kernel
theorem d_Hair_settle_49 : decode M_Hair_settle.2.1 49 = .ok (.aload_n 0, 1) := by decide +kernel
theorem d_Hair_settle_50 : decode M_Hair_settle.2.1 50 = .ok (.dup, 1) := by decide +kernel
theorem d_Hair_settle_51 : decode M_Hair_settle.2.1 51 = .ok (.getfield 29, 3) := by decide +kernel
theorem d_Hair_settle_54 : decode M_Hair_settle.2.1 54 = .ok (.iload_n 3, 1) := by decide +kernel
theorem d_Hair_settle_55 : decode M_Hair_settle.2.1 55 = .ok (.ior, 1) := by decide +kernel
theorem d_Hair_settle_56 : decode M_Hair_settle.2.1 56 = .ok (.putfield 29, 3) := by decide +kernel
theorem d_Hair_settle_59 : decode M_Hair_settle.2.1 59 = .ok (.return_, 1) := by decide +kernel
theorem d_Hair_braidIn_0 : decode M_Hair_braidIn.2.1 0 = .ok (.aload_n 0, 1) := by decide +kernel
theorem d_Hair_braidIn_1 : decode M_Hair_braidIn.2.1 1 = .ok (.getfield 26, 3) := by decide +kernel
theorem d_Hair_braidIn_4 : decode M_Hair_braidIn.2.1 4 = .ok (.istore 6, 2) := by decide +kernel
theorem d_Hair_braidIn_6 : decode M_Hair_braidIn.2.1 6 = .ok (.aload_n 0, 1) := by decide +kernel
theorem d_Hair_braidIn_7 : decode M_Hair_braidIn.2.1 7 = .ok (.getfield 18, 3) := by decide +kernel
theorem d_Hair_braidIn_10 : decode M_Hair_braidIn.2.1 10 = .ok (.iload 6, 2) := by decide +kernel
theorem d_Hair_braidIn_12 : decode M_Hair_braidIn.2.1 12 = .ok (.iconst 0, 1) := by decide +kernel
theorem d_Hair_braidIn_13 : decode M_Hair_braidIn.2.1 13 = .ok (.iload_n 3, 1) := by decide +kernel
theorem d_Hair_braidIn_14 : decode M_Hair_braidIn.2.1 14 = .ok (.invokevirtual 120, 3) := by decide +kernel
theorem d_Hair_braidIn_17 : decode M_Hair_braidIn.2.1 17 = .ok (.aload_n 0, 1) := by decide +kernel
theorem d_Hair_braidIn_18 : decode M_Hair_braidIn.2.1 18 = .ok (.getfield 18, 3) := by decide +kernel
theorem d_Hair_braidIn_21 : decode M_Hair_braidIn.2.1 21 = .ok (.iload 6, 2) := by decide +kernel
theorem d_Hair_braidIn_23 : decode M_Hair_braidIn.2.1 23 = .ok (.iconst 1, 1) := by decide +kernel
theorem d_Hair_braidIn_24 : decode M_Hair_braidIn.2.1 24 = .ok (.iload_n 1, 1) := by decide +kernel
theorem d_Hair_braidIn_25 : decode M_Hair_braidIn.2.1 25 = .ok (.invokevirtual 120, 3) := by decide +kernel
theorem d_Hair_braidIn_28 : decode M_Hair_braidIn.2.1 28 = .ok (.aload_n 0, 1) := by decide +kernel
theorem d_Hair_braidIn_29 : decode M_Hair_braidIn.2.1 29 = .ok (.getfield 18, 3) := by decide +kernel
theorem d_Hair_braidIn_32 : decode M_Hair_braidIn.2.1 32 = .ok (.iload 6, 2) := by decide +kernel
theorem d_Hair_braidIn_34 : decode M_Hair_braidIn.2.1 34 = .ok (.iconst 2, 1) := by decide +kernel
theorem d_Hair_braidIn_35 : decode M_Hair_braidIn.2.1 35 = .ok (.iload_n 2, 1) := by decide +kernel
theorem d_Hair_braidIn_36 : decode M_Hair_braidIn.2.1 36 = .ok (.invokevirtual 120, 3) := by decide +kernel
theorem d_Hair_braidIn_39 : decode M_Hair_braidIn.2.1 39 = .ok (.aload_n 0, 1) := by decide +kernel
theorem d_Hair_braidIn_40 : decode M_Hair_braidIn.2.1 40 = .ok (.getfield 18, 3) := by decide +kernel
theorem d_Hair_braidIn_43 : decode M_Hair_braidIn.2.1 43 = .ok (.iload 6, 2) := by decide +kernel
theorem d_Hair_braidIn_45 : decode M_Hair_braidIn.2.1 45 = .ok (.iconst 3, 1) := by decide +kernel
theorem d_Hair_braidIn_46 : decode M_Hair_braidIn.2.1 46 = .ok (.iload 4, 2) := by decide +kernel
theorem d_Hair_braidIn_48 : decode M_Hair_braidIn.2.1 48 = .ok (.invokevirtual 120, 3) := by decide +kernel
theorem d_Hair_braidIn_51 : decode M_Hair_braidIn.2.1 51 = .ok (.aload_n 0, 1) := by decide +kernel
theorem d_Hair_braidIn_52 : decode M_Hair_braidIn.2.1 52 = .ok (.getfield 18, 3) := by decide +kernel
theorem d_Hair_braidIn_55 : decode M_Hair_braidIn.2.1 55 = .ok (.iload 6, 2) := by decide +kernel
theorem d_Hair_braidIn_57 : decode M_Hair_braidIn.2.1 57 = .ok (.iconst 4, 1) := by decide +kernel
theorem d_Hair_braidIn_58 : decode M_Hair_braidIn.2.1 58 = .ok (.iload 5, 2) := by decide +kernel
theorem d_Hair_braidIn_60 : decode M_Hair_braidIn.2.1 60 = .ok (.invokevirtual 120, 3) := by decide +kernel
theorem d_Hair_braidIn_63 : decode M_Hair_braidIn.2.1 63 = .ok (.aload_n 0, 1) := by decide +kernel
theorem d_Hair_braidIn_64 : decode M_Hair_braidIn.2.1 64 = .ok (.getfield 18, 3) := by decide +kernel
theorem d_Hair_braidIn_67 : decode M_Hair_braidIn.2.1 67 = .ok (.iload 6, 2) := by decide +kernel
theorem d_Hair_braidIn_69 : decode M_Hair_braidIn.2.1 69 = .ok (.iconst 5, 1) := by decide +kernel
theorem d_Hair_braidIn_70 : decode M_Hair_braidIn.2.1 70 = .ok (.iconst 0, 1) := by decide +kernel
theorem d_Hair_braidIn_71 : decode M_Hair_braidIn.2.1 71 = .ok (.invokevirtual 120, 3) := by decide +kernel
theorem d_Hair_braidIn_74 : decode M_Hair_braidIn.2.1 74 = .ok (.aload_n 0, 1) := by decide +kernel
theorem d_Hair_braidIn_75 : decode M_Hair_braidIn.2.1 75 = .ok (.getfield 18, 3) := by decide +kernel
theorem d_Hair_braidIn_78 : decode M_Hair_braidIn.2.1 78 = .ok (.iload 6, 2) := by decide +kernel
theorem d_Hair_braidIn_80 : decode M_Hair_braidIn.2.1 80 = .ok (.bipush 7, 2) := by decide +kernel
theorem d_Hair_braidIn_82 : decode M_Hair_braidIn.2.1 82 = .ok (.iload 6, 2) := by decide +kernel
theorem d_Hair_braidIn_84 : decode M_Hair_braidIn.2.1 84 = .ok (.invokevirtual 120, 3) := by decide +kernel
theorem d_Hair_braidIn_87 : decode M_Hair_braidIn.2.1 87 = .ok (.aload_n 0, 1) := by decide +kernel
theorem d_Hair_braidIn_88 : decode M_Hair_braidIn.2.1 88 = .ok (.iload 6, 2) := by decide +kernel
theorem d_Hair_braidIn_90 : decode M_Hair_braidIn.2.1 90 = .ok (.iload_n 1, 1) := by decide +kernel
theorem d_Hair_braidIn_91 : decode M_Hair_braidIn.2.1 91 = .ok (.invokevirtual 124, 3) := by decide +kernel
theorem d_Hair_braidIn_94 : decode M_Hair_braidIn.2.1 94 = .ok (.iload 6, 2) := by decide +kernel
theorem d_Hair_braidIn_96 : decode M_Hair_braidIn.2.1 96 = .ok (.ireturn, 1) := by decide +kernel
theorem d_Hair_copyInto_0 : decode M_Hair_copyInto.2.1 0 = .ok (.aload_n 0, 1) := by decide +kernel
theorem d_Hair_copyInto_1 : decode M_Hair_copyInto.2.1 1 = .ok (.getfield 26, 3) := by decide +kernel
theorem d_Hair_copyInto_4 : decode M_Hair_copyInto.2.1 4 = .ok (.istore 4, 2) := by decide +kernel
theorem d_Hair_copyInto_6 : decode M_Hair_copyInto.2.1 6 = .ok (.aload_n 0, 1) := by decide +kernel
theorem d_Hair_copyInto_7 : decode M_Hair_copyInto.2.1 7 = .ok (.getfield 18, 3) := by decide +kernel
theorem d_Hair_copyInto_10 : decode M_Hair_copyInto.2.1 10 = .ok (.getfield 128, 3) := by decide +kernel
theorem d_Hair_copyInto_13 : decode M_Hair_copyInto.2.1 13 = .ok (.iload_n 1, 1) := by decide +kernel
theorem d_Hair_copyInto_14 : decode M_Hair_copyInto.2.1 14 = .ok (.bipush 8, 2) := by decide +kernel
theorem d_Hair_copyInto_16 : decode M_Hair_copyInto.2.1 16 = .ok (.imul, 1) := by decide +kernel
theorem d_Hair_copyInto_17 : decode M_Hair_copyInto.2.1 17 = .ok (.aload_n 0, 1) := by decide +kernel
theorem d_Hair_copyInto_18 : decode M_Hair_copyInto.2.1 18 = .ok (.getfield 18, 3) := by decide +kernel
theorem d_Hair_copyInto_21 : decode M_Hair_copyInto.2.1 21 = .ok (.getfield 128, 3) := by decide +kernel
theorem d_Hair_copyInto_24 : decode M_Hair_copyInto.2.1 24 = .ok (.iload 4, 2) := by decide +kernel
theorem d_Hair_copyInto_26 : decode M_Hair_copyInto.2.1 26 = .ok (.bipush 8, 2) := by decide +kernel
theorem d_Hair_copyInto_28 : decode M_Hair_copyInto.2.1 28 = .ok (.imul, 1) := by decide +kernel
theorem d_Hair_copyInto_29 : decode M_Hair_copyInto.2.1 29 = .ok (.bipush 8, 2) := by decide +kernel
theorem d_Hair_copyInto_31 : decode M_Hair_copyInto.2.1 31 = .ok (.invokestatic 41, 3) := by decide +kernel
theorem d_Hair_copyInto_34 : decode M_Hair_copyInto.2.1 34 = .ok (.aload_n 0, 1) := by decide +kernel
theorem d_Hair_copyInto_35 : decode M_Hair_copyInto.2.1 35 = .ok (.getfield 18, 3) := by decide +kernel
theorem d_Hair_copyInto_38 : decode M_Hair_copyInto.2.1 38 = .ok (.iload 4, 2) := by decide +kernel
theorem d_Hair_copyInto_40 : decode M_Hair_copyInto.2.1 40 = .ok (.iconst 1, 1) := by decide +kernel
theorem d_Hair_copyInto_41 : decode M_Hair_copyInto.2.1 41 = .ok (.iload_n 2, 1) := by decide +kernel
theorem d_Hair_copyInto_42 : decode M_Hair_copyInto.2.1 42 = .ok (.invokevirtual 120, 3) := by decide +kernel
theorem d_Hair_copyInto_45 : decode M_Hair_copyInto.2.1 45 = .ok (.aload_n 0, 1) := by decide +kernel
theorem d_Hair_copyInto_46 : decode M_Hair_copyInto.2.1 46 = .ok (.getfield 18, 3) := by decide +kernel
theorem d_Hair_copyInto_49 : decode M_Hair_copyInto.2.1 49 = .ok (.iload 4, 2) := by decide +kernel
theorem d_Hair_copyInto_51 : decode M_Hair_copyInto.2.1 51 = .ok (.iconst 2, 1) := by decide +kernel
theorem d_Hair_copyInto_52 : decode M_Hair_copyInto.2.1 52 = .ok (.iload_n 3, 1) := by decide +kernel
theorem d_Hair_copyInto_53 : decode M_Hair_copyInto.2.1 53 = .ok (.invokevirtual 120, 3) := by decide +kernel
theorem d_Hair_copyInto_56 : decode M_Hair_copyInto.2.1 56 = .ok (.aload_n 0, 1) := by decide +kernel
theorem d_Hair_copyInto_57 : decode M_Hair_copyInto.2.1 57 = .ok (.iload 4, 2) := by decide +kernel
theorem d_Hair_copyInto_59 : decode M_Hair_copyInto.2.1 59 = .ok (.iload_n 2, 1) := by decide +kernel
theorem d_Hair_copyInto_60 : decode M_Hair_copyInto.2.1 60 = .ok (.invokevirtual 124, 3) := by decide +kernel
theorem d_Hair_copyInto_63 : decode M_Hair_copyInto.2.1 63 = .ok (.iload 4, 2) := by decide +kernel
theorem d_Hair_copyInto_65 : decode M_Hair_copyInto.2.1 65 = .ok (.ireturn, 1) := by decide +kernel

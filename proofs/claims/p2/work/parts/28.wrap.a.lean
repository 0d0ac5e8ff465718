/-! decode rows of 28.wrap (by program) -/
theorem d_Law_archive_0 : decode M_Law_archive.2.1 0 = .ok (.aload_n 2, 1) := by decide +kernel
theorem d_Law_archive_1 : decode M_Law_archive.2.1 1 = .ok (.iconst 0, 1) := by decide +kernel
theorem d_Law_archive_2 : decode M_Law_archive.2.1 2 = .ok (.aload_n 0, 1) := by decide +kernel
theorem d_Law_archive_3 : decode M_Law_archive.2.1 3 = .ok (.iload_n 1, 1) := by decide +kernel
theorem d_Law_archive_4 : decode M_Law_archive.2.1 4 = .ok (.invokevirtual 7, 3) := by decide +kernel
theorem d_Law_archive_7 : decode M_Law_archive.2.1 7 = .ok (.i2l, 1) := by decide +kernel
theorem d_Law_archive_8 : decode M_Law_archive.2.1 8 = .ok (.lastore, 1) := by decide +kernel
theorem d_Law_archive_9 : decode M_Law_archive.2.1 9 = .ok (.goto 6, 3) := by decide +kernel
theorem d_Law_archive_12 : decode M_Law_archive.2.1 12 = .ok (.astore_n 3, 1) := by decide +kernel
theorem d_Law_archive_13 : decode M_Law_archive.2.1 13 = .ok (.iconst 1, 1) := by decide +kernel
theorem d_Law_archive_14 : decode M_Law_archive.2.1 14 = .ok (.ireturn, 1) := by decide +kernel
theorem d_Law_archive_15 : decode M_Law_archive.2.1 15 = .ok (.iconst 0, 1) := by decide +kernel
theorem d_Law_archive_16 : decode M_Law_archive.2.1 16 = .ok (.ireturn, 1) := by decide +kernel
theorem d_Law_count_0 : decode M_Law_count.2.1 0 = .ok (.aload_n 2, 1) := by decide +kernel
theorem d_Law_count_1 : decode M_Law_count.2.1 1 = .ok (.iconst 0, 1) := by decide +kernel
theorem d_Law_count_2 : decode M_Law_count.2.1 2 = .ok (.aload_n 0, 1) := by decide +kernel
theorem d_Law_count_3 : decode M_Law_count.2.1 3 = .ok (.iload_n 1, 1) := by decide +kernel
theorem d_Law_count_4 : decode M_Law_count.2.1 4 = .ok (.invokevirtual 15, 3) := by decide +kernel
theorem d_Law_count_7 : decode M_Law_count.2.1 7 = .ok (.i2l, 1) := by decide +kernel
theorem d_Law_count_8 : decode M_Law_count.2.1 8 = .ok (.lastore, 1) := by decide +kernel
theorem d_Law_count_9 : decode M_Law_count.2.1 9 = .ok (.goto 6, 3) := by decide +kernel
theorem d_Law_count_12 : decode M_Law_count.2.1 12 = .ok (.astore_n 3, 1) := by decide +kernel
theorem d_Law_count_13 : decode M_Law_count.2.1 13 = .ok (.iconst 1, 1) := by decide +kernel
theorem d_Law_count_14 : decode M_Law_count.2.1 14 = .ok (.ireturn, 1) := by decide +kernel
theorem d_Law_count_15 : decode M_Law_count.2.1 15 = .ok (.iconst 0, 1) := by decide +kernel
theorem d_Law_count_16 : decode M_Law_count.2.1 16 = .ok (.ireturn, 1) := by decide +kernel
theorem d_Law_monk_0 : decode M_Law_monk.2.1 0 = .ok (.aload_n 3, 1) := by decide +kernel
theorem d_Law_monk_1 : decode M_Law_monk.2.1 1 = .ok (.iconst 0, 1) := by decide +kernel
theorem d_Law_monk_2 : decode M_Law_monk.2.1 2 = .ok (.aload_n 0, 1) := by decide +kernel
theorem d_Law_monk_3 : decode M_Law_monk.2.1 3 = .ok (.iload_n 1, 1) := by decide +kernel
theorem d_Law_monk_4 : decode M_Law_monk.2.1 4 = .ok (.iload_n 2, 1) := by decide +kernel
theorem d_Law_monk_5 : decode M_Law_monk.2.1 5 = .ok (.invokevirtual 20, 3) := by decide +kernel
theorem d_Law_monk_8 : decode M_Law_monk.2.1 8 = .ok (.i2l, 1) := by decide +kernel
theorem d_Law_monk_9 : decode M_Law_monk.2.1 9 = .ok (.lastore, 1) := by decide +kernel
theorem d_Law_monk_10 : decode M_Law_monk.2.1 10 = .ok (.goto 7, 3) := by decide +kernel
theorem d_Law_monk_13 : decode M_Law_monk.2.1 13 = .ok (.astore 4, 2) := by decide +kernel
theorem d_Law_monk_15 : decode M_Law_monk.2.1 15 = .ok (.iconst 1, 1) := by decide +kernel
theorem d_Law_monk_16 : decode M_Law_monk.2.1 16 = .ok (.ireturn, 1) := by decide +kernel
theorem d_Law_monk_17 : decode M_Law_monk.2.1 17 = .ok (.iconst 0, 1) := by decide +kernel
theorem d_Law_monk_18 : decode M_Law_monk.2.1 18 = .ok (.ireturn, 1) := by decide +kernel
theorem d_Law_entry_0 : decode M_Law_entry.2.1 0 = .ok (.aload_n 3, 1) := by decide +kernel
theorem d_Law_entry_1 : decode M_Law_entry.2.1 1 = .ok (.iconst 0, 1) := by decide +kernel
theorem d_Law_entry_2 : decode M_Law_entry.2.1 2 = .ok (.aload_n 0, 1) := by decide +kernel
theorem d_Law_entry_3 : decode M_Law_entry.2.1 3 = .ok (.iload_n 1, 1) := by decide +kernel
theorem d_Law_entry_4 : decode M_Law_entry.2.1 4 = .ok (.iload_n 2, 1) := by decide +kernel
theorem d_Law_entry_5 : decode M_Law_entry.2.1 5 = .ok (.invokevirtual 24, 3) := by decide +kernel
theorem d_Law_entry_8 : decode M_Law_entry.2.1 8 = .ok (.i2l, 1) := by decide +kernel
theorem d_Law_entry_9 : decode M_Law_entry.2.1 9 = .ok (.lastore, 1) := by decide +kernel
theorem d_Law_entry_10 : decode M_Law_entry.2.1 10 = .ok (.goto 7, 3) := by decide +kernel
theorem d_Law_entry_13 : decode M_Law_entry.2.1 13 = .ok (.astore 4, 2) := by decide +kernel
theorem d_Law_entry_15 : decode M_Law_entry.2.1 15 = .ok (.iconst 1, 1) := by decide +kernel
theorem d_Law_entry_16 : decode M_Law_entry.2.1 16 = .ok (.ireturn, 1) := by decide +kernel
theorem d_Law_entry_17 : decode M_Law_entry.2.1 17 = .ok (.iconst 0, 1) := by decide +kernel
theorem d_Law_entry_18 : decode M_Law_entry.2.1 18 = .ok (.ireturn, 1) := by decide +kernel
theorem d_Law_holders_0 : decode M_Law_holders.2.1 0 = .ok (.aload_n 2, 1) := by decide +kernel
theorem d_Law_holders_1 : decode M_Law_holders.2.1 1 = .ok (.iconst 0, 1) := by decide +kernel
theorem d_Law_holders_2 : decode M_Law_holders.2.1 2 = .ok (.aload_n 0, 1) := by decide +kernel
theorem d_Law_holders_3 : decode M_Law_holders.2.1 3 = .ok (.iload_n 1, 1) := by decide +kernel
theorem d_Law_holders_4 : decode M_Law_holders.2.1 4 = .ok (.invokevirtual 27, 3) := by decide +kernel
theorem d_Law_holders_7 : decode M_Law_holders.2.1 7 = .ok (.i2l, 1) := by decide +kernel
theorem d_Law_holders_8 : decode M_Law_holders.2.1 8 = .ok (.lastore, 1) := by decide +kernel
theorem d_Law_holders_9 : decode M_Law_holders.2.1 9 = .ok (.goto 6, 3) := by decide +kernel
theorem d_Law_holders_12 : decode M_Law_holders.2.1 12 = .ok (.astore_n 3, 1) := by decide +kernel
theorem d_Law_holders_13 : decode M_Law_holders.2.1 13 = .ok (.iconst 1, 1) := by decide +kernel
theorem d_Law_holders_14 : decode M_Law_holders.2.1 14 = .ok (.ireturn, 1) := by decide +kernel
theorem d_Law_holders_15 : decode M_Law_holders.2.1 15 = .ok (.iconst 0, 1) := by decide +kernel
theorem d_Law_holders_16 : decode M_Law_holders.2.1 16 = .ok (.ireturn, 1) := by decide +kernel
theorem d_Law_may_0 : decode M_Law_may.2.1 0 = .ok (.aload_n 3, 1) := by decide +kernel
theorem d_Law_may_1 : decode M_Law_may.2.1 1 = .ok (.iconst 0, 1) := by decide +kernel
theorem d_Law_may_2 : decode M_Law_may.2.1 2 = .ok (.aload_n 0, 1) := by decide +kernel
theorem d_Law_may_3 : decode M_Law_may.2.1 3 = .ok (.iload_n 1, 1) := by decide +kernel
theorem d_Law_may_4 : decode M_Law_may.2.1 4 = .ok (.iload_n 2, 1) := by decide +kernel
theorem d_Law_may_5 : decode M_Law_may.2.1 5 = .ok (.invokevirtual 30, 3) := by decide +kernel
theorem d_Law_may_8 : decode M_Law_may.2.1 8 = .ok (.ifCond .eq 7, 3) := by decide +kernel
theorem d_Law_may_11 : decode M_Law_may.2.1 11 = .ok (.lconst 1, 1) := by decide +kernel
theorem d_Law_may_12 : decode M_Law_may.2.1 12 = .ok (.goto 4, 3) := by decide +kernel
theorem d_Law_may_15 : decode M_Law_may.2.1 15 = .ok (.lconst 0, 1) := by decide +kernel
theorem d_Law_may_16 : decode M_Law_may.2.1 16 = .ok (.lastore, 1) := by decide +kernel
theorem d_Law_may_17 : decode M_Law_may.2.1 17 = .ok (.goto 7, 3) := by decide +kernel
theorem d_Law_may_20 : decode M_Law_may.2.1 20 = .ok (.astore 4, 2) := by decide +kernel
theorem d_Law_may_22 : decode M_Law_may.2.1 22 = .ok (.iconst 1, 1) := by decide +kernel
theorem d_Law_may_23 : decode M_Law_may.2.1 23 = .ok (.ireturn, 1) := by decide +kernel
theorem d_Law_may_24 : decode M_Law_may.2.1 24 = .ok (.iconst 0, 1) := by decide +kernel
theorem d_Law_may_25 : decode M_Law_may.2.1 25 = .ok (.ireturn, 1) := by decide +kernel
theorem d_Law_braid_0 : decode M_Law_braid.2.1 0 = .ok (.aload 5, 2) := by decide +kernel
theorem d_Law_braid_2 : decode M_Law_braid.2.1 2 = .ok (.iconst 0, 1) := by decide +kernel
theorem d_Law_braid_3 : decode M_Law_braid.2.1 3 = .ok (.aload_n 0, 1) := by decide +kernel
theorem d_Law_braid_4 : decode M_Law_braid.2.1 4 = .ok (.iload_n 1, 1) := by decide +kernel
theorem d_Law_braid_5 : decode M_Law_braid.2.1 5 = .ok (.iload_n 2, 1) := by decide +kernel
theorem d_Law_braid_6 : decode M_Law_braid.2.1 6 = .ok (.iload_n 3, 1) := by decide +kernel
theorem d_Law_braid_7 : decode M_Law_braid.2.1 7 = .ok (.iload 4, 2) := by decide +kernel
theorem d_Law_braid_9 : decode M_Law_braid.2.1 9 = .ok (.invokevirtual 34, 3) := by decide +kernel
theorem d_Law_braid_12 : decode M_Law_braid.2.1 12 = .ok (.i2l, 1) := by decide +kernel
theorem d_Law_braid_13 : decode M_Law_braid.2.1 13 = .ok (.lastore, 1) := by decide +kernel
theorem d_Law_braid_14 : decode M_Law_braid.2.1 14 = .ok (.goto 7, 3) := by decide +kernel
theorem d_Law_braid_17 : decode M_Law_braid.2.1 17 = .ok (.astore 6, 2) := by decide +kernel
theorem d_Law_braid_19 : decode M_Law_braid.2.1 19 = .ok (.iconst 1, 1) := by decide +kernel
theorem d_Law_braid_20 : decode M_Law_braid.2.1 20 = .ok (.ireturn, 1) := by decide +kernel
theorem d_Law_braid_21 : decode M_Law_braid.2.1 21 = .ok (.iconst 0, 1) := by decide +kernel
theorem d_Law_braid_22 : decode M_Law_braid.2.1 22 = .ok (.ireturn, 1) := by decide +kernel
theorem d_Law_copy_0 : decode M_Law_copy.2.1 0 = .ok (.aload_n 3, 1) := by decide +kernel
theorem d_Law_copy_1 : decode M_Law_copy.2.1 1 = .ok (.iconst 0, 1) := by decide +kernel
theorem d_Law_copy_2 : decode M_Law_copy.2.1 2 = .ok (.aload_n 0, 1) := by decide +kernel
theorem d_Law_copy_3 : decode M_Law_copy.2.1 3 = .ok (.iload_n 1, 1) := by decide +kernel
theorem d_Law_copy_4 : decode M_Law_copy.2.1 4 = .ok (.iload_n 2, 1) := by decide +kernel
theorem d_Law_copy_5 : decode M_Law_copy.2.1 5 = .ok (.invokevirtual 38, 3) := by decide +kernel
theorem d_Law_copy_8 : decode M_Law_copy.2.1 8 = .ok (.i2l, 1) := by decide +kernel
theorem d_Law_copy_9 : decode M_Law_copy.2.1 9 = .ok (.lastore, 1) := by decide +kernel
theorem d_Law_copy_10 : decode M_Law_copy.2.1 10 = .ok (.goto 7, 3) := by decide +kernel
theorem d_Law_copy_13 : decode M_Law_copy.2.1 13 = .ok (.astore 4, 2) := by decide +kernel
theorem d_Law_copy_15 : decode M_Law_copy.2.1 15 = .ok (.iconst 1, 1) := by decide +kernel
theorem d_Law_copy_16 : decode M_Law_copy.2.1 16 = .ok (.ireturn, 1) := by decide +kernel
theorem d_Law_copy_17 : decode M_Law_copy.2.1 17 = .ok (.iconst 0, 1) := by decide +kernel
theorem d_Law_copy_18 : decode M_Law_copy.2.1 18 = .ok (.ireturn, 1) := by decide +kernel
theorem d_Law_knot_0 : decode M_Law_knot.2.1 0 = .ok (.aload_n 2, 1) := by decide +kernel
theorem d_Law_knot_1 : decode M_Law_knot.2.1 1 = .ok (.iconst 0, 1) := by decide +kernel
theorem d_Law_knot_2 : decode M_Law_knot.2.1 2 = .ok (.aload_n 0, 1) := by decide +kernel
theorem d_Law_knot_3 : decode M_Law_knot.2.1 3 = .ok (.iload_n 1, 1) := by decide +kernel
theorem d_Law_knot_4 : decode M_Law_knot.2.1 4 = .ok (.invokevirtual 41, 3) := by decide +kernel
theorem d_Law_knot_7 : decode M_Law_knot.2.1 7 = .ok (.ifCond .eq 7, 3) := by decide +kernel
theorem d_Law_knot_10 : decode M_Law_knot.2.1 10 = .ok (.lconst 1, 1) := by decide +kernel
theorem d_Law_knot_11 : decode M_Law_knot.2.1 11 = .ok (.goto 4, 3) := by decide +kernel
theorem d_Law_knot_14 : decode M_Law_knot.2.1 14 = .ok (.lconst 0, 1) := by decide +kernel
theorem d_Law_knot_15 : decode M_Law_knot.2.1 15 = .ok (.lastore, 1) := by decide +kernel
theorem d_Law_knot_16 : decode M_Law_knot.2.1 16 = .ok (.goto 6, 3) := by decide +kernel
theorem d_Law_knot_19 : decode M_Law_knot.2.1 19 = .ok (.astore_n 3, 1) := by decide +kernel
theorem d_Law_knot_20 : decode M_Law_knot.2.1 20 = .ok (.iconst 1, 1) := by decide +kernel
theorem d_Law_knot_21 : decode M_Law_knot.2.1 21 = .ok (.ireturn, 1) := by decide +kernel
theorem d_Law_knot_22 : decode M_Law_knot.2.1 22 = .ok (.iconst 0, 1) := by decide +kernel
theorem d_Law_knot_23 : decode M_Law_knot.2.1 23 = .ok (.ireturn, 1) := by decide +kernel
theorem d_Law_comb_0 : decode M_Law_comb.2.1 0 = .ok (.aload_n 2, 1) := by decide +kernel
theorem d_Law_comb_1 : decode M_Law_comb.2.1 1 = .ok (.iconst 0, 1) := by decide +kernel
theorem d_Law_comb_2 : decode M_Law_comb.2.1 2 = .ok (.aload_n 0, 1) := by decide +kernel
theorem d_Law_comb_3 : decode M_Law_comb.2.1 3 = .ok (.iload_n 1, 1) := by decide +kernel
theorem d_Law_comb_4 : decode M_Law_comb.2.1 4 = .ok (.invokevirtual 45, 3) := by decide +kernel
theorem d_Law_comb_7 : decode M_Law_comb.2.1 7 = .ok (.ifCond .eq 7, 3) := by decide +kernel
theorem d_Law_comb_10 : decode M_Law_comb.2.1 10 = .ok (.lconst 1, 1) := by decide +kernel
theorem d_Law_comb_11 : decode M_Law_comb.2.1 11 = .ok (.goto 4, 3) := by decide +kernel
theorem d_Law_comb_14 : decode M_Law_comb.2.1 14 = .ok (.lconst 0, 1) := by decide +kernel
theorem d_Law_comb_15 : decode M_Law_comb.2.1 15 = .ok (.lastore, 1) := by decide +kernel
theorem d_Law_comb_16 : decode M_Law_comb.2.1 16 = .ok (.goto 6, 3) := by decide +kernel
theorem d_Law_comb_19 : decode M_Law_comb.2.1 19 = .ok (.astore_n 3, 1) := by decide +kernel
theorem d_Law_comb_20 : decode M_Law_comb.2.1 20 = .ok (.iconst 1, 1) := by decide +kernel
theorem d_Law_comb_21 : decode M_Law_comb.2.1 21 = .ok (.ireturn, 1) := by decide +kernel
theorem d_Law_comb_22 : decode M_Law_comb.2.1 22 = .ok (.iconst 0, 1) := by decide +kernel
theorem d_Law_comb_23 : decode M_Law_comb.2.1 23 = .ok (.ireturn, 1) := by decide +kernel
theorem d_Law_shave_0 : decode M_Law_shave.2.1 0 = .ok (.aload_n 3, 1) := by decide +kernel
theorem d_Law_shave_1 : decode M_Law_shave.2.1 1 = .ok (.iconst 0, 1) := by decide +kernel
theorem d_Law_shave_2 : decode M_Law_shave.2.1 2 = .ok (.aload_n 0, 1) := by decide +kernel
theorem d_Law_shave_3 : decode M_Law_shave.2.1 3 = .ok (.iload_n 1, 1) := by decide +kernel
theorem d_Law_shave_4 : decode M_Law_shave.2.1 4 = .ok (.iload_n 2, 1) := by decide +kernel
theorem d_Law_shave_5 : decode M_Law_shave.2.1 5 = .ok (.invokevirtual 48, 3) := by decide +kernel
theorem d_Law_shave_8 : decode M_Law_shave.2.1 8 = .ok (.i2l, 1) := by decide +kernel
theorem d_Law_shave_9 : decode M_Law_shave.2.1 9 = .ok (.lastore, 1) := by decide +kernel
theorem d_Law_shave_10 : decode M_Law_shave.2.1 10 = .ok (.goto 7, 3) := by decide +kernel
theorem d_Law_shave_13 : decode M_Law_shave.2.1 13 = .ok (.astore 4, 2) := by decide +kernel
theorem d_Law_shave_15 : decode M_Law_shave.2.1 15 = .ok (.iconst 1, 1) := by decide +kernel
theorem d_Law_shave_16 : decode M_Law_shave.2.1 16 = .ok (.ireturn, 1) := by decide +kernel
theorem d_Law_shave_17 : decode M_Law_shave.2.1 17 = .ok (.iconst 0, 1) := by decide +kernel
theorem d_Law_shave_18 : decode M_Law_shave.2.1 18 = .ok (.ireturn, 1) := by decide +kernel
theorem d_Law_moths_0 : decode M_Law_moths.2.1 0 = .ok (.aload 4, 2) := by decide +kernel
theorem d_Law_moths_2 : decode M_Law_moths.2.1 2 = .ok (.iconst 0, 1) := by decide +kernel
theorem d_Law_moths_3 : decode M_Law_moths.2.1 3 = .ok (.aload_n 0, 1) := by decide +kernel
theorem d_Law_moths_4 : decode M_Law_moths.2.1 4 = .ok (.iload_n 1, 1) := by decide +kernel
theorem d_Law_moths_5 : decode M_Law_moths.2.1 5 = .ok (.iload_n 2, 1) := by decide +kernel
theorem d_Law_moths_6 : decode M_Law_moths.2.1 6 = .ok (.iload_n 3, 1) := by decide +kernel
theorem d_Law_moths_7 : decode M_Law_moths.2.1 7 = .ok (.invokevirtual 51, 3) := by decide +kernel
theorem d_Law_moths_10 : decode M_Law_moths.2.1 10 = .ok (.i2l, 1) := by decide +kernel
theorem d_Law_moths_11 : decode M_Law_moths.2.1 11 = .ok (.lastore, 1) := by decide +kernel
theorem d_Law_moths_12 : decode M_Law_moths.2.1 12 = .ok (.goto 7, 3) := by decide +kernel
theorem d_Law_moths_15 : decode M_Law_moths.2.1 15 = .ok (.astore 5, 2) := by decide +kernel
theorem d_Law_moths_17 : decode M_Law_moths.2.1 17 = .ok (.iconst 1, 1) := by decide +kernel
theorem d_Law_moths_18 : decode M_Law_moths.2.1 18 = .ok (.ireturn, 1) := by decide +kernel
theorem d_Law_moths_19 : decode M_Law_moths.2.1 19 = .ok (.iconst 0, 1) := by decide +kernel
theorem d_Law_moths_20 : decode M_Law_moths.2.1 20 = .ok (.ireturn, 1) := by decide +kernel
theorem d_Law_die_0 : decode M_Law_die.2.1 0 = .ok (.aload_n 2, 1) := by decide +kernel
theorem d_Law_die_1 : decode M_Law_die.2.1 1 = .ok (.iconst 0, 1) := by decide +kernel
theorem d_Law_die_2 : decode M_Law_die.2.1 2 = .ok (.aload_n 0, 1) := by decide +kernel
theorem d_Law_die_3 : decode M_Law_die.2.1 3 = .ok (.iload_n 1, 1) := by decide +kernel
theorem d_Law_die_4 : decode M_Law_die.2.1 4 = .ok (.invokevirtual 55, 3) := by decide +kernel
theorem d_Law_die_7 : decode M_Law_die.2.1 7 = .ok (.ifCond .eq 7, 3) := by decide +kernel
theorem d_Law_die_10 : decode M_Law_die.2.1 10 = .ok (.lconst 1, 1) := by decide +kernel
theorem d_Law_die_11 : decode M_Law_die.2.1 11 = .ok (.goto 4, 3) := by decide +kernel
theorem d_Law_die_14 : decode M_Law_die.2.1 14 = .ok (.lconst 0, 1) := by decide +kernel
theorem d_Law_die_15 : decode M_Law_die.2.1 15 = .ok (.lastore, 1) := by decide +kernel
theorem d_Law_die_16 : decode M_Law_die.2.1 16 = .ok (.goto 6, 3) := by decide +kernel
theorem d_Law_die_19 : decode M_Law_die.2.1 19 = .ok (.astore_n 3, 1) := by decide +kernel
theorem d_Law_die_20 : decode M_Law_die.2.1 20 = .ok (.iconst 1, 1) := by decide +kernel
theorem d_Law_die_21 : decode M_Law_die.2.1 21 = .ok (.ireturn, 1) := by decide +kernel
theorem d_Law_die_22 : decode M_Law_die.2.1 22 = .ok (.iconst 0, 1) := by decide +kernel
theorem d_Law_die_23 : decode M_Law_die.2.1 23 = .ok (.ireturn, 1) := by decide +kernel
theorem d_Law_law_0 : decode M_Law_law.2.1 0 = .ok (.aload_n 2, 1) := by decide +kernel
theorem d_Law_law_1 : decode M_Law_law.2.1 1 = .ok (.iconst 0, 1) := by decide +kernel
theorem d_Law_law_2 : decode M_Law_law.2.1 2 = .ok (.aload_n 0, 1) := by decide +kernel
theorem d_Law_law_3 : decode M_Law_law.2.1 3 = .ok (.iload_n 1, 1) := by decide +kernel
theorem d_Law_law_4 : decode M_Law_law.2.1 4 = .ok (.invokevirtual 58, 3) := by decide +kernel
theorem d_Law_law_7 : decode M_Law_law.2.1 7 = .ok (.i2l, 1) := by decide +kernel
theorem d_Law_law_8 : decode M_Law_law.2.1 8 = .ok (.lastore, 1) := by decide +kernel
theorem d_Law_law_9 : decode M_Law_law.2.1 9 = .ok (.goto 6, 3) := by decide +kernel
theorem d_Law_law_12 : decode M_Law_law.2.1 12 = .ok (.astore_n 3, 1) := by decide +kernel
theorem d_Law_law_13 : decode M_Law_law.2.1 13 = .ok (.iconst 1, 1) := by decide +kernel
theorem d_Law_law_14 : decode M_Law_law.2.1 14 = .ok (.ireturn, 1) := by decide +kernel
theorem d_Law_law_15 : decode M_Law_law.2.1 15 = .ok (.iconst 0, 1) := by decide +kernel
theorem d_Law_law_16 : decode M_Law_law.2.1 16 = .ok (.ireturn, 1) := by decide +kernel
theorem d_Law_owed_0 : decode M_Law_owed.2.1 0 = .ok (.aload_n 2, 1) := by decide +kernel
theorem d_Law_owed_1 : decode M_Law_owed.2.1 1 = .ok (.iconst 0, 1) := by decide +kernel
theorem d_Law_owed_2 : decode M_Law_owed.2.1 2 = .ok (.aload_n 0, 1) := by decide +kernel
theorem d_Law_owed_3 : decode M_Law_owed.2.1 3 = .ok (.iload_n 1, 1) := by decide +kernel
theorem d_Law_owed_4 : decode M_Law_owed.2.1 4 = .ok (.invokevirtual 61, 3) := by decide +kernel
theorem d_Law_owed_7 : decode M_Law_owed.2.1 7 = .ok (.i2l, 1) := by decide +kernel
theorem d_Law_owed_8 : decode M_Law_owed.2.1 8 = .ok (.lastore, 1) := by decide +kernel
theorem d_Law_owed_9 : decode M_Law_owed.2.1 9 = .ok (.goto 6, 3) := by decide +kernel
theorem d_Law_owed_12 : decode M_Law_owed.2.1 12 = .ok (.astore_n 3, 1) := by decide +kernel
theorem d_Law_owed_13 : decode M_Law_owed.2.1 13 = .ok (.iconst 1, 1) := by decide +kernel
theorem d_Law_owed_14 : decode M_Law_owed.2.1 14 = .ok (.ireturn, 1) := by decide +kernel
theorem d_Law_owed_15 : decode M_Law_owed.2.1 15 = .ok (.iconst 0, 1) := by decide +kernel
theorem d_Law_owed_16 : decode M_Law_owed.2.1 16 = .ok (.ireturn, 1) := by decide +kernel
theorem d_Law_barbers_0 : decode M_Law_barbers.2.1 0 = .ok (.aload_n 2, 1) := by decide +kernel
theorem d_Law_barbers_1 : decode M_Law_barbers.2.1 1 = .ok (.iconst 0, 1) := by decide +kernel
theorem d_Law_barbers_2 : decode M_Law_barbers.2.1 2 = .ok (.aload_n 0, 1) := by decide +kernel
theorem d_Law_barbers_3 : decode M_Law_barbers.2.1 3 = .ok (.iload_n 1, 1) := by decide +kernel
theorem d_Law_barbers_4 : decode M_Law_barbers.2.1 4 = .ok (.invokevirtual 64, 3) := by decide +kernel
theorem d_Law_barbers_7 : decode M_Law_barbers.2.1 7 = .ok (.i2l, 1) := by decide +kernel
theorem d_Law_barbers_8 : decode M_Law_barbers.2.1 8 = .ok (.lastore, 1) := by decide +kernel
theorem d_Law_barbers_9 : decode M_Law_barbers.2.1 9 = .ok (.goto 6, 3) := by decide +kernel
theorem d_Law_barbers_12 : decode M_Law_barbers.2.1 12 = .ok (.astore_n 3, 1) := by decide +kernel
theorem d_Law_barbers_13 : decode M_Law_barbers.2.1 13 = .ok (.iconst 1, 1) := by decide +kernel
theorem d_Law_barbers_14 : decode M_Law_barbers.2.1 14 = .ok (.ireturn, 1) := by decide +kernel
theorem d_Law_barbers_15 : decode M_Law_barbers.2.1 15 = .ok (.iconst 0, 1) := by decide +kernel
theorem d_Law_barbers_16 : decode M_Law_barbers.2.1 16 = .ok (.ireturn, 1) := by decide +kernel
theorem d_Law_shortest_0 : decode M_Law_shortest.2.1 0 = .ok (.aload_n 2, 1) := by decide +kernel
theorem d_Law_shortest_1 : decode M_Law_shortest.2.1 1 = .ok (.iconst 0, 1) := by decide +kernel
theorem d_Law_shortest_2 : decode M_Law_shortest.2.1 2 = .ok (.aload_n 0, 1) := by decide +kernel
theorem d_Law_shortest_3 : decode M_Law_shortest.2.1 3 = .ok (.iload_n 1, 1) := by decide +kernel
theorem d_Law_shortest_4 : decode M_Law_shortest.2.1 4 = .ok (.invokevirtual 67, 3) := by decide +kernel
theorem d_Law_shortest_7 : decode M_Law_shortest.2.1 7 = .ok (.i2l, 1) := by decide +kernel
theorem d_Law_shortest_8 : decode M_Law_shortest.2.1 8 = .ok (.lastore, 1) := by decide +kernel
theorem d_Law_shortest_9 : decode M_Law_shortest.2.1 9 = .ok (.goto 6, 3) := by decide +kernel
theorem d_Law_shortest_12 : decode M_Law_shortest.2.1 12 = .ok (.astore_n 3, 1) := by decide +kernel
theorem d_Law_shortest_13 : decode M_Law_shortest.2.1 13 = .ok (.iconst 1, 1) := by decide +kernel
theorem d_Law_shortest_14 : decode M_Law_shortest.2.1 14 = .ok (.ireturn, 1) := by decide +kernel
theorem d_Law_shortest_15 : decode M_Law_shortest.2.1 15 = .ok (.iconst 0, 1) := by decide +kernel
theorem d_Law_shortest_16 : decode M_Law_shortest.2.1 16 = .ok (.ireturn, 1) := by decide +kernel
theorem d_Law_amnesty_0 : decode M_Law_amnesty.2.1 0 = .ok (.aload 4, 2) := by decide +kernel
theorem d_Law_amnesty_2 : decode M_Law_amnesty.2.1 2 = .ok (.iconst 0, 1) := by decide +kernel
theorem d_Law_amnesty_3 : decode M_Law_amnesty.2.1 3 = .ok (.aload_n 0, 1) := by decide +kernel
theorem d_Law_amnesty_4 : decode M_Law_amnesty.2.1 4 = .ok (.iload_n 1, 1) := by decide +kernel
theorem d_Law_amnesty_5 : decode M_Law_amnesty.2.1 5 = .ok (.iload_n 2, 1) := by decide +kernel
theorem d_Law_amnesty_6 : decode M_Law_amnesty.2.1 6 = .ok (.iload_n 3, 1) := by decide +kernel
theorem d_Law_amnesty_7 : decode M_Law_amnesty.2.1 7 = .ok (.invokevirtual 70, 3) := by decide +kernel
theorem d_Law_amnesty_10 : decode M_Law_amnesty.2.1 10 = .ok (.i2l, 1) := by decide +kernel
theorem d_Law_amnesty_11 : decode M_Law_amnesty.2.1 11 = .ok (.lastore, 1) := by decide +kernel
theorem d_Law_amnesty_12 : decode M_Law_amnesty.2.1 12 = .ok (.goto 11, 3) := by decide +kernel
theorem d_Law_amnesty_15 : decode M_Law_amnesty.2.1 15 = .ok (.astore 5, 2) := by decide +kernel
theorem d_Law_amnesty_17 : decode M_Law_amnesty.2.1 17 = .ok (.iconst 1, 1) := by decide +kernel
theorem d_Law_amnesty_18 : decode M_Law_amnesty.2.1 18 = .ok (.ireturn, 1) := by decide +kernel
theorem d_Law_amnesty_19 : decode M_Law_amnesty.2.1 19 = .ok (.astore 5, 2) := by decide +kernel
theorem d_Law_amnesty_21 : decode M_Law_amnesty.2.1 21 = .ok (.iconst 2, 1) := by decide +kernel
theorem d_Law_amnesty_22 : decode M_Law_amnesty.2.1 22 = .ok (.ireturn, 1) := by decide +kernel
theorem d_Law_amnesty_23 : decode M_Law_amnesty.2.1 23 = .ok (.iconst 0, 1) := by decide +kernel
theorem d_Law_amnesty_24 : decode M_Law_amnesty.2.1 24 = .ok (.ireturn, 1) := by decide +kernel
theorem d_Law_week_0 : decode M_Law_week.2.1 0 = .ok (.aload_n 3, 1) := by decide +kernel
theorem d_Law_week_1 : decode M_Law_week.2.1 1 = .ok (.iconst 0, 1) := by decide +kernel
theorem d_Law_week_2 : decode M_Law_week.2.1 2 = .ok (.aload_n 0, 1) := by decide +kernel
theorem d_Law_week_3 : decode M_Law_week.2.1 3 = .ok (.iload_n 1, 1) := by decide +kernel
theorem d_Law_week_4 : decode M_Law_week.2.1 4 = .ok (.iload_n 2, 1) := by decide +kernel
theorem d_Law_week_5 : decode M_Law_week.2.1 5 = .ok (.invokevirtual 73, 3) := by decide +kernel
theorem d_Law_week_8 : decode M_Law_week.2.1 8 = .ok (.i2l, 1) := by decide +kernel
theorem d_Law_week_9 : decode M_Law_week.2.1 9 = .ok (.lastore, 1) := by decide +kernel
theorem d_Law_week_10 : decode M_Law_week.2.1 10 = .ok (.goto 7, 3) := by decide +kernel
theorem d_Law_week_13 : decode M_Law_week.2.1 13 = .ok (.astore 4, 2) := by decide +kernel
theorem d_Law_week_15 : decode M_Law_week.2.1 15 = .ok (.iconst 1, 1) := by decide +kernel
theorem d_Law_week_16 : decode M_Law_week.2.1 16 = .ok (.ireturn, 1) := by decide +kernel
theorem d_Law_week_17 : decode M_Law_week.2.1 17 = .ok (.iconst 0, 1) := by decide +kernel
theorem d_Law_week_18 : decode M_Law_week.2.1 18 = .ok (.ireturn, 1) := by decide +kernel
theorem d_Law_oldest_0 : decode M_Law_oldest.2.1 0 = .ok (.aload_n 3, 1) := by decide +kernel
theorem d_Law_oldest_1 : decode M_Law_oldest.2.1 1 = .ok (.iconst 0, 1) := by decide +kernel
theorem d_Law_oldest_2 : decode M_Law_oldest.2.1 2 = .ok (.aload_n 0, 1) := by decide +kernel
theorem d_Law_oldest_3 : decode M_Law_oldest.2.1 3 = .ok (.iload_n 1, 1) := by decide +kernel
theorem d_Law_oldest_4 : decode M_Law_oldest.2.1 4 = .ok (.iload_n 2, 1) := by decide +kernel
theorem d_Law_oldest_5 : decode M_Law_oldest.2.1 5 = .ok (.invokevirtual 76, 3) := by decide +kernel
theorem d_Law_oldest_8 : decode M_Law_oldest.2.1 8 = .ok (.i2l, 1) := by decide +kernel
theorem d_Law_oldest_9 : decode M_Law_oldest.2.1 9 = .ok (.lastore, 1) := by decide +kernel
theorem d_Law_oldest_10 : decode M_Law_oldest.2.1 10 = .ok (.goto 7, 3) := by decide +kernel
theorem d_Law_oldest_13 : decode M_Law_oldest.2.1 13 = .ok (.astore 4, 2) := by decide +kernel
theorem d_Law_oldest_15 : decode M_Law_oldest.2.1 15 = .ok (.iconst 1, 1) := by decide +kernel
theorem d_Law_oldest_16 : decode M_Law_oldest.2.1 16 = .ok (.ireturn, 1) := by decide +kernel
theorem d_Law_oldest_17 : decode M_Law_oldest.2.1 17 = .ok (.iconst 0, 1) := by decide +kernel
theorem d_Law_oldest_18 : decode M_Law_oldest.2.1 18 = .ok (.ireturn, 1) := by decide +kernel
theorem d_Law_believed_0 : decode M_Law_believed.2.1 0 = .ok (.aload_n 2, 1) := by decide +kernel
theorem d_Law_believed_1 : decode M_Law_believed.2.1 1 = .ok (.iconst 0, 1) := by decide +kernel
theorem d_Law_believed_2 : decode M_Law_believed.2.1 2 = .ok (.aload_n 0, 1) := by decide +kernel
theorem d_Law_believed_3 : decode M_Law_believed.2.1 3 = .ok (.iload_n 1, 1) := by decide +kernel
theorem d_Law_believed_4 : decode M_Law_believed.2.1 4 = .ok (.invokevirtual 79, 3) := by decide +kernel
theorem d_Law_believed_7 : decode M_Law_believed.2.1 7 = .ok (.i2l, 1) := by decide +kernel
theorem d_Law_believed_8 : decode M_Law_believed.2.1 8 = .ok (.lastore, 1) := by decide +kernel
theorem d_Law_believed_9 : decode M_Law_believed.2.1 9 = .ok (.goto 6, 3) := by decide +kernel
theorem d_Law_believed_12 : decode M_Law_believed.2.1 12 = .ok (.astore_n 3, 1) := by decide +kernel
theorem d_Law_believed_13 : decode M_Law_believed.2.1 13 = .ok (.iconst 1, 1) := by decide +kernel
theorem d_Law_believed_14 : decode M_Law_believed.2.1 14 = .ok (.ireturn, 1) := by decide +kernel
theorem d_Law_believed_15 : decode M_Law_believed.2.1 15 = .ok (.iconst 0, 1) := by decide +kernel
theorem d_Law_believed_16 : decode M_Law_believed.2.1 16 = .ok (.ireturn, 1) := by decide +kernel
theorem d_Law_until_0 : decode M_Law_until.2.1 0 = .ok (.aload_n 2, 1) := by decide +kernel
theorem d_Law_until_1 : decode M_Law_until.2.1 1 = .ok (.iconst 0, 1) := by decide +kernel
theorem d_Law_until_2 : decode M_Law_until.2.1 2 = .ok (.aload_n 0, 1) := by decide +kernel
theorem d_Law_until_3 : decode M_Law_until.2.1 3 = .ok (.iload_n 1, 1) := by decide +kernel
theorem d_Law_until_4 : decode M_Law_until.2.1 4 = .ok (.invokevirtual 82, 3) := by decide +kernel
theorem d_Law_until_7 : decode M_Law_until.2.1 7 = .ok (.i2l, 1) := by decide +kernel
theorem d_Law_until_8 : decode M_Law_until.2.1 8 = .ok (.lastore, 1) := by decide +kernel
theorem d_Law_until_9 : decode M_Law_until.2.1 9 = .ok (.goto 6, 3) := by decide +kernel
theorem d_Law_until_12 : decode M_Law_until.2.1 12 = .ok (.astore_n 3, 1) := by decide +kernel
theorem d_Law_until_13 : decode M_Law_until.2.1 13 = .ok (.iconst 1, 1) := by decide +kernel
theorem d_Law_until_14 : decode M_Law_until.2.1 14 = .ok (.ireturn, 1) := by decide +kernel
theorem d_Law_until_15 : decode M_Law_until.2.1 15 = .ok (.iconst 0, 1) := by decide +kernel
theorem d_Law_until_16 : decode M_Law_until.2.1 16 = .ok (.ireturn, 1) := by decide +kernel
theorem d_Law_doomed_0 : decode M_Law_doomed.2.1 0 = .ok (.aload_n 2, 1) := by decide +kernel
theorem d_Law_doomed_1 : decode M_Law_doomed.2.1 1 = .ok (.iconst 0, 1) := by decide +kernel
theorem d_Law_doomed_2 : decode M_Law_doomed.2.1 2 = .ok (.aload_n 0, 1) := by decide +kernel
theorem d_Law_doomed_3 : decode M_Law_doomed.2.1 3 = .ok (.iload_n 1, 1) := by decide +kernel
theorem d_Law_doomed_4 : decode M_Law_doomed.2.1 4 = .ok (.invokevirtual 85, 3) := by decide +kernel
theorem d_Law_doomed_7 : decode M_Law_doomed.2.1 7 = .ok (.i2l, 1) := by decide +kernel
theorem d_Law_doomed_8 : decode M_Law_doomed.2.1 8 = .ok (.lastore, 1) := by decide +kernel
theorem d_Law_doomed_9 : decode M_Law_doomed.2.1 9 = .ok (.goto 6, 3) := by decide +kernel
theorem d_Law_doomed_12 : decode M_Law_doomed.2.1 12 = .ok (.astore_n 3, 1) := by decide +kernel
theorem d_Law_doomed_13 : decode M_Law_doomed.2.1 13 = .ok (.iconst 1, 1) := by decide +kernel
theorem d_Law_doomed_14 : decode M_Law_doomed.2.1 14 = .ok (.ireturn, 1) := by decide +kernel
theorem d_Law_doomed_15 : decode M_Law_doomed.2.1 15 = .ok (.iconst 0, 1) := by decide +kernel
theorem d_Law_doomed_16 : decode M_Law_doomed.2.1 16 = .ok (.ireturn, 1) := by decide +kernel
theorem d_Law_heir_0 : decode M_Law_heir.2.1 0 = .ok (.aload_n 2, 1) := by decide +kernel
theorem d_Law_heir_1 : decode M_Law_heir.2.1 1 = .ok (.iconst 0, 1) := by decide +kernel
theorem d_Law_heir_2 : decode M_Law_heir.2.1 2 = .ok (.aload_n 0, 1) := by decide +kernel
theorem d_Law_heir_3 : decode M_Law_heir.2.1 3 = .ok (.iload_n 1, 1) := by decide +kernel
theorem d_Law_heir_4 : decode M_Law_heir.2.1 4 = .ok (.invokevirtual 88, 3) := by decide +kernel
theorem d_Law_heir_7 : decode M_Law_heir.2.1 7 = .ok (.i2l, 1) := by decide +kernel
theorem d_Law_heir_8 : decode M_Law_heir.2.1 8 = .ok (.lastore, 1) := by decide +kernel
theorem d_Law_heir_9 : decode M_Law_heir.2.1 9 = .ok (.goto 6, 3) := by decide +kernel
theorem d_Law_heir_12 : decode M_Law_heir.2.1 12 = .ok (.astore_n 3, 1) := by decide +kernel
theorem d_Law_heir_13 : decode M_Law_heir.2.1 13 = .ok (.iconst 1, 1) := by decide +kernel
theorem d_Law_heir_14 : decode M_Law_heir.2.1 14 = .ok (.ireturn, 1) := by decide +kernel
theorem d_Law_heir_15 : decode M_Law_heir.2.1 15 = .ok (.iconst 0, 1) := by decide +kernel
theorem d_Law_heir_16 : decode M_Law_heir.2.1 16 = .ok (.ireturn, 1) := by decide +kernel
theorem d_Law_lice_0 : decode M_Law_lice.2.1 0 = .ok (.aload_n 2, 1) := by decide +kernel
theorem d_Law_lice_1 : decode M_Law_lice.2.1 1 = .ok (.iconst 0, 1) := by decide +kernel
theorem d_Law_lice_2 : decode M_Law_lice.2.1 2 = .ok (.aload_n 0, 1) := by decide +kernel
theorem d_Law_lice_3 : decode M_Law_lice.2.1 3 = .ok (.iload_n 1, 1) := by decide +kernel
theorem d_Law_lice_4 : decode M_Law_lice.2.1 4 = .ok (.invokevirtual 91, 3) := by decide +kernel
theorem d_Law_lice_7 : decode M_Law_lice.2.1 7 = .ok (.i2l, 1) := by decide +kernel
theorem d_Law_lice_8 : decode M_Law_lice.2.1 8 = .ok (.lastore, 1) := by decide +kernel
theorem d_Law_lice_9 : decode M_Law_lice.2.1 9 = .ok (.goto 6, 3) := by decide +kernel
theorem d_Law_lice_12 : decode M_Law_lice.2.1 12 = .ok (.astore_n 3, 1) := by decide +kernel
theorem d_Law_lice_13 : decode M_Law_lice.2.1 13 = .ok (.iconst 1, 1) := by decide +kernel
theorem d_Law_lice_14 : decode M_Law_lice.2.1 14 = .ok (.ireturn, 1) := by decide +kernel
theorem d_Law_lice_15 : decode M_Law_lice.2.1 15 = .ok (.iconst 0, 1) := by decide +kernel
theorem d_Law_lice_16 : decode M_Law_lice.2.1 16 = .ok (.ireturn, 1) := by decide +kernel
theorem d_Law_see_0 : decode M_Law_see.2.1 0 = .ok (.aload_n 3, 1) := by decide +kernel
theorem d_Law_see_1 : decode M_Law_see.2.1 1 = .ok (.iconst 0, 1) := by decide +kernel
theorem d_Law_see_2 : decode M_Law_see.2.1 2 = .ok (.aload_n 0, 1) := by decide +kernel
theorem d_Law_see_3 : decode M_Law_see.2.1 3 = .ok (.iload_n 1, 1) := by decide +kernel
theorem d_Law_see_4 : decode M_Law_see.2.1 4 = .ok (.iload_n 2, 1) := by decide +kernel
theorem d_Law_see_5 : decode M_Law_see.2.1 5 = .ok (.invokevirtual 94, 3) := by decide +kernel
theorem d_Law_see_8 : decode M_Law_see.2.1 8 = .ok (.i2l, 1) := by decide +kernel
theorem d_Law_see_9 : decode M_Law_see.2.1 9 = .ok (.lastore, 1) := by decide +kernel
theorem d_Law_see_10 : decode M_Law_see.2.1 10 = .ok (.goto 7, 3) := by decide +kernel
theorem d_Law_see_13 : decode M_Law_see.2.1 13 = .ok (.astore 4, 2) := by decide +kernel
theorem d_Law_see_15 : decode M_Law_see.2.1 15 = .ok (.iconst 1, 1) := by decide +kernel
theorem d_Law_see_16 : decode M_Law_see.2.1 16 = .ok (.ireturn, 1) := by decide +kernel
theorem d_Law_see_17 : decode M_Law_see.2.1 17 = .ok (.iconst 0, 1) := by decide +kernel
theorem d_Law_see_18 : decode M_Law_see.2.1 18 = .ok (.ireturn, 1) := by decide +kernel
theorem d_Law_ate_0 : decode M_Law_ate.2.1 0 = .ok (.aload_n 3, 1) := by decide +kernel
theorem d_Law_ate_1 : decode M_Law_ate.2.1 1 = .ok (.iconst 0, 1) := by decide +kernel
theorem d_Law_ate_2 : decode M_Law_ate.2.1 2 = .ok (.aload_n 0, 1) := by decide +kernel
theorem d_Law_ate_3 : decode M_Law_ate.2.1 3 = .ok (.iload_n 1, 1) := by decide +kernel
theorem d_Law_ate_4 : decode M_Law_ate.2.1 4 = .ok (.iload_n 2, 1) := by decide +kernel
theorem d_Law_ate_5 : decode M_Law_ate.2.1 5 = .ok (.invokevirtual 98, 3) := by decide +kernel
theorem d_Law_ate_8 : decode M_Law_ate.2.1 8 = .ok (.i2l, 1) := by decide +kernel
theorem d_Law_ate_9 : decode M_Law_ate.2.1 9 = .ok (.lastore, 1) := by decide +kernel
theorem d_Law_ate_10 : decode M_Law_ate.2.1 10 = .ok (.goto 7, 3) := by decide +kernel
theorem d_Law_ate_13 : decode M_Law_ate.2.1 13 = .ok (.astore 4, 2) := by decide +kernel
theorem d_Law_ate_15 : decode M_Law_ate.2.1 15 = .ok (.iconst 1, 1) := by decide +kernel
theorem d_Law_ate_16 : decode M_Law_ate.2.1 16 = .ok (.ireturn, 1) := by decide +kernel
theorem d_Law_ate_17 : decode M_Law_ate.2.1 17 = .ok (.iconst 0, 1) := by decide +kernel
theorem d_Law_ate_18 : decode M_Law_ate.2.1 18 = .ok (.ireturn, 1) := by decide +kernel
theorem d_Law_game_0 : decode M_Law_game.2.1 0 = .ok (.aload_n 2, 1) := by decide +kernel
theorem d_Law_game_1 : decode M_Law_game.2.1 1 = .ok (.iconst 0, 1) := by decide +kernel
theorem d_Law_game_2 : decode M_Law_game.2.1 2 = .ok (.aload_n 0, 1) := by decide +kernel
theorem d_Law_game_3 : decode M_Law_game.2.1 3 = .ok (.iload_n 1, 1) := by decide +kernel
theorem d_Law_game_4 : decode M_Law_game.2.1 4 = .ok (.invokevirtual 101, 3) := by decide +kernel
theorem d_Law_game_7 : decode M_Law_game.2.1 7 = .ok (.i2l, 1) := by decide +kernel
theorem d_Law_game_8 : decode M_Law_game.2.1 8 = .ok (.lastore, 1) := by decide +kernel
theorem d_Law_game_9 : decode M_Law_game.2.1 9 = .ok (.goto 6, 3) := by decide +kernel
theorem d_Law_game_12 : decode M_Law_game.2.1 12 = .ok (.astore_n 3, 1) := by decide +kernel
theorem d_Law_game_13 : decode M_Law_game.2.1 13 = .ok (.iconst 1, 1) := by decide +kernel
theorem d_Law_game_14 : decode M_Law_game.2.1 14 = .ok (.ireturn, 1) := by decide +kernel
theorem d_Law_game_15 : decode M_Law_game.2.1 15 = .ok (.iconst 0, 1) := by decide +kernel
theorem d_Law_game_16 : decode M_Law_game.2.1 16 = .ok (.ireturn, 1) := by decide +kernel
theorem d_Law_season_0 : decode M_Law_season.2.1 0 = .ok (.aload 4, 2) := by decide +kernel
theorem d_Law_season_2 : decode M_Law_season.2.1 2 = .ok (.iconst 0, 1) := by decide +kernel
theorem d_Law_season_3 : decode M_Law_season.2.1 3 = .ok (.aload_n 0, 1) := by decide +kernel
theorem d_Law_season_4 : decode M_Law_season.2.1 4 = .ok (.iload_n 1, 1) := by decide +kernel
theorem d_Law_season_5 : decode M_Law_season.2.1 5 = .ok (.iload_n 2, 1) := by decide +kernel
theorem d_Law_season_6 : decode M_Law_season.2.1 6 = .ok (.iload_n 3, 1) := by decide +kernel
theorem d_Law_season_7 : decode M_Law_season.2.1 7 = .ok (.invokevirtual 104, 3) := by decide +kernel
theorem d_Law_season_10 : decode M_Law_season.2.1 10 = .ok (.i2l, 1) := by decide +kernel
theorem d_Law_season_11 : decode M_Law_season.2.1 11 = .ok (.lastore, 1) := by decide +kernel
theorem d_Law_season_12 : decode M_Law_season.2.1 12 = .ok (.goto 11, 3) := by decide +kernel
theorem d_Law_season_15 : decode M_Law_season.2.1 15 = .ok (.astore 5, 2) := by decide +kernel
theorem d_Law_season_17 : decode M_Law_season.2.1 17 = .ok (.iconst 1, 1) := by decide +kernel
theorem d_Law_season_18 : decode M_Law_season.2.1 18 = .ok (.ireturn, 1) := by decide +kernel
theorem d_Law_season_19 : decode M_Law_season.2.1 19 = .ok (.astore 5, 2) := by decide +kernel
theorem d_Law_season_21 : decode M_Law_season.2.1 21 = .ok (.iconst 2, 1) := by decide +kernel
theorem d_Law_season_22 : decode M_Law_season.2.1 22 = .ok (.ireturn, 1) := by decide +kernel
theorem d_Law_season_23 : decode M_Law_season.2.1 23 = .ok (.iconst 0, 1) := by decide +kernel
theorem d_Law_season_24 : decode M_Law_season.2.1 24 = .ok (.ireturn, 1) := by decide +kernel

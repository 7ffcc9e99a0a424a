theorem dL_cell_0 : decode cL_cell 0 = .ok (.iload_n 1, 1) := by decide +kernel
theorem dL_cell_1 : decode cL_cell 1 = .ok (.aload_n 0, 1) := by decide +kernel
theorem dL_cell_2 : decode cL_cell 2 = .ok (.arraylength, 1) := by decide +kernel
theorem dL_cell_3 : decode cL_cell 3 = .ok (.if_icmp .ge 9, 3) := by decide +kernel
theorem dL_cell_6 : decode cL_cell 6 = .ok (.aload_n 0, 1) := by decide +kernel
theorem dL_cell_7 : decode cL_cell 7 = .ok (.iload_n 1, 1) := by decide +kernel
theorem dL_cell_8 : decode cL_cell 8 = .ok (.iaload, 1) := by decide +kernel
theorem dL_cell_9 : decode cL_cell 9 = .ok (.goto 4, 3) := by decide +kernel
theorem dL_cell_12 : decode cL_cell 12 = .ok (.iconst 0, 1) := by decide +kernel
theorem dL_cell_13 : decode cL_cell 13 = .ok (.ireturn, 1) := by decide +kernel
theorem dL_add_0 : decode cL_add 0 = .ok (.aload 4, 2) := by decide +kernel
theorem dL_add_2 : decode cL_add 2 = .ok (.iconst 0, 1) := by decide +kernel
theorem dL_add_3 : decode cL_add 3 = .ok (.aload_n 0, 1) := by decide +kernel
theorem dL_add_4 : decode cL_add 4 = .ok (.iload_n 1, 1) := by decide +kernel
theorem dL_add_5 : decode cL_add 5 = .ok (.iload_n 2, 1) := by decide +kernel
theorem dL_add_6 : decode cL_add 6 = .ok (.iload_n 3, 1) := by decide +kernel
theorem dL_add_7 : decode cL_add 7 = .ok (.invokevirtual 7, 3) := by decide +kernel
theorem dL_add_10 : decode cL_add 10 = .ok (.i2l, 1) := by decide +kernel
theorem dL_add_11 : decode cL_add 11 = .ok (.lastore, 1) := by decide +kernel
theorem dL_add_12 : decode cL_add 12 = .ok (.goto 7, 3) := by decide +kernel
theorem dL_add_15 : decode cL_add 15 = .ok (.astore 5, 2) := by decide +kernel
theorem dL_add_17 : decode cL_add 17 = .ok (.iconst 1, 1) := by decide +kernel
theorem dL_add_18 : decode cL_add 18 = .ok (.ireturn, 1) := by decide +kernel
theorem dL_add_19 : decode cL_add 19 = .ok (.iconst 0, 1) := by decide +kernel
theorem dL_add_20 : decode cL_add 20 = .ok (.ireturn, 1) := by decide +kernel
theorem dL_kind_0 : decode cL_kind 0 = .ok (.aload_n 0, 1) := by decide +kernel
theorem dL_kind_1 : decode cL_kind 1 = .ok (.iload_n 1, 1) := by decide +kernel
theorem dL_kind_2 : decode cL_kind 2 = .ok (.invokevirtual 15, 3) := by decide +kernel
theorem dL_kind_5 : decode cL_kind 5 = .ok (.goto 6, 3) := by decide +kernel
theorem dL_kind_8 : decode cL_kind 8 = .ok (.astore_n 2, 1) := by decide +kernel
theorem dL_kind_9 : decode cL_kind 9 = .ok (.iconst 1, 1) := by decide +kernel
theorem dL_kind_10 : decode cL_kind 10 = .ok (.ireturn, 1) := by decide +kernel
theorem dL_kind_11 : decode cL_kind 11 = .ok (.iconst 0, 1) := by decide +kernel
theorem dL_kind_12 : decode cL_kind 12 = .ok (.ireturn, 1) := by decide +kernel
theorem dL_next_0 : decode cL_next 0 = .ok (.aload_n 1, 1) := by decide +kernel
theorem dL_next_1 : decode cL_next 1 = .ok (.iconst 0, 1) := by decide +kernel
theorem dL_next_2 : decode cL_next 2 = .ok (.aload_n 0, 1) := by decide +kernel
theorem dL_next_3 : decode cL_next 3 = .ok (.invokevirtual 21, 3) := by decide +kernel
theorem dL_next_6 : decode cL_next 6 = .ok (.ifCond .eq 7, 3) := by decide +kernel
theorem dL_next_9 : decode cL_next 9 = .ok (.lconst 1, 1) := by decide +kernel
theorem dL_next_10 : decode cL_next 10 = .ok (.goto 4, 3) := by decide +kernel
theorem dL_next_13 : decode cL_next 13 = .ok (.lconst 0, 1) := by decide +kernel
theorem dL_next_14 : decode cL_next 14 = .ok (.lastore, 1) := by decide +kernel
theorem dL_next_15 : decode cL_next 15 = .ok (.goto 6, 3) := by decide +kernel
theorem dL_next_18 : decode cL_next 18 = .ok (.astore_n 2, 1) := by decide +kernel
theorem dL_next_19 : decode cL_next 19 = .ok (.iconst 1, 1) := by decide +kernel
theorem dL_next_20 : decode cL_next 20 = .ok (.ireturn, 1) := by decide +kernel
theorem dL_next_21 : decode cL_next 21 = .ok (.iconst 0, 1) := by decide +kernel
theorem dL_next_22 : decode cL_next 22 = .ok (.ireturn, 1) := by decide +kernel
theorem dL_pair_0 : decode cL_pair 0 = .ok (.aload_n 2, 1) := by decide +kernel
theorem dL_pair_1 : decode cL_pair 1 = .ok (.iconst 0, 1) := by decide +kernel
theorem dL_pair_2 : decode cL_pair 2 = .ok (.aload_n 0, 1) := by decide +kernel
theorem dL_pair_3 : decode cL_pair 3 = .ok (.iload_n 1, 1) := by decide +kernel
theorem dL_pair_4 : decode cL_pair 4 = .ok (.invokevirtual 25, 3) := by decide +kernel
theorem dL_pair_7 : decode cL_pair 7 = .ok (.i2l, 1) := by decide +kernel
theorem dL_pair_8 : decode cL_pair 8 = .ok (.lastore, 1) := by decide +kernel
theorem dL_pair_9 : decode cL_pair 9 = .ok (.goto 6, 3) := by decide +kernel
theorem dL_pair_12 : decode cL_pair 12 = .ok (.astore_n 3, 1) := by decide +kernel
theorem dL_pair_13 : decode cL_pair 13 = .ok (.iconst 1, 1) := by decide +kernel
theorem dL_pair_14 : decode cL_pair 14 = .ok (.ireturn, 1) := by decide +kernel
theorem dL_pair_15 : decode cL_pair 15 = .ok (.iconst 0, 1) := by decide +kernel
theorem dL_pair_16 : decode cL_pair 16 = .ok (.ireturn, 1) := by decide +kernel
theorem dL_mark_0 : decode cL_mark 0 = .ok (.aload_n 1, 1) := by decide +kernel
theorem dL_mark_1 : decode cL_mark 1 = .ok (.iconst 0, 1) := by decide +kernel
theorem dL_mark_2 : decode cL_mark 2 = .ok (.aload_n 0, 1) := by decide +kernel
theorem dL_mark_3 : decode cL_mark 3 = .ok (.invokevirtual 29, 3) := by decide +kernel
theorem dL_mark_6 : decode cL_mark 6 = .ok (.i2l, 1) := by decide +kernel
theorem dL_mark_7 : decode cL_mark 7 = .ok (.lastore, 1) := by decide +kernel
theorem dL_mark_8 : decode cL_mark 8 = .ok (.goto 6, 3) := by decide +kernel
theorem dL_mark_11 : decode cL_mark 11 = .ok (.astore_n 2, 1) := by decide +kernel
theorem dL_mark_12 : decode cL_mark 12 = .ok (.iconst 1, 1) := by decide +kernel
theorem dL_mark_13 : decode cL_mark 13 = .ok (.ireturn, 1) := by decide +kernel
theorem dL_mark_14 : decode cL_mark 14 = .ok (.iconst 0, 1) := by decide +kernel
theorem dL_mark_15 : decode cL_mark 15 = .ok (.ireturn, 1) := by decide +kernel
theorem dL_back_0 : decode cL_back 0 = .ok (.aload_n 1, 1) := by decide +kernel
theorem dL_back_1 : decode cL_back 1 = .ok (.iconst 0, 1) := by decide +kernel
theorem dL_back_2 : decode cL_back 2 = .ok (.aload_n 0, 1) := by decide +kernel
theorem dL_back_3 : decode cL_back 3 = .ok (.invokevirtual 33, 3) := by decide +kernel
theorem dL_back_6 : decode cL_back 6 = .ok (.i2l, 1) := by decide +kernel
theorem dL_back_7 : decode cL_back 7 = .ok (.lastore, 1) := by decide +kernel
theorem dL_back_8 : decode cL_back 8 = .ok (.goto 6, 3) := by decide +kernel
theorem dL_back_11 : decode cL_back 11 = .ok (.astore_n 2, 1) := by decide +kernel
theorem dL_back_12 : decode cL_back 12 = .ok (.iconst 1, 1) := by decide +kernel
theorem dL_back_13 : decode cL_back 13 = .ok (.ireturn, 1) := by decide +kernel
theorem dL_back_14 : decode cL_back 14 = .ok (.iconst 0, 1) := by decide +kernel
theorem dL_back_15 : decode cL_back 15 = .ok (.ireturn, 1) := by decide +kernel
theorem dL_seek_0 : decode cL_seek 0 = .ok (.aload_n 2, 1) := by decide +kernel
theorem dL_seek_1 : decode cL_seek 1 = .ok (.iconst 0, 1) := by decide +kernel
theorem dL_seek_2 : decode cL_seek 2 = .ok (.aload_n 0, 1) := by decide +kernel
theorem dL_seek_3 : decode cL_seek 3 = .ok (.iload_n 1, 1) := by decide +kernel
theorem dL_seek_4 : decode cL_seek 4 = .ok (.invokevirtual 36, 3) := by decide +kernel
theorem dL_seek_7 : decode cL_seek 7 = .ok (.ifCond .eq 7, 3) := by decide +kernel
theorem dL_seek_10 : decode cL_seek 10 = .ok (.lconst 1, 1) := by decide +kernel
theorem dL_seek_11 : decode cL_seek 11 = .ok (.goto 4, 3) := by decide +kernel
theorem dL_seek_14 : decode cL_seek 14 = .ok (.lconst 0, 1) := by decide +kernel
theorem dL_seek_15 : decode cL_seek 15 = .ok (.lastore, 1) := by decide +kernel
theorem dL_seek_16 : decode cL_seek 16 = .ok (.goto 6, 3) := by decide +kernel
theorem dL_seek_19 : decode cL_seek 19 = .ok (.astore_n 3, 1) := by decide +kernel
theorem dL_seek_20 : decode cL_seek 20 = .ok (.iconst 1, 1) := by decide +kernel
theorem dL_seek_21 : decode cL_seek 21 = .ok (.ireturn, 1) := by decide +kernel
theorem dL_seek_22 : decode cL_seek 22 = .ok (.iconst 0, 1) := by decide +kernel
theorem dL_seek_23 : decode cL_seek 23 = .ok (.ireturn, 1) := by decide +kernel
theorem dL_rewind_0 : decode cL_rewind 0 = .ok (.aload_n 0, 1) := by decide +kernel
theorem dL_rewind_1 : decode cL_rewind 1 = .ok (.invokevirtual 40, 3) := by decide +kernel
theorem dL_rewind_4 : decode cL_rewind 4 = .ok (.goto 6, 3) := by decide +kernel
theorem dL_rewind_7 : decode cL_rewind 7 = .ok (.astore_n 1, 1) := by decide +kernel
theorem dL_rewind_8 : decode cL_rewind 8 = .ok (.iconst 1, 1) := by decide +kernel
theorem dL_rewind_9 : decode cL_rewind 9 = .ok (.ireturn, 1) := by decide +kernel
theorem dL_rewind_10 : decode cL_rewind 10 = .ok (.iconst 0, 1) := by decide +kernel
theorem dL_rewind_11 : decode cL_rewind 11 = .ok (.ireturn, 1) := by decide +kernel
theorem dL_count_0 : decode cL_count 0 = .ok (.aload_n 2, 1) := by decide +kernel
theorem dL_count_1 : decode cL_count 1 = .ok (.iconst 0, 1) := by decide +kernel
theorem dL_count_2 : decode cL_count 2 = .ok (.aload_n 0, 1) := by decide +kernel
theorem dL_count_3 : decode cL_count 3 = .ok (.iload_n 1, 1) := by decide +kernel
theorem dL_count_4 : decode cL_count 4 = .ok (.invokevirtual 43, 3) := by decide +kernel
theorem dL_count_7 : decode cL_count 7 = .ok (.lastore, 1) := by decide +kernel
theorem dL_count_8 : decode cL_count 8 = .ok (.goto 9, 3) := by decide +kernel
theorem dL_count_11 : decode cL_count 11 = .ok (.astore_n 3, 1) := by decide +kernel
theorem dL_count_12 : decode cL_count 12 = .ok (.iconst 1, 1) := by decide +kernel
theorem dL_count_13 : decode cL_count 13 = .ok (.ireturn, 1) := by decide +kernel
theorem dL_count_14 : decode cL_count 14 = .ok (.astore_n 3, 1) := by decide +kernel
theorem dL_count_15 : decode cL_count 15 = .ok (.iconst 2, 1) := by decide +kernel
theorem dL_count_16 : decode cL_count 16 = .ok (.ireturn, 1) := by decide +kernel
theorem dL_count_17 : decode cL_count 17 = .ok (.iconst 0, 1) := by decide +kernel
theorem dL_count_18 : decode cL_count 18 = .ok (.ireturn, 1) := by decide +kernel
theorem dL_rows_0 : decode cL_rows 0 = .ok (.aload_n 3, 1) := by decide +kernel
theorem dL_rows_1 : decode cL_rows 1 = .ok (.iconst 0, 1) := by decide +kernel
theorem dL_rows_2 : decode cL_rows 2 = .ok (.aload_n 0, 1) := by decide +kernel
theorem dL_rows_3 : decode cL_rows 3 = .ok (.iload_n 1, 1) := by decide +kernel
theorem dL_rows_4 : decode cL_rows 4 = .ok (.iload_n 2, 1) := by decide +kernel
theorem dL_rows_5 : decode cL_rows 5 = .ok (.invokevirtual 47, 3) := by decide +kernel
theorem dL_rows_8 : decode cL_rows 8 = .ok (.i2l, 1) := by decide +kernel
theorem dL_rows_9 : decode cL_rows 9 = .ok (.lastore, 1) := by decide +kernel
theorem dL_rows_10 : decode cL_rows 10 = .ok (.goto 7, 3) := by decide +kernel
theorem dL_rows_13 : decode cL_rows 13 = .ok (.astore 4, 2) := by decide +kernel
theorem dL_rows_15 : decode cL_rows 15 = .ok (.iconst 1, 1) := by decide +kernel
theorem dL_rows_16 : decode cL_rows 16 = .ok (.ireturn, 1) := by decide +kernel
theorem dL_rows_17 : decode cL_rows 17 = .ok (.iconst 0, 1) := by decide +kernel
theorem dL_rows_18 : decode cL_rows 18 = .ok (.ireturn, 1) := by decide +kernel
theorem dL_groups_0 : decode cL_groups 0 = .ok (.aload_n 1, 1) := by decide +kernel
theorem dL_groups_1 : decode cL_groups 1 = .ok (.iconst 0, 1) := by decide +kernel
theorem dL_groups_2 : decode cL_groups 2 = .ok (.aload_n 0, 1) := by decide +kernel
theorem dL_groups_3 : decode cL_groups 3 = .ok (.invokevirtual 51, 3) := by decide +kernel
theorem dL_groups_6 : decode cL_groups 6 = .ok (.i2l, 1) := by decide +kernel
theorem dL_groups_7 : decode cL_groups 7 = .ok (.lastore, 1) := by decide +kernel
theorem dL_groups_8 : decode cL_groups 8 = .ok (.goto 9, 3) := by decide +kernel
theorem dL_groups_11 : decode cL_groups 11 = .ok (.astore_n 2, 1) := by decide +kernel
theorem dL_groups_12 : decode cL_groups 12 = .ok (.iconst 1, 1) := by decide +kernel
theorem dL_groups_13 : decode cL_groups 13 = .ok (.ireturn, 1) := by decide +kernel
theorem dL_groups_14 : decode cL_groups 14 = .ok (.astore_n 2, 1) := by decide +kernel
theorem dL_groups_15 : decode cL_groups 15 = .ok (.iconst 2, 1) := by decide +kernel
theorem dL_groups_16 : decode cL_groups 16 = .ok (.ireturn, 1) := by decide +kernel
theorem dL_groups_17 : decode cL_groups 17 = .ok (.iconst 0, 1) := by decide +kernel
theorem dL_groups_18 : decode cL_groups 18 = .ok (.ireturn, 1) := by decide +kernel
theorem dL_group_0 : decode cL_group 0 = .ok (.aload_n 3, 1) := by decide +kernel
theorem dL_group_1 : decode cL_group 1 = .ok (.iconst 0, 1) := by decide +kernel
theorem dL_group_2 : decode cL_group 2 = .ok (.aload_n 0, 1) := by decide +kernel
theorem dL_group_3 : decode cL_group 3 = .ok (.iload_n 1, 1) := by decide +kernel
theorem dL_group_4 : decode cL_group 4 = .ok (.iload_n 2, 1) := by decide +kernel
theorem dL_group_5 : decode cL_group 5 = .ok (.invokevirtual 56, 3) := by decide +kernel
theorem dL_group_8 : decode cL_group 8 = .ok (.lastore, 1) := by decide +kernel
theorem dL_group_9 : decode cL_group 9 = .ok (.goto 11, 3) := by decide +kernel
theorem dL_group_12 : decode cL_group 12 = .ok (.astore 4, 2) := by decide +kernel
theorem dL_group_14 : decode cL_group 14 = .ok (.iconst 1, 1) := by decide +kernel
theorem dL_group_15 : decode cL_group 15 = .ok (.ireturn, 1) := by decide +kernel
theorem dL_group_16 : decode cL_group 16 = .ok (.astore 4, 2) := by decide +kernel
theorem dL_group_18 : decode cL_group 18 = .ok (.iconst 2, 1) := by decide +kernel
theorem dL_group_19 : decode cL_group 19 = .ok (.ireturn, 1) := by decide +kernel
theorem dL_group_20 : decode cL_group 20 = .ok (.iconst 0, 1) := by decide +kernel
theorem dL_group_21 : decode cL_group 21 = .ok (.ireturn, 1) := by decide +kernel
theorem dL_sorted_0 : decode cL_sorted 0 = .ok (.aload 4, 2) := by decide +kernel
theorem dL_sorted_2 : decode cL_sorted 2 = .ok (.iconst 0, 1) := by decide +kernel
theorem dL_sorted_3 : decode cL_sorted 3 = .ok (.aload_n 0, 1) := by decide +kernel
theorem dL_sorted_4 : decode cL_sorted 4 = .ok (.iload_n 1, 1) := by decide +kernel
theorem dL_sorted_5 : decode cL_sorted 5 = .ok (.iload_n 2, 1) := by decide +kernel
theorem dL_sorted_6 : decode cL_sorted 6 = .ok (.iload_n 3, 1) := by decide +kernel
theorem dL_sorted_7 : decode cL_sorted 7 = .ok (.invokevirtual 60, 3) := by decide +kernel
theorem dL_sorted_10 : decode cL_sorted 10 = .ok (.i2l, 1) := by decide +kernel
theorem dL_sorted_11 : decode cL_sorted 11 = .ok (.lastore, 1) := by decide +kernel
theorem dL_sorted_12 : decode cL_sorted 12 = .ok (.goto 11, 3) := by decide +kernel
theorem dL_sorted_15 : decode cL_sorted 15 = .ok (.astore 5, 2) := by decide +kernel
theorem dL_sorted_17 : decode cL_sorted 17 = .ok (.iconst 1, 1) := by decide +kernel
theorem dL_sorted_18 : decode cL_sorted 18 = .ok (.ireturn, 1) := by decide +kernel
theorem dL_sorted_19 : decode cL_sorted 19 = .ok (.astore 5, 2) := by decide +kernel
theorem dL_sorted_21 : decode cL_sorted 21 = .ok (.iconst 2, 1) := by decide +kernel
theorem dL_sorted_22 : decode cL_sorted 22 = .ok (.ireturn, 1) := by decide +kernel
theorem dL_sorted_23 : decode cL_sorted 23 = .ok (.iconst 0, 1) := by decide +kernel
theorem dL_sorted_24 : decode cL_sorted 24 = .ok (.ireturn, 1) := by decide +kernel
theorem dL_about_0 : decode cL_about 0 = .ok (.aload_n 2, 1) := by decide +kernel
theorem dL_about_1 : decode cL_about 1 = .ok (.iconst 0, 1) := by decide +kernel
theorem dL_about_2 : decode cL_about 2 = .ok (.aload_n 0, 1) := by decide +kernel
theorem dL_about_3 : decode cL_about 3 = .ok (.iload_n 1, 1) := by decide +kernel
theorem dL_about_4 : decode cL_about 4 = .ok (.invokevirtual 63, 3) := by decide +kernel
theorem dL_about_7 : decode cL_about 7 = .ok (.lastore, 1) := by decide +kernel
theorem dL_about_8 : decode cL_about 8 = .ok (.goto 6, 3) := by decide +kernel
theorem dL_about_11 : decode cL_about 11 = .ok (.astore_n 3, 1) := by decide +kernel
theorem dL_about_12 : decode cL_about 12 = .ok (.iconst 1, 1) := by decide +kernel
theorem dL_about_13 : decode cL_about 13 = .ok (.ireturn, 1) := by decide +kernel
theorem dL_about_14 : decode cL_about 14 = .ok (.iconst 0, 1) := by decide +kernel
theorem dL_about_15 : decode cL_about 15 = .ok (.ireturn, 1) := by decide +kernel
theorem dL_law_0 : decode cL_law 0 = .ok (.new 8, 3) := by decide +kernel
theorem dL_law_3 : decode cL_law 3 = .ok (.dup, 1) := by decide +kernel
theorem dL_law_4 : decode cL_law 4 = .ok (.aload_n 0, 1) := by decide +kernel
theorem dL_law_5 : decode cL_law 5 = .ok (.iconst 0, 1) := by decide +kernel
theorem dL_law_6 : decode cL_law 6 = .ok (.invokestatic 66, 3) := by decide +kernel
theorem dL_law_9 : decode cL_law 9 = .ok (.aload_n 0, 1) := by decide +kernel
theorem dL_law_10 : decode cL_law 10 = .ok (.iconst 1, 1) := by decide +kernel
theorem dL_law_11 : decode cL_law 11 = .ok (.invokestatic 66, 3) := by decide +kernel
theorem dL_law_14 : decode cL_law 14 = .ok (.aload_n 0, 1) := by decide +kernel
theorem dL_law_15 : decode cL_law 15 = .ok (.iconst 2, 1) := by decide +kernel
theorem dL_law_16 : decode cL_law 16 = .ok (.invokestatic 66, 3) := by decide +kernel
theorem dL_law_19 : decode cL_law 19 = .ok (.invokespecial 72, 3) := by decide +kernel
theorem dL_law_22 : decode cL_law 22 = .ok (.astore_n 1, 1) := by decide +kernel
theorem dL_law_23 : decode cL_law 23 = .ok (.new 75, 3) := by decide +kernel
theorem dL_law_26 : decode cL_law 26 = .ok (.dup, 1) := by decide +kernel
theorem dL_law_27 : decode cL_law 27 = .ok (.aload_n 0, 1) := by decide +kernel
theorem dL_law_28 : decode cL_law 28 = .ok (.iconst 0, 1) := by decide +kernel
theorem dL_law_29 : decode cL_law 29 = .ok (.invokestatic 66, 3) := by decide +kernel
theorem dL_law_32 : decode cL_law 32 = .ok (.aload_n 0, 1) := by decide +kernel
theorem dL_law_33 : decode cL_law 33 = .ok (.iconst 1, 1) := by decide +kernel
theorem dL_law_34 : decode cL_law 34 = .ok (.invokestatic 66, 3) := by decide +kernel
theorem dL_law_37 : decode cL_law 37 = .ok (.aload_n 0, 1) := by decide +kernel
theorem dL_law_38 : decode cL_law 38 = .ok (.iconst 2, 1) := by decide +kernel
theorem dL_law_39 : decode cL_law 39 = .ok (.invokestatic 66, 3) := by decide +kernel
theorem dL_law_42 : decode cL_law 42 = .ok (.invokespecial 77, 3) := by decide +kernel
theorem dL_law_45 : decode cL_law 45 = .ok (.astore_n 2, 1) := by decide +kernel
theorem dL_law_46 : decode cL_law 46 = .ok (.iconst 1, 1) := by decide +kernel
theorem dL_law_47 : decode cL_law 47 = .ok (.newarray .long, 2) := by decide +kernel
theorem dL_law_49 : decode cL_law 49 = .ok (.astore_n 3, 1) := by decide +kernel
theorem dL_law_50 : decode cL_law 50 = .ok (.iconst 3, 1) := by decide +kernel
theorem dL_law_51 : decode cL_law 51 = .ok (.istore 4, 2) := by decide +kernel
theorem dL_law_53 : decode cL_law 53 = .ok (.iload 4, 2) := by decide +kernel
theorem dL_law_55 : decode cL_law 55 = .ok (.aload_n 0, 1) := by decide +kernel
theorem dL_law_56 : decode cL_law 56 = .ok (.arraylength, 1) := by decide +kernel
theorem dL_law_57 : decode cL_law 57 = .ok (.iconst 4, 1) := by decide +kernel
theorem dL_law_58 : decode cL_law 58 = .ok (.isub, 1) := by decide +kernel
theorem dL_law_59 : decode cL_law 59 = .ok (.if_icmp .gt 606, 3) := by decide +kernel
theorem dL_law_62 : decode cL_law 62 = .ok (.aload_n 0, 1) := by decide +kernel
theorem dL_law_63 : decode cL_law 63 = .ok (.iload 4, 2) := by decide +kernel
theorem dL_law_65 : decode cL_law 65 = .ok (.iaload, 1) := by decide +kernel
theorem dL_law_66 : decode cL_law 66 = .ok (.bipush 15, 2) := by decide +kernel
theorem dL_law_68 : decode cL_law 68 = .ok (.iand, 1) := by decide +kernel
theorem dL_law_69 : decode cL_law 69 = .ok (.tableswitch 590 0 15 #[79, 147, 158, 183, 199, 227, 243, 259, 287, 300, 328, 400, 416, 483, 551, 579], 79) := by decide +kernel
theorem dL_law_148 : decode cL_law 148 = .ok (.aload_n 1, 1) := by decide +kernel
theorem dL_law_149 : decode cL_law 149 = .ok (.aload_n 0, 1) := by decide +kernel
theorem dL_law_150 : decode cL_law 150 = .ok (.iload 4, 2) := by decide +kernel
theorem dL_law_152 : decode cL_law 152 = .ok (.iconst 1, 1) := by decide +kernel
theorem dL_law_153 : decode cL_law 153 = .ok (.iadd, 1) := by decide +kernel
theorem dL_law_154 : decode cL_law 154 = .ok (.iaload, 1) := by decide +kernel
theorem dL_law_155 : decode cL_law 155 = .ok (.ifCond .eq 7, 3) := by decide +kernel
theorem dL_law_158 : decode cL_law 158 = .ok (.iconst 1, 1) := by decide +kernel
theorem dL_law_159 : decode cL_law 159 = .ok (.goto 4, 3) := by decide +kernel
theorem dL_law_162 : decode cL_law 162 = .ok (.iconst 0, 1) := by decide +kernel
theorem dL_law_163 : decode cL_law 163 = .ok (.aload_n 0, 1) := by decide +kernel
theorem dL_law_164 : decode cL_law 164 = .ok (.iload 4, 2) := by decide +kernel
theorem dL_law_166 : decode cL_law 166 = .ok (.iconst 2, 1) := by decide +kernel
theorem dL_law_167 : decode cL_law 167 = .ok (.iadd, 1) := by decide +kernel
theorem dL_law_168 : decode cL_law 168 = .ok (.iaload, 1) := by decide +kernel
theorem dL_law_169 : decode cL_law 169 = .ok (.aload_n 0, 1) := by decide +kernel
theorem dL_law_170 : decode cL_law 170 = .ok (.iload 4, 2) := by decide +kernel
theorem dL_law_172 : decode cL_law 172 = .ok (.iconst 3, 1) := by decide +kernel
theorem dL_law_173 : decode cL_law 173 = .ok (.iadd, 1) := by decide +kernel
theorem dL_law_174 : decode cL_law 174 = .ok (.iaload, 1) := by decide +kernel
theorem dL_law_175 : decode cL_law 175 = .ok (.aload_n 3, 1) := by decide +kernel
theorem dL_law_176 : decode cL_law 176 = .ok (.invokestatic 78, 3) := by decide +kernel
theorem dL_law_179 : decode cL_law 179 = .ok (.istore 5, 2) := by decide +kernel
theorem dL_law_181 : decode cL_law 181 = .ok (.aload_n 2, 1) := by decide +kernel
theorem dL_law_182 : decode cL_law 182 = .ok (.aload_n 0, 1) := by decide +kernel
theorem dL_law_183 : decode cL_law 183 = .ok (.iload 4, 2) := by decide +kernel
theorem dL_law_185 : decode cL_law 185 = .ok (.iconst 1, 1) := by decide +kernel
theorem dL_law_186 : decode cL_law 186 = .ok (.iadd, 1) := by decide +kernel
theorem dL_law_187 : decode cL_law 187 = .ok (.iaload, 1) := by decide +kernel
theorem dL_law_188 : decode cL_law 188 = .ok (.ifCond .eq 7, 3) := by decide +kernel
theorem dL_law_191 : decode cL_law 191 = .ok (.iconst 1, 1) := by decide +kernel
theorem dL_law_192 : decode cL_law 192 = .ok (.goto 4, 3) := by decide +kernel
theorem dL_law_195 : decode cL_law 195 = .ok (.iconst 0, 1) := by decide +kernel
theorem dL_law_196 : decode cL_law 196 = .ok (.aload_n 0, 1) := by decide +kernel
theorem dL_law_197 : decode cL_law 197 = .ok (.iload 4, 2) := by decide +kernel
theorem dL_law_199 : decode cL_law 199 = .ok (.iconst 2, 1) := by decide +kernel
theorem dL_law_200 : decode cL_law 200 = .ok (.iadd, 1) := by decide +kernel
theorem dL_law_201 : decode cL_law 201 = .ok (.iaload, 1) := by decide +kernel
theorem dL_law_202 : decode cL_law 202 = .ok (.aload_n 0, 1) := by decide +kernel
theorem dL_law_203 : decode cL_law 203 = .ok (.iload 4, 2) := by decide +kernel
theorem dL_law_205 : decode cL_law 205 = .ok (.iconst 3, 1) := by decide +kernel
theorem dL_law_206 : decode cL_law 206 = .ok (.iadd, 1) := by decide +kernel
theorem dL_law_207 : decode cL_law 207 = .ok (.iaload, 1) := by decide +kernel
theorem dL_law_208 : decode cL_law 208 = .ok (.invokevirtual 81, 3) := by decide +kernel
theorem dL_law_211 : decode cL_law 211 = .ok (.istore 6, 2) := by decide +kernel
theorem dL_law_213 : decode cL_law 213 = .ok (.goto 446, 3) := by decide +kernel
theorem dL_law_216 : decode cL_law 216 = .ok (.aload_n 1, 1) := by decide +kernel
theorem dL_law_217 : decode cL_law 217 = .ok (.invokevirtual 82, 3) := by decide +kernel
theorem dL_law_220 : decode cL_law 220 = .ok (.aload_n 2, 1) := by decide +kernel
theorem dL_law_221 : decode cL_law 221 = .ok (.invokevirtual 85, 3) := by decide +kernel
theorem dL_law_224 : decode cL_law 224 = .ok (.goto 435, 3) := by decide +kernel
theorem dL_law_227 : decode cL_law 227 = .ok (.aload_n 1, 1) := by decide +kernel
theorem dL_law_228 : decode cL_law 228 = .ok (.aload_n 0, 1) := by decide +kernel
theorem dL_law_229 : decode cL_law 229 = .ok (.iload 4, 2) := by decide +kernel
theorem dL_law_231 : decode cL_law 231 = .ok (.iconst 1, 1) := by decide +kernel
theorem dL_law_232 : decode cL_law 232 = .ok (.iadd, 1) := by decide +kernel
theorem dL_law_233 : decode cL_law 233 = .ok (.iaload, 1) := by decide +kernel
theorem dL_law_234 : decode cL_law 234 = .ok (.invokestatic 86, 3) := by decide +kernel
theorem dL_law_237 : decode cL_law 237 = .ok (.istore 5, 2) := by decide +kernel
theorem dL_law_239 : decode cL_law 239 = .ok (.aload_n 2, 1) := by decide +kernel
theorem dL_law_240 : decode cL_law 240 = .ok (.aload_n 0, 1) := by decide +kernel
theorem dL_law_241 : decode cL_law 241 = .ok (.iload 4, 2) := by decide +kernel
theorem dL_law_243 : decode cL_law 243 = .ok (.iconst 1, 1) := by decide +kernel
theorem dL_law_244 : decode cL_law 244 = .ok (.iadd, 1) := by decide +kernel
theorem dL_law_245 : decode cL_law 245 = .ok (.iaload, 1) := by decide +kernel
theorem dL_law_246 : decode cL_law 246 = .ok (.invokevirtual 89, 3) := by decide +kernel
theorem dL_law_249 : decode cL_law 249 = .ok (.goto 410, 3) := by decide +kernel
theorem dL_law_252 : decode cL_law 252 = .ok (.aload_n 1, 1) := by decide +kernel
theorem dL_law_253 : decode cL_law 253 = .ok (.aload_n 3, 1) := by decide +kernel
theorem dL_law_254 : decode cL_law 254 = .ok (.invokestatic 90, 3) := by decide +kernel
theorem dL_law_257 : decode cL_law 257 = .ok (.istore 5, 2) := by decide +kernel
theorem dL_law_259 : decode cL_law 259 = .ok (.aload_n 2, 1) := by decide +kernel
theorem dL_law_260 : decode cL_law 260 = .ok (.invokevirtual 93, 3) := by decide +kernel
theorem dL_law_263 : decode cL_law 263 = .ok (.istore 6, 2) := by decide +kernel
theorem dL_law_265 : decode cL_law 265 = .ok (.goto 394, 3) := by decide +kernel
theorem dL_law_268 : decode cL_law 268 = .ok (.aload_n 1, 1) := by decide +kernel
theorem dL_law_269 : decode cL_law 269 = .ok (.aload_n 0, 1) := by decide +kernel
theorem dL_law_270 : decode cL_law 270 = .ok (.iload 4, 2) := by decide +kernel
theorem dL_law_272 : decode cL_law 272 = .ok (.iconst 1, 1) := by decide +kernel
theorem dL_law_273 : decode cL_law 273 = .ok (.iadd, 1) := by decide +kernel
theorem dL_law_274 : decode cL_law 274 = .ok (.iaload, 1) := by decide +kernel
theorem dL_law_275 : decode cL_law 275 = .ok (.aload_n 3, 1) := by decide +kernel
theorem dL_law_276 : decode cL_law 276 = .ok (.invokestatic 94, 3) := by decide +kernel
theorem dL_law_279 : decode cL_law 279 = .ok (.istore 5, 2) := by decide +kernel
theorem dL_law_281 : decode cL_law 281 = .ok (.aload_n 2, 1) := by decide +kernel
theorem dL_law_282 : decode cL_law 282 = .ok (.aload_n 0, 1) := by decide +kernel
theorem dL_law_283 : decode cL_law 283 = .ok (.iload 4, 2) := by decide +kernel
theorem dL_law_285 : decode cL_law 285 = .ok (.iconst 1, 1) := by decide +kernel
theorem dL_law_286 : decode cL_law 286 = .ok (.iadd, 1) := by decide +kernel
theorem dL_law_287 : decode cL_law 287 = .ok (.iaload, 1) := by decide +kernel
theorem dL_law_288 : decode cL_law 288 = .ok (.invokevirtual 97, 3) := by decide +kernel
theorem dL_law_291 : decode cL_law 291 = .ok (.istore 6, 2) := by decide +kernel
theorem dL_law_293 : decode cL_law 293 = .ok (.goto 366, 3) := by decide +kernel
theorem dL_law_296 : decode cL_law 296 = .ok (.aload_n 1, 1) := by decide +kernel
theorem dL_law_297 : decode cL_law 297 = .ok (.aload_n 3, 1) := by decide +kernel
theorem dL_law_298 : decode cL_law 298 = .ok (.invokestatic 98, 3) := by decide +kernel
theorem dL_law_301 : decode cL_law 301 = .ok (.istore 5, 2) := by decide +kernel
theorem dL_law_303 : decode cL_law 303 = .ok (.aload_n 2, 1) := by decide +kernel
theorem dL_law_304 : decode cL_law 304 = .ok (.invokevirtual 100, 3) := by decide +kernel
theorem dL_law_307 : decode cL_law 307 = .ok (.istore 6, 2) := by decide +kernel
theorem dL_law_309 : decode cL_law 309 = .ok (.goto 350, 3) := by decide +kernel
theorem dL_law_312 : decode cL_law 312 = .ok (.aload_n 1, 1) := by decide +kernel
theorem dL_law_313 : decode cL_law 313 = .ok (.aload_n 3, 1) := by decide +kernel
theorem dL_law_314 : decode cL_law 314 = .ok (.invokestatic 101, 3) := by decide +kernel
theorem dL_law_317 : decode cL_law 317 = .ok (.istore 5, 2) := by decide +kernel
theorem dL_law_319 : decode cL_law 319 = .ok (.aload_n 2, 1) := by decide +kernel
theorem dL_law_320 : decode cL_law 320 = .ok (.invokevirtual 103, 3) := by decide +kernel
theorem dL_law_323 : decode cL_law 323 = .ok (.istore 6, 2) := by decide +kernel
theorem dL_law_325 : decode cL_law 325 = .ok (.goto 334, 3) := by decide +kernel
theorem dL_law_328 : decode cL_law 328 = .ok (.aload_n 1, 1) := by decide +kernel
theorem dL_law_329 : decode cL_law 329 = .ok (.aload_n 0, 1) := by decide +kernel
theorem dL_law_330 : decode cL_law 330 = .ok (.iload 4, 2) := by decide +kernel
theorem dL_law_332 : decode cL_law 332 = .ok (.iconst 1, 1) := by decide +kernel
theorem dL_law_333 : decode cL_law 333 = .ok (.iadd, 1) := by decide +kernel
theorem dL_law_334 : decode cL_law 334 = .ok (.iaload, 1) := by decide +kernel
theorem dL_law_335 : decode cL_law 335 = .ok (.aload_n 3, 1) := by decide +kernel
theorem dL_law_336 : decode cL_law 336 = .ok (.invokestatic 104, 3) := by decide +kernel
theorem dL_law_339 : decode cL_law 339 = .ok (.istore 5, 2) := by decide +kernel
theorem dL_law_341 : decode cL_law 341 = .ok (.aload_n 2, 1) := by decide +kernel
theorem dL_law_342 : decode cL_law 342 = .ok (.aload_n 0, 1) := by decide +kernel
theorem dL_law_343 : decode cL_law 343 = .ok (.iload 4, 2) := by decide +kernel
theorem dL_law_345 : decode cL_law 345 = .ok (.iconst 1, 1) := by decide +kernel
theorem dL_law_346 : decode cL_law 346 = .ok (.iadd, 1) := by decide +kernel
theorem dL_law_347 : decode cL_law 347 = .ok (.iaload, 1) := by decide +kernel
theorem dL_law_348 : decode cL_law 348 = .ok (.invokevirtual 106, 3) := by decide +kernel
theorem dL_law_351 : decode cL_law 351 = .ok (.istore 6, 2) := by decide +kernel
theorem dL_law_353 : decode cL_law 353 = .ok (.goto 306, 3) := by decide +kernel
theorem dL_law_356 : decode cL_law 356 = .ok (.aload_n 1, 1) := by decide +kernel
theorem dL_law_357 : decode cL_law 357 = .ok (.invokestatic 107, 3) := by decide +kernel
theorem dL_law_360 : decode cL_law 360 = .ok (.istore 5, 2) := by decide +kernel
theorem dL_law_362 : decode cL_law 362 = .ok (.aload_n 2, 1) := by decide +kernel
theorem dL_law_363 : decode cL_law 363 = .ok (.invokevirtual 110, 3) := by decide +kernel
theorem dL_law_366 : decode cL_law 366 = .ok (.goto 293, 3) := by decide +kernel
theorem dL_law_369 : decode cL_law 369 = .ok (.aload_n 1, 1) := by decide +kernel
theorem dL_law_370 : decode cL_law 370 = .ok (.aload_n 0, 1) := by decide +kernel
theorem dL_law_371 : decode cL_law 371 = .ok (.iload 4, 2) := by decide +kernel
theorem dL_law_373 : decode cL_law 373 = .ok (.iconst 1, 1) := by decide +kernel
theorem dL_law_374 : decode cL_law 374 = .ok (.iadd, 1) := by decide +kernel
theorem dL_law_375 : decode cL_law 375 = .ok (.iaload, 1) := by decide +kernel
theorem dL_law_376 : decode cL_law 376 = .ok (.aload_n 3, 1) := by decide +kernel
theorem dL_law_377 : decode cL_law 377 = .ok (.invokestatic 111, 3) := by decide +kernel
theorem dL_law_380 : decode cL_law 380 = .ok (.istore 5, 2) := by decide +kernel
theorem dL_law_382 : decode cL_law 382 = .ok (.aload_n 2, 1) := by decide +kernel
theorem dL_law_383 : decode cL_law 383 = .ok (.aload_n 0, 1) := by decide +kernel
theorem dL_law_384 : decode cL_law 384 = .ok (.iload 4, 2) := by decide +kernel
theorem dL_law_386 : decode cL_law 386 = .ok (.iconst 1, 1) := by decide +kernel
theorem dL_law_387 : decode cL_law 387 = .ok (.iadd, 1) := by decide +kernel
theorem dL_law_388 : decode cL_law 388 = .ok (.iaload, 1) := by decide +kernel
theorem dL_law_389 : decode cL_law 389 = .ok (.invokevirtual 113, 3) := by decide +kernel
theorem dL_law_392 : decode cL_law 392 = .ok (.lstore 6, 2) := by decide +kernel
theorem dL_law_394 : decode cL_law 394 = .ok (.goto 265, 3) := by decide +kernel
theorem dL_law_397 : decode cL_law 397 = .ok (.aload_n 1, 1) := by decide +kernel
theorem dL_law_398 : decode cL_law 398 = .ok (.aload_n 0, 1) := by decide +kernel
theorem dL_law_399 : decode cL_law 399 = .ok (.iload 4, 2) := by decide +kernel
theorem dL_law_401 : decode cL_law 401 = .ok (.iconst 1, 1) := by decide +kernel
theorem dL_law_402 : decode cL_law 402 = .ok (.iadd, 1) := by decide +kernel
theorem dL_law_403 : decode cL_law 403 = .ok (.iaload, 1) := by decide +kernel
theorem dL_law_404 : decode cL_law 404 = .ok (.ifCond .eq 7, 3) := by decide +kernel
theorem dL_law_407 : decode cL_law 407 = .ok (.iconst 1, 1) := by decide +kernel
theorem dL_law_408 : decode cL_law 408 = .ok (.goto 4, 3) := by decide +kernel
theorem dL_law_411 : decode cL_law 411 = .ok (.iconst 0, 1) := by decide +kernel
theorem dL_law_412 : decode cL_law 412 = .ok (.aload_n 0, 1) := by decide +kernel
theorem dL_law_413 : decode cL_law 413 = .ok (.iload 4, 2) := by decide +kernel
theorem dL_law_415 : decode cL_law 415 = .ok (.iconst 2, 1) := by decide +kernel
theorem dL_law_416 : decode cL_law 416 = .ok (.iadd, 1) := by decide +kernel
theorem dL_law_417 : decode cL_law 417 = .ok (.iaload, 1) := by decide +kernel
theorem dL_law_418 : decode cL_law 418 = .ok (.ifCond .eq 7, 3) := by decide +kernel
theorem dL_law_421 : decode cL_law 421 = .ok (.iconst 1, 1) := by decide +kernel
theorem dL_law_422 : decode cL_law 422 = .ok (.goto 4, 3) := by decide +kernel
theorem dL_law_425 : decode cL_law 425 = .ok (.iconst 0, 1) := by decide +kernel
theorem dL_law_426 : decode cL_law 426 = .ok (.aload_n 3, 1) := by decide +kernel
theorem dL_law_427 : decode cL_law 427 = .ok (.invokestatic 114, 3) := by decide +kernel
theorem dL_law_430 : decode cL_law 430 = .ok (.istore 5, 2) := by decide +kernel
theorem dL_law_432 : decode cL_law 432 = .ok (.aload_n 2, 1) := by decide +kernel
theorem dL_law_433 : decode cL_law 433 = .ok (.aload_n 0, 1) := by decide +kernel
theorem dL_law_434 : decode cL_law 434 = .ok (.iload 4, 2) := by decide +kernel
theorem dL_law_436 : decode cL_law 436 = .ok (.iconst 1, 1) := by decide +kernel
theorem dL_law_437 : decode cL_law 437 = .ok (.iadd, 1) := by decide +kernel
theorem dL_law_438 : decode cL_law 438 = .ok (.iaload, 1) := by decide +kernel
theorem dL_law_439 : decode cL_law 439 = .ok (.ifCond .eq 7, 3) := by decide +kernel
theorem dL_law_442 : decode cL_law 442 = .ok (.iconst 1, 1) := by decide +kernel
theorem dL_law_443 : decode cL_law 443 = .ok (.goto 4, 3) := by decide +kernel
theorem dL_law_446 : decode cL_law 446 = .ok (.iconst 0, 1) := by decide +kernel
theorem dL_law_447 : decode cL_law 447 = .ok (.aload_n 0, 1) := by decide +kernel
theorem dL_law_448 : decode cL_law 448 = .ok (.iload 4, 2) := by decide +kernel
theorem dL_law_450 : decode cL_law 450 = .ok (.iconst 2, 1) := by decide +kernel
theorem dL_law_451 : decode cL_law 451 = .ok (.iadd, 1) := by decide +kernel
theorem dL_law_452 : decode cL_law 452 = .ok (.iaload, 1) := by decide +kernel
theorem dL_law_453 : decode cL_law 453 = .ok (.ifCond .eq 7, 3) := by decide +kernel
theorem dL_law_456 : decode cL_law 456 = .ok (.iconst 1, 1) := by decide +kernel
theorem dL_law_457 : decode cL_law 457 = .ok (.goto 4, 3) := by decide +kernel
theorem dL_law_460 : decode cL_law 460 = .ok (.iconst 0, 1) := by decide +kernel
theorem dL_law_461 : decode cL_law 461 = .ok (.invokevirtual 117, 3) := by decide +kernel
theorem dL_law_464 : decode cL_law 464 = .ok (.istore 6, 2) := by decide +kernel
theorem dL_law_466 : decode cL_law 466 = .ok (.goto 193, 3) := by decide +kernel
theorem dL_law_469 : decode cL_law 469 = .ok (.aload_n 1, 1) := by decide +kernel
theorem dL_law_470 : decode cL_law 470 = .ok (.aload_n 3, 1) := by decide +kernel
theorem dL_law_471 : decode cL_law 471 = .ok (.invokestatic 118, 3) := by decide +kernel
theorem dL_law_474 : decode cL_law 474 = .ok (.istore 5, 2) := by decide +kernel
theorem dL_law_476 : decode cL_law 476 = .ok (.aload_n 2, 1) := by decide +kernel
theorem dL_law_477 : decode cL_law 477 = .ok (.invokevirtual 120, 3) := by decide +kernel
theorem dL_law_480 : decode cL_law 480 = .ok (.istore 6, 2) := by decide +kernel
theorem dL_law_482 : decode cL_law 482 = .ok (.goto 177, 3) := by decide +kernel
theorem dL_law_485 : decode cL_law 485 = .ok (.aload_n 1, 1) := by decide +kernel
theorem dL_law_486 : decode cL_law 486 = .ok (.aload_n 0, 1) := by decide +kernel
theorem dL_law_487 : decode cL_law 487 = .ok (.iload 4, 2) := by decide +kernel
theorem dL_law_489 : decode cL_law 489 = .ok (.iconst 1, 1) := by decide +kernel
theorem dL_law_490 : decode cL_law 490 = .ok (.iadd, 1) := by decide +kernel
theorem dL_law_491 : decode cL_law 491 = .ok (.iaload, 1) := by decide +kernel
theorem dL_law_492 : decode cL_law 492 = .ok (.aload_n 0, 1) := by decide +kernel
theorem dL_law_493 : decode cL_law 493 = .ok (.iload 4, 2) := by decide +kernel
theorem dL_law_495 : decode cL_law 495 = .ok (.iconst 2, 1) := by decide +kernel
theorem dL_law_496 : decode cL_law 496 = .ok (.iadd, 1) := by decide +kernel
theorem dL_law_497 : decode cL_law 497 = .ok (.iaload, 1) := by decide +kernel
theorem dL_law_498 : decode cL_law 498 = .ok (.aload_n 3, 1) := by decide +kernel
theorem dL_law_499 : decode cL_law 499 = .ok (.invokestatic 121, 3) := by decide +kernel
theorem dL_law_502 : decode cL_law 502 = .ok (.istore 5, 2) := by decide +kernel
theorem dL_law_504 : decode cL_law 504 = .ok (.aload_n 2, 1) := by decide +kernel
theorem dL_law_505 : decode cL_law 505 = .ok (.aload_n 0, 1) := by decide +kernel
theorem dL_law_506 : decode cL_law 506 = .ok (.iload 4, 2) := by decide +kernel
theorem dL_law_508 : decode cL_law 508 = .ok (.iconst 1, 1) := by decide +kernel
theorem dL_law_509 : decode cL_law 509 = .ok (.iadd, 1) := by decide +kernel
theorem dL_law_510 : decode cL_law 510 = .ok (.iaload, 1) := by decide +kernel
theorem dL_law_511 : decode cL_law 511 = .ok (.aload_n 0, 1) := by decide +kernel
theorem dL_law_512 : decode cL_law 512 = .ok (.iload 4, 2) := by decide +kernel
theorem dL_law_514 : decode cL_law 514 = .ok (.iconst 2, 1) := by decide +kernel
theorem dL_law_515 : decode cL_law 515 = .ok (.iadd, 1) := by decide +kernel
theorem dL_law_516 : decode cL_law 516 = .ok (.iaload, 1) := by decide +kernel
theorem dL_law_517 : decode cL_law 517 = .ok (.invokevirtual 124, 3) := by decide +kernel
theorem dL_law_520 : decode cL_law 520 = .ok (.lstore 6, 2) := by decide +kernel
theorem dL_law_522 : decode cL_law 522 = .ok (.aload_n 2, 1) := by decide +kernel
theorem dL_law_523 : decode cL_law 523 = .ok (.invokevirtual 125, 3) := by decide +kernel
theorem dL_law_526 : decode cL_law 526 = .ok (.iload 5, 2) := by decide +kernel
theorem dL_law_528 : decode cL_law 528 = .ok (.if_icmp .eq 5, 3) := by decide +kernel
theorem dL_law_531 : decode cL_law 531 = .ok (.iconst 0, 1) := by decide +kernel
theorem dL_law_532 : decode cL_law 532 = .ok (.ireturn, 1) := by decide +kernel
theorem dL_law_533 : decode cL_law 533 = .ok (.iload 5, 2) := by decide +kernel
theorem dL_law_535 : decode cL_law 535 = .ok (.ifCond .ne 14, 3) := by decide +kernel
theorem dL_law_538 : decode cL_law 538 = .ok (.aload_n 3, 1) := by decide +kernel
theorem dL_law_539 : decode cL_law 539 = .ok (.iconst 0, 1) := by decide +kernel
theorem dL_law_540 : decode cL_law 540 = .ok (.laload, 1) := by decide +kernel
theorem dL_law_541 : decode cL_law 541 = .ok (.lload 6, 2) := by decide +kernel
theorem dL_law_543 : decode cL_law 543 = .ok (.lcmp, 1) := by decide +kernel
theorem dL_law_544 : decode cL_law 544 = .ok (.ifCond .eq 5, 3) := by decide +kernel
theorem dL_law_547 : decode cL_law 547 = .ok (.iconst 0, 1) := by decide +kernel
theorem dL_law_548 : decode cL_law 548 = .ok (.ireturn, 1) := by decide +kernel
theorem dL_law_549 : decode cL_law 549 = .ok (.goto 110, 3) := by decide +kernel
theorem dL_law_552 : decode cL_law 552 = .ok (.aload_n 1, 1) := by decide +kernel
theorem dL_law_553 : decode cL_law 553 = .ok (.aload_n 0, 1) := by decide +kernel
theorem dL_law_554 : decode cL_law 554 = .ok (.iload 4, 2) := by decide +kernel
theorem dL_law_556 : decode cL_law 556 = .ok (.iconst 1, 1) := by decide +kernel
theorem dL_law_557 : decode cL_law 557 = .ok (.iadd, 1) := by decide +kernel
theorem dL_law_558 : decode cL_law 558 = .ok (.iaload, 1) := by decide +kernel
theorem dL_law_559 : decode cL_law 559 = .ok (.ifCond .eq 7, 3) := by decide +kernel
theorem dL_law_562 : decode cL_law 562 = .ok (.iconst 1, 1) := by decide +kernel
theorem dL_law_563 : decode cL_law 563 = .ok (.goto 4, 3) := by decide +kernel
theorem dL_law_566 : decode cL_law 566 = .ok (.iconst 0, 1) := by decide +kernel
theorem dL_law_567 : decode cL_law 567 = .ok (.aload_n 0, 1) := by decide +kernel
theorem dL_law_568 : decode cL_law 568 = .ok (.iload 4, 2) := by decide +kernel
theorem dL_law_570 : decode cL_law 570 = .ok (.iconst 2, 1) := by decide +kernel
theorem dL_law_571 : decode cL_law 571 = .ok (.iadd, 1) := by decide +kernel
theorem dL_law_572 : decode cL_law 572 = .ok (.iaload, 1) := by decide +kernel
theorem dL_law_573 : decode cL_law 573 = .ok (.aload_n 0, 1) := by decide +kernel
theorem dL_law_574 : decode cL_law 574 = .ok (.iload 4, 2) := by decide +kernel
theorem dL_law_576 : decode cL_law 576 = .ok (.iconst 3, 1) := by decide +kernel
theorem dL_law_577 : decode cL_law 577 = .ok (.iadd, 1) := by decide +kernel
theorem dL_law_578 : decode cL_law 578 = .ok (.iaload, 1) := by decide +kernel
theorem dL_law_579 : decode cL_law 579 = .ok (.aload_n 3, 1) := by decide +kernel
theorem dL_law_580 : decode cL_law 580 = .ok (.invokestatic 128, 3) := by decide +kernel
theorem dL_law_583 : decode cL_law 583 = .ok (.istore 5, 2) := by decide +kernel
theorem dL_law_585 : decode cL_law 585 = .ok (.aload_n 2, 1) := by decide +kernel
theorem dL_law_586 : decode cL_law 586 = .ok (.aload_n 0, 1) := by decide +kernel
theorem dL_law_587 : decode cL_law 587 = .ok (.iload 4, 2) := by decide +kernel
theorem dL_law_589 : decode cL_law 589 = .ok (.iconst 1, 1) := by decide +kernel
theorem dL_law_590 : decode cL_law 590 = .ok (.iadd, 1) := by decide +kernel
theorem dL_law_591 : decode cL_law 591 = .ok (.iaload, 1) := by decide +kernel
theorem dL_law_592 : decode cL_law 592 = .ok (.ifCond .eq 7, 3) := by decide +kernel
theorem dL_law_595 : decode cL_law 595 = .ok (.iconst 1, 1) := by decide +kernel
theorem dL_law_596 : decode cL_law 596 = .ok (.goto 4, 3) := by decide +kernel
theorem dL_law_599 : decode cL_law 599 = .ok (.iconst 0, 1) := by decide +kernel
theorem dL_law_600 : decode cL_law 600 = .ok (.aload_n 0, 1) := by decide +kernel
theorem dL_law_601 : decode cL_law 601 = .ok (.iload 4, 2) := by decide +kernel
theorem dL_law_603 : decode cL_law 603 = .ok (.iconst 2, 1) := by decide +kernel
theorem dL_law_604 : decode cL_law 604 = .ok (.iadd, 1) := by decide +kernel
theorem dL_law_605 : decode cL_law 605 = .ok (.iaload, 1) := by decide +kernel
theorem dL_law_606 : decode cL_law 606 = .ok (.aload_n 0, 1) := by decide +kernel
theorem dL_law_607 : decode cL_law 607 = .ok (.iload 4, 2) := by decide +kernel
theorem dL_law_609 : decode cL_law 609 = .ok (.iconst 3, 1) := by decide +kernel
theorem dL_law_610 : decode cL_law 610 = .ok (.iadd, 1) := by decide +kernel
theorem dL_law_611 : decode cL_law 611 = .ok (.iaload, 1) := by decide +kernel
theorem dL_law_612 : decode cL_law 612 = .ok (.invokevirtual 130, 3) := by decide +kernel
theorem dL_law_615 : decode cL_law 615 = .ok (.istore 6, 2) := by decide +kernel
theorem dL_law_617 : decode cL_law 617 = .ok (.goto 42, 3) := by decide +kernel
theorem dL_law_620 : decode cL_law 620 = .ok (.aload_n 1, 1) := by decide +kernel
theorem dL_law_621 : decode cL_law 621 = .ok (.aload_n 0, 1) := by decide +kernel
theorem dL_law_622 : decode cL_law 622 = .ok (.iload 4, 2) := by decide +kernel
theorem dL_law_624 : decode cL_law 624 = .ok (.iconst 1, 1) := by decide +kernel
theorem dL_law_625 : decode cL_law 625 = .ok (.iadd, 1) := by decide +kernel
theorem dL_law_626 : decode cL_law 626 = .ok (.iaload, 1) := by decide +kernel
theorem dL_law_627 : decode cL_law 627 = .ok (.aload_n 3, 1) := by decide +kernel
theorem dL_law_628 : decode cL_law 628 = .ok (.invokestatic 131, 3) := by decide +kernel
theorem dL_law_631 : decode cL_law 631 = .ok (.istore 5, 2) := by decide +kernel
theorem dL_law_633 : decode cL_law 633 = .ok (.aload_n 2, 1) := by decide +kernel
theorem dL_law_634 : decode cL_law 634 = .ok (.aload_n 0, 1) := by decide +kernel
theorem dL_law_635 : decode cL_law 635 = .ok (.iload 4, 2) := by decide +kernel
theorem dL_law_637 : decode cL_law 637 = .ok (.iconst 1, 1) := by decide +kernel
theorem dL_law_638 : decode cL_law 638 = .ok (.iadd, 1) := by decide +kernel
theorem dL_law_639 : decode cL_law 639 = .ok (.iaload, 1) := by decide +kernel
theorem dL_law_640 : decode cL_law 640 = .ok (.invokevirtual 133, 3) := by decide +kernel
theorem dL_law_643 : decode cL_law 643 = .ok (.lstore 6, 2) := by decide +kernel
theorem dL_law_645 : decode cL_law 645 = .ok (.goto 14, 3) := by decide +kernel
theorem dL_law_648 : decode cL_law 648 = .ok (.aload_n 1, 1) := by decide +kernel
theorem dL_law_649 : decode cL_law 649 = .ok (.invokevirtual 134, 3) := by decide +kernel
theorem dL_law_652 : decode cL_law 652 = .ok (.aload_n 2, 1) := by decide +kernel
theorem dL_law_653 : decode cL_law 653 = .ok (.invokevirtual 137, 3) := by decide +kernel
theorem dL_law_656 : decode cL_law 656 = .ok (.goto 3, 3) := by decide +kernel
theorem dL_law_659 : decode cL_law 659 = .ok (.iinc 4 4, 3) := by decide +kernel
theorem dL_law_662 : decode cL_law 662 = .ok (.goto (-609), 3) := by decide +kernel
theorem dL_law_665 : decode cL_law 665 = .ok (.iconst 1, 1) := by decide +kernel
theorem dL_law_666 : decode cL_law 666 = .ok (.ireturn, 1) := by decide +kernel

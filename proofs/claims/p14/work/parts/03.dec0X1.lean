theorem dX3_measure_112 : decode cX3_measure 112 = .ok (.iinc 4 1, 3) := by decide +kernel
theorem dX3_measure_115 : decode cX3_measure 115 = .ok (.goto (-78), 3) := by decide +kernel
theorem dX3_measure_118 : decode cX3_measure 118 = .ok (.return_, 1) := by decide +kernel
theorem dX4_init_0 : decode cX4_init 0 = .ok (.aload_n 0, 1) := by decide +kernel
theorem dX4_init_1 : decode cX4_init 1 = .ok (.invokespecial 3, 3) := by decide +kernel
theorem dX4_init_4 : decode cX4_init 4 = .ok (.aload_n 0, 1) := by decide +kernel
theorem dX4_init_5 : decode cX4_init 5 = .ok (.iload_n 1, 1) := by decide +kernel
theorem dX4_init_6 : decode cX4_init 6 = .ok (.putfield 9, 3) := by decide +kernel
theorem dX4_init_9 : decode cX4_init 9 = .ok (.aload_n 0, 1) := by decide +kernel
theorem dX4_init_10 : decode cX4_init 10 = .ok (.iload_n 1, 1) := by decide +kernel
theorem dX4_init_11 : decode cX4_init 11 = .ok (.newarray .int, 2) := by decide +kernel
theorem dX4_init_13 : decode cX4_init 13 = .ok (.putfield 15, 3) := by decide +kernel
theorem dX4_init_16 : decode cX4_init 16 = .ok (.aload_n 0, 1) := by decide +kernel
theorem dX4_init_17 : decode cX4_init 17 = .ok (.iload_n 1, 1) := by decide +kernel
theorem dX4_init_18 : decode cX4_init 18 = .ok (.newarray .int, 2) := by decide +kernel
theorem dX4_init_20 : decode cX4_init 20 = .ok (.putfield 19, 3) := by decide +kernel
theorem dX4_init_23 : decode cX4_init 23 = .ok (.aload_n 0, 1) := by decide +kernel
theorem dX4_init_24 : decode cX4_init 24 = .ok (.iload_n 1, 1) := by decide +kernel
theorem dX4_init_25 : decode cX4_init 25 = .ok (.newarray .int, 2) := by decide +kernel
theorem dX4_init_27 : decode cX4_init 27 = .ok (.putfield 22, 3) := by decide +kernel
theorem dX4_init_30 : decode cX4_init 30 = .ok (.aload_n 0, 1) := by decide +kernel
theorem dX4_init_31 : decode cX4_init 31 = .ok (.iload_n 1, 1) := by decide +kernel
theorem dX4_init_32 : decode cX4_init 32 = .ok (.iconst 1, 1) := by decide +kernel
theorem dX4_init_33 : decode cX4_init 33 = .ok (.iadd, 1) := by decide +kernel
theorem dX4_init_34 : decode cX4_init 34 = .ok (.newarray .int, 2) := by decide +kernel
theorem dX4_init_36 : decode cX4_init 36 = .ok (.putfield 25, 3) := by decide +kernel
theorem dX4_init_39 : decode cX4_init 39 = .ok (.aload_n 0, 1) := by decide +kernel
theorem dX4_init_40 : decode cX4_init 40 = .ok (.iload_n 1, 1) := by decide +kernel
theorem dX4_init_41 : decode cX4_init 41 = .ok (.iconst 1, 1) := by decide +kernel
theorem dX4_init_42 : decode cX4_init 42 = .ok (.iadd, 1) := by decide +kernel
theorem dX4_init_43 : decode cX4_init 43 = .ok (.newarray .int, 2) := by decide +kernel
theorem dX4_init_45 : decode cX4_init 45 = .ok (.putfield 28, 3) := by decide +kernel
theorem dX4_init_48 : decode cX4_init 48 = .ok (.aload_n 0, 1) := by decide +kernel
theorem dX4_init_49 : decode cX4_init 49 = .ok (.iload_n 1, 1) := by decide +kernel
theorem dX4_init_50 : decode cX4_init 50 = .ok (.newarray .int, 2) := by decide +kernel
theorem dX4_init_52 : decode cX4_init 52 = .ok (.putfield 31, 3) := by decide +kernel
theorem dX4_init_55 : decode cX4_init 55 = .ok (.aload_n 0, 1) := by decide +kernel
theorem dX4_init_56 : decode cX4_init 56 = .ok (.iconst 0, 1) := by decide +kernel
theorem dX4_init_57 : decode cX4_init 57 = .ok (.putfield 34, 3) := by decide +kernel
theorem dX4_init_60 : decode cX4_init 60 = .ok (.aload_n 0, 1) := by decide +kernel
theorem dX4_init_61 : decode cX4_init 61 = .ok (.iconst 0, 1) := by decide +kernel
theorem dX4_init_62 : decode cX4_init 62 = .ok (.putfield 37, 3) := by decide +kernel
theorem dX4_init_65 : decode cX4_init 65 = .ok (.return_, 1) := by decide +kernel
theorem dX4_size_0 : decode cX4_size 0 = .ok (.aload_n 0, 1) := by decide +kernel
theorem dX4_size_1 : decode cX4_size 1 = .ok (.getfield 34, 3) := by decide +kernel
theorem dX4_size_4 : decode cX4_size 4 = .ok (.ireturn, 1) := by decide +kernel
theorem dX4_hasRoom_0 : decode cX4_hasRoom 0 = .ok (.aload_n 0, 1) := by decide +kernel
theorem dX4_hasRoom_1 : decode cX4_hasRoom 1 = .ok (.getfield 34, 3) := by decide +kernel
theorem dX4_hasRoom_4 : decode cX4_hasRoom 4 = .ok (.aload_n 0, 1) := by decide +kernel
theorem dX4_hasRoom_5 : decode cX4_hasRoom 5 = .ok (.getfield 9, 3) := by decide +kernel
theorem dX4_hasRoom_8 : decode cX4_hasRoom 8 = .ok (.if_icmp .ge 7, 3) := by decide +kernel
theorem dX4_hasRoom_11 : decode cX4_hasRoom 11 = .ok (.iconst 1, 1) := by decide +kernel
theorem dX4_hasRoom_12 : decode cX4_hasRoom 12 = .ok (.goto 4, 3) := by decide +kernel
theorem dX4_hasRoom_15 : decode cX4_hasRoom 15 = .ok (.iconst 0, 1) := by decide +kernel
theorem dX4_hasRoom_16 : decode cX4_hasRoom 16 = .ok (.ireturn, 1) := by decide +kernel
theorem dX4_has_0 : decode cX4_has 0 = .ok (.iload_n 1, 1) := by decide +kernel
theorem dX4_has_1 : decode cX4_has 1 = .ok (.ifCond .lt 15, 3) := by decide +kernel
theorem dX4_has_4 : decode cX4_has 4 = .ok (.iload_n 1, 1) := by decide +kernel
theorem dX4_has_5 : decode cX4_has 5 = .ok (.aload_n 0, 1) := by decide +kernel
theorem dX4_has_6 : decode cX4_has 6 = .ok (.getfield 34, 3) := by decide +kernel
theorem dX4_has_9 : decode cX4_has 9 = .ok (.if_icmp .ge 7, 3) := by decide +kernel
theorem dX4_has_12 : decode cX4_has 12 = .ok (.iconst 1, 1) := by decide +kernel
theorem dX4_has_13 : decode cX4_has 13 = .ok (.goto 4, 3) := by decide +kernel
theorem dX4_has_16 : decode cX4_has 16 = .ok (.iconst 0, 1) := by decide +kernel
theorem dX4_has_17 : decode cX4_has 17 = .ok (.ireturn, 1) := by decide +kernel
theorem dX4_append_0 : decode cX4_append 0 = .ok (.aload_n 0, 1) := by decide +kernel
theorem dX4_append_1 : decode cX4_append 1 = .ok (.invokevirtual 40, 3) := by decide +kernel
theorem dX4_append_4 : decode cX4_append 4 = .ok (.ifCond .ne 5, 3) := by decide +kernel
theorem dX4_append_7 : decode cX4_append 7 = .ok (.iconst (-1), 1) := by decide +kernel
theorem dX4_append_8 : decode cX4_append 8 = .ok (.ireturn, 1) := by decide +kernel
theorem dX4_append_9 : decode cX4_append 9 = .ok (.aload_n 0, 1) := by decide +kernel
theorem dX4_append_10 : decode cX4_append 10 = .ok (.getfield 15, 3) := by decide +kernel
theorem dX4_append_13 : decode cX4_append 13 = .ok (.aload_n 0, 1) := by decide +kernel
theorem dX4_append_14 : decode cX4_append 14 = .ok (.getfield 34, 3) := by decide +kernel
theorem dX4_append_17 : decode cX4_append 17 = .ok (.iload_n 1, 1) := by decide +kernel
theorem dX4_append_18 : decode cX4_append 18 = .ok (.iastore, 1) := by decide +kernel
theorem dX4_append_19 : decode cX4_append 19 = .ok (.aload_n 0, 1) := by decide +kernel
theorem dX4_append_20 : decode cX4_append 20 = .ok (.getfield 19, 3) := by decide +kernel
theorem dX4_append_23 : decode cX4_append 23 = .ok (.aload_n 0, 1) := by decide +kernel
theorem dX4_append_24 : decode cX4_append 24 = .ok (.getfield 34, 3) := by decide +kernel
theorem dX4_append_27 : decode cX4_append 27 = .ok (.iload_n 2, 1) := by decide +kernel
theorem dX4_append_28 : decode cX4_append 28 = .ok (.iastore, 1) := by decide +kernel
theorem dX4_append_29 : decode cX4_append 29 = .ok (.aload_n 0, 1) := by decide +kernel
theorem dX4_append_30 : decode cX4_append 30 = .ok (.dup, 1) := by decide +kernel
theorem dX4_append_31 : decode cX4_append 31 = .ok (.getfield 34, 3) := by decide +kernel
theorem dX4_append_34 : decode cX4_append 34 = .ok (.iconst 1, 1) := by decide +kernel
theorem dX4_append_35 : decode cX4_append 35 = .ok (.iadd, 1) := by decide +kernel
theorem dX4_append_36 : decode cX4_append 36 = .ok (.putfield 34, 3) := by decide +kernel
theorem dX4_append_39 : decode cX4_append 39 = .ok (.aload_n 0, 1) := by decide +kernel
theorem dX4_append_40 : decode cX4_append 40 = .ok (.getfield 34, 3) := by decide +kernel
theorem dX4_append_43 : decode cX4_append 43 = .ok (.iconst 1, 1) := by decide +kernel
theorem dX4_append_44 : decode cX4_append 44 = .ok (.isub, 1) := by decide +kernel
theorem dX4_append_45 : decode cX4_append 45 = .ok (.ireturn, 1) := by decide +kernel
theorem dX4_empty_0 : decode cX4_empty 0 = .ok (.aload_n 0, 1) := by decide +kernel
theorem dX4_empty_1 : decode cX4_empty 1 = .ok (.iconst 0, 1) := by decide +kernel
theorem dX4_empty_2 : decode cX4_empty 2 = .ok (.putfield 34, 3) := by decide +kernel
theorem dX4_empty_5 : decode cX4_empty 5 = .ok (.aload_n 0, 1) := by decide +kernel
theorem dX4_empty_6 : decode cX4_empty 6 = .ok (.iconst 0, 1) := by decide +kernel
theorem dX4_empty_7 : decode cX4_empty 7 = .ok (.putfield 37, 3) := by decide +kernel
theorem dX4_empty_10 : decode cX4_empty 10 = .ok (.return_, 1) := by decide +kernel
theorem dX4_keyAt_0 : decode cX4_keyAt 0 = .ok (.aload_n 0, 1) := by decide +kernel
theorem dX4_keyAt_1 : decode cX4_keyAt 1 = .ok (.iload_n 1, 1) := by decide +kernel
theorem dX4_keyAt_2 : decode cX4_keyAt 2 = .ok (.invokevirtual 44, 3) := by decide +kernel
theorem dX4_keyAt_5 : decode cX4_keyAt 5 = .ok (.ifCond .eq 17, 3) := by decide +kernel
theorem dX4_keyAt_8 : decode cX4_keyAt 8 = .ok (.aload_n 0, 1) := by decide +kernel
theorem dX4_keyAt_9 : decode cX4_keyAt 9 = .ok (.getfield 15, 3) := by decide +kernel
theorem dX4_keyAt_12 : decode cX4_keyAt 12 = .ok (.aload_n 0, 1) := by decide +kernel
theorem dX4_keyAt_13 : decode cX4_keyAt 13 = .ok (.getfield 22, 3) := by decide +kernel
theorem dX4_keyAt_16 : decode cX4_keyAt 16 = .ok (.iload_n 1, 1) := by decide +kernel
theorem dX4_keyAt_17 : decode cX4_keyAt 17 = .ok (.iaload, 1) := by decide +kernel
theorem dX4_keyAt_18 : decode cX4_keyAt 18 = .ok (.iaload, 1) := by decide +kernel
theorem dX4_keyAt_19 : decode cX4_keyAt 19 = .ok (.goto 4, 3) := by decide +kernel
theorem dX4_keyAt_22 : decode cX4_keyAt 22 = .ok (.iconst 0, 1) := by decide +kernel
theorem dX4_keyAt_23 : decode cX4_keyAt 23 = .ok (.ireturn, 1) := by decide +kernel
theorem dX4_valueAt_0 : decode cX4_valueAt 0 = .ok (.aload_n 0, 1) := by decide +kernel
theorem dX4_valueAt_1 : decode cX4_valueAt 1 = .ok (.iload_n 1, 1) := by decide +kernel
theorem dX4_valueAt_2 : decode cX4_valueAt 2 = .ok (.invokevirtual 44, 3) := by decide +kernel
theorem dX4_valueAt_5 : decode cX4_valueAt 5 = .ok (.ifCond .eq 17, 3) := by decide +kernel
theorem dX4_valueAt_8 : decode cX4_valueAt 8 = .ok (.aload_n 0, 1) := by decide +kernel
theorem dX4_valueAt_9 : decode cX4_valueAt 9 = .ok (.getfield 19, 3) := by decide +kernel
theorem dX4_valueAt_12 : decode cX4_valueAt 12 = .ok (.aload_n 0, 1) := by decide +kernel
theorem dX4_valueAt_13 : decode cX4_valueAt 13 = .ok (.getfield 22, 3) := by decide +kernel
theorem dX4_valueAt_16 : decode cX4_valueAt 16 = .ok (.iload_n 1, 1) := by decide +kernel
theorem dX4_valueAt_17 : decode cX4_valueAt 17 = .ok (.iaload, 1) := by decide +kernel
theorem dX4_valueAt_18 : decode cX4_valueAt 18 = .ok (.iaload, 1) := by decide +kernel
theorem dX4_valueAt_19 : decode cX4_valueAt 19 = .ok (.goto 4, 3) := by decide +kernel
theorem dX4_valueAt_22 : decode cX4_valueAt 22 = .ok (.iconst 0, 1) := by decide +kernel
theorem dX4_valueAt_23 : decode cX4_valueAt 23 = .ok (.ireturn, 1) := by decide +kernel
theorem dX4_numberAt_0 : decode cX4_numberAt 0 = .ok (.aload_n 0, 1) := by decide +kernel
theorem dX4_numberAt_1 : decode cX4_numberAt 1 = .ok (.iload_n 1, 1) := by decide +kernel
theorem dX4_numberAt_2 : decode cX4_numberAt 2 = .ok (.invokevirtual 44, 3) := by decide +kernel
theorem dX4_numberAt_5 : decode cX4_numberAt 5 = .ok (.ifCond .eq 12, 3) := by decide +kernel
theorem dX4_numberAt_8 : decode cX4_numberAt 8 = .ok (.aload_n 0, 1) := by decide +kernel
theorem dX4_numberAt_9 : decode cX4_numberAt 9 = .ok (.getfield 22, 3) := by decide +kernel
theorem dX4_numberAt_12 : decode cX4_numberAt 12 = .ok (.iload_n 1, 1) := by decide +kernel
theorem dX4_numberAt_13 : decode cX4_numberAt 13 = .ok (.iaload, 1) := by decide +kernel
theorem dX4_numberAt_14 : decode cX4_numberAt 14 = .ok (.goto 4, 3) := by decide +kernel
theorem dX4_numberAt_17 : decode cX4_numberAt 17 = .ok (.iconst (-1), 1) := by decide +kernel
theorem dX4_numberAt_18 : decode cX4_numberAt 18 = .ok (.ireturn, 1) := by decide +kernel
theorem dX4_sortRows_0 : decode cX4_sortRows 0 = .ok (.aload_n 0, 1) := by decide +kernel
theorem dX4_sortRows_1 : decode cX4_sortRows 1 = .ok (.getfield 37, 3) := by decide +kernel
theorem dX4_sortRows_4 : decode cX4_sortRows 4 = .ok (.istore_n 1, 1) := by decide +kernel
theorem dX4_sortRows_5 : decode cX4_sortRows 5 = .ok (.iload_n 1, 1) := by decide +kernel
theorem dX4_sortRows_6 : decode cX4_sortRows 6 = .ok (.aload_n 0, 1) := by decide +kernel
theorem dX4_sortRows_7 : decode cX4_sortRows 7 = .ok (.getfield 34, 3) := by decide +kernel
theorem dX4_sortRows_10 : decode cX4_sortRows 10 = .ok (.if_icmp .ge 14, 3) := by decide +kernel
theorem dX4_sortRows_13 : decode cX4_sortRows 13 = .ok (.aload_n 0, 1) := by decide +kernel
theorem dX4_sortRows_14 : decode cX4_sortRows 14 = .ok (.iload_n 1, 1) := by decide +kernel
theorem dX4_sortRows_15 : decode cX4_sortRows 15 = .ok (.invokevirtual 48, 3) := by decide +kernel
theorem dX4_sortRows_18 : decode cX4_sortRows 18 = .ok (.iinc 1 1, 3) := by decide +kernel
theorem dX4_sortRows_21 : decode cX4_sortRows 21 = .ok (.goto (-16), 3) := by decide +kernel
theorem dX4_sortRows_24 : decode cX4_sortRows 24 = .ok (.aload_n 0, 1) := by decide +kernel
theorem dX4_sortRows_25 : decode cX4_sortRows 25 = .ok (.aload_n 0, 1) := by decide +kernel
theorem dX4_sortRows_26 : decode cX4_sortRows 26 = .ok (.getfield 34, 3) := by decide +kernel
theorem dX4_sortRows_29 : decode cX4_sortRows 29 = .ok (.putfield 37, 3) := by decide +kernel
theorem dX4_sortRows_32 : decode cX4_sortRows 32 = .ok (.return_, 1) := by decide +kernel
theorem dX4_putInOrder_0 : decode cX4_putInOrder 0 = .ok (.iload_n 1, 1) := by decide +kernel
theorem dX4_putInOrder_1 : decode cX4_putInOrder 1 = .ok (.istore_n 2, 1) := by decide +kernel
theorem dX4_putInOrder_2 : decode cX4_putInOrder 2 = .ok (.iload_n 2, 1) := by decide +kernel
theorem dX4_putInOrder_3 : decode cX4_putInOrder 3 = .ok (.ifCond .le 45, 3) := by decide +kernel
theorem dX4_putInOrder_6 : decode cX4_putInOrder 6 = .ok (.aload_n 0, 1) := by decide +kernel
theorem dX4_putInOrder_7 : decode cX4_putInOrder 7 = .ok (.getfield 15, 3) := by decide +kernel
theorem dX4_putInOrder_10 : decode cX4_putInOrder 10 = .ok (.aload_n 0, 1) := by decide +kernel
theorem dX4_putInOrder_11 : decode cX4_putInOrder 11 = .ok (.getfield 22, 3) := by decide +kernel
theorem dX4_putInOrder_14 : decode cX4_putInOrder 14 = .ok (.iload_n 2, 1) := by decide +kernel
theorem dX4_putInOrder_15 : decode cX4_putInOrder 15 = .ok (.iconst 1, 1) := by decide +kernel
theorem dX4_putInOrder_16 : decode cX4_putInOrder 16 = .ok (.isub, 1) := by decide +kernel
theorem dX4_putInOrder_17 : decode cX4_putInOrder 17 = .ok (.iaload, 1) := by decide +kernel
theorem dX4_putInOrder_18 : decode cX4_putInOrder 18 = .ok (.iaload, 1) := by decide +kernel
theorem dX4_putInOrder_19 : decode cX4_putInOrder 19 = .ok (.aload_n 0, 1) := by decide +kernel
theorem dX4_putInOrder_20 : decode cX4_putInOrder 20 = .ok (.getfield 15, 3) := by decide +kernel
theorem dX4_putInOrder_23 : decode cX4_putInOrder 23 = .ok (.iload_n 1, 1) := by decide +kernel
theorem dX4_putInOrder_24 : decode cX4_putInOrder 24 = .ok (.iaload, 1) := by decide +kernel
theorem dX4_putInOrder_25 : decode cX4_putInOrder 25 = .ok (.if_icmp .le 23, 3) := by decide +kernel
theorem dX4_putInOrder_28 : decode cX4_putInOrder 28 = .ok (.aload_n 0, 1) := by decide +kernel
theorem dX4_putInOrder_29 : decode cX4_putInOrder 29 = .ok (.getfield 22, 3) := by decide +kernel
theorem dX4_putInOrder_32 : decode cX4_putInOrder 32 = .ok (.iload_n 2, 1) := by decide +kernel
theorem dX4_putInOrder_33 : decode cX4_putInOrder 33 = .ok (.aload_n 0, 1) := by decide +kernel
theorem dX4_putInOrder_34 : decode cX4_putInOrder 34 = .ok (.getfield 22, 3) := by decide +kernel
theorem dX4_putInOrder_37 : decode cX4_putInOrder 37 = .ok (.iload_n 2, 1) := by decide +kernel
theorem dX4_putInOrder_38 : decode cX4_putInOrder 38 = .ok (.iconst 1, 1) := by decide +kernel
theorem dX4_putInOrder_39 : decode cX4_putInOrder 39 = .ok (.isub, 1) := by decide +kernel
theorem dX4_putInOrder_40 : decode cX4_putInOrder 40 = .ok (.iaload, 1) := by decide +kernel
theorem dX4_putInOrder_41 : decode cX4_putInOrder 41 = .ok (.iastore, 1) := by decide +kernel
theorem dX4_putInOrder_42 : decode cX4_putInOrder 42 = .ok (.iinc 2 (-1), 3) := by decide +kernel
theorem dX4_putInOrder_45 : decode cX4_putInOrder 45 = .ok (.goto (-43), 3) := by decide +kernel
theorem dX4_putInOrder_48 : decode cX4_putInOrder 48 = .ok (.aload_n 0, 1) := by decide +kernel
theorem dX4_putInOrder_49 : decode cX4_putInOrder 49 = .ok (.getfield 22, 3) := by decide +kernel
theorem dX4_putInOrder_52 : decode cX4_putInOrder 52 = .ok (.iload_n 2, 1) := by decide +kernel
theorem dX4_putInOrder_53 : decode cX4_putInOrder 53 = .ok (.iload_n 1, 1) := by decide +kernel
theorem dX4_putInOrder_54 : decode cX4_putInOrder 54 = .ok (.iastore, 1) := by decide +kernel
theorem dX4_putInOrder_55 : decode cX4_putInOrder 55 = .ok (.return_, 1) := by decide +kernel
theorem dX4_findPartners_0 : decode cX4_findPartners 0 = .ok (.iconst 0, 1) := by decide +kernel
theorem dX4_findPartners_1 : decode cX4_findPartners 1 = .ok (.istore_n 2, 1) := by decide +kernel
theorem dX4_findPartners_2 : decode cX4_findPartners 2 = .ok (.iconst 0, 1) := by decide +kernel
theorem dX4_findPartners_3 : decode cX4_findPartners 3 = .ok (.istore_n 3, 1) := by decide +kernel
theorem dX4_findPartners_4 : decode cX4_findPartners 4 = .ok (.iconst 0, 1) := by decide +kernel
theorem dX4_findPartners_5 : decode cX4_findPartners 5 = .ok (.istore 4, 2) := by decide +kernel
theorem dX4_findPartners_7 : decode cX4_findPartners 7 = .ok (.iload 4, 2) := by decide +kernel
theorem dX4_findPartners_9 : decode cX4_findPartners 9 = .ok (.aload_n 0, 1) := by decide +kernel
theorem dX4_findPartners_10 : decode cX4_findPartners 10 = .ok (.getfield 34, 3) := by decide +kernel
theorem dX4_findPartners_13 : decode cX4_findPartners 13 = .ok (.if_icmp .ge 120, 3) := by decide +kernel
theorem dX4_findPartners_16 : decode cX4_findPartners 16 = .ok (.aload_n 0, 1) := by decide +kernel
theorem dX4_findPartners_17 : decode cX4_findPartners 17 = .ok (.iload 4, 2) := by decide +kernel
theorem dX4_findPartners_19 : decode cX4_findPartners 19 = .ok (.invokevirtual 52, 3) := by decide +kernel
theorem dX4_findPartners_22 : decode cX4_findPartners 22 = .ok (.istore 5, 2) := by decide +kernel
theorem dX4_findPartners_24 : decode cX4_findPartners 24 = .ok (.iload_n 2, 1) := by decide +kernel
theorem dX4_findPartners_25 : decode cX4_findPartners 25 = .ok (.aload_n 1, 1) := by decide +kernel
theorem dX4_findPartners_26 : decode cX4_findPartners 26 = .ok (.getfield 34, 3) := by decide +kernel
theorem dX4_findPartners_29 : decode cX4_findPartners 29 = .ok (.if_icmp .ge 19, 3) := by decide +kernel
theorem dX4_findPartners_32 : decode cX4_findPartners 32 = .ok (.aload_n 1, 1) := by decide +kernel
theorem dX4_findPartners_33 : decode cX4_findPartners 33 = .ok (.iload_n 2, 1) := by decide +kernel
theorem dX4_findPartners_34 : decode cX4_findPartners 34 = .ok (.invokevirtual 52, 3) := by decide +kernel
theorem dX4_findPartners_37 : decode cX4_findPartners 37 = .ok (.iload 5, 2) := by decide +kernel
theorem dX4_findPartners_39 : decode cX4_findPartners 39 = .ok (.if_icmp .ge 9, 3) := by decide +kernel
theorem dX4_findPartners_42 : decode cX4_findPartners 42 = .ok (.iinc 2 1, 3) := by decide +kernel
theorem dX4_findPartners_45 : decode cX4_findPartners 45 = .ok (.goto (-21), 3) := by decide +kernel
theorem dX4_findPartners_48 : decode cX4_findPartners 48 = .ok (.iload_n 3, 1) := by decide +kernel
theorem dX4_findPartners_49 : decode cX4_findPartners 49 = .ok (.aload_n 1, 1) := by decide +kernel
theorem dX4_findPartners_50 : decode cX4_findPartners 50 = .ok (.getfield 34, 3) := by decide +kernel
theorem dX4_findPartners_53 : decode cX4_findPartners 53 = .ok (.if_icmp .ge 19, 3) := by decide +kernel
theorem dX4_findPartners_56 : decode cX4_findPartners 56 = .ok (.aload_n 1, 1) := by decide +kernel
theorem dX4_findPartners_57 : decode cX4_findPartners 57 = .ok (.iload_n 3, 1) := by decide +kernel
theorem dX4_findPartners_58 : decode cX4_findPartners 58 = .ok (.invokevirtual 52, 3) := by decide +kernel
theorem dX4_findPartners_61 : decode cX4_findPartners 61 = .ok (.iload 5, 2) := by decide +kernel
theorem dX4_findPartners_63 : decode cX4_findPartners 63 = .ok (.if_icmp .gt 9, 3) := by decide +kernel
theorem dX4_findPartners_66 : decode cX4_findPartners 66 = .ok (.iinc 3 1, 3) := by decide +kernel
theorem dX4_findPartners_69 : decode cX4_findPartners 69 = .ok (.goto (-21), 3) := by decide +kernel
theorem dX4_findPartners_72 : decode cX4_findPartners 72 = .ok (.aload_n 0, 1) := by decide +kernel
theorem dX4_findPartners_73 : decode cX4_findPartners 73 = .ok (.getfield 31, 3) := by decide +kernel
theorem dX4_findPartners_76 : decode cX4_findPartners 76 = .ok (.iload 4, 2) := by decide +kernel
theorem dX4_findPartners_78 : decode cX4_findPartners 78 = .ok (.iload_n 2, 1) := by decide +kernel
theorem dX4_findPartners_79 : decode cX4_findPartners 79 = .ok (.iastore, 1) := by decide +kernel
theorem dX4_findPartners_80 : decode cX4_findPartners 80 = .ok (.aload_n 0, 1) := by decide +kernel
theorem dX4_findPartners_81 : decode cX4_findPartners 81 = .ok (.getfield 25, 3) := by decide +kernel
theorem dX4_findPartners_84 : decode cX4_findPartners 84 = .ok (.iload 4, 2) := by decide +kernel
theorem dX4_findPartners_86 : decode cX4_findPartners 86 = .ok (.iconst 1, 1) := by decide +kernel
theorem dX4_findPartners_87 : decode cX4_findPartners 87 = .ok (.iadd, 1) := by decide +kernel
theorem dX4_findPartners_88 : decode cX4_findPartners 88 = .ok (.aload_n 0, 1) := by decide +kernel
theorem dX4_findPartners_89 : decode cX4_findPartners 89 = .ok (.getfield 25, 3) := by decide +kernel
theorem dX4_findPartners_92 : decode cX4_findPartners 92 = .ok (.iload 4, 2) := by decide +kernel
theorem dX4_findPartners_94 : decode cX4_findPartners 94 = .ok (.iaload, 1) := by decide +kernel
theorem dX4_findPartners_95 : decode cX4_findPartners 95 = .ok (.iload_n 3, 1) := by decide +kernel
theorem dX4_findPartners_96 : decode cX4_findPartners 96 = .ok (.iadd, 1) := by decide +kernel
theorem dX4_findPartners_97 : decode cX4_findPartners 97 = .ok (.iload_n 2, 1) := by decide +kernel
theorem dX4_findPartners_98 : decode cX4_findPartners 98 = .ok (.isub, 1) := by decide +kernel
theorem dX4_findPartners_99 : decode cX4_findPartners 99 = .ok (.iastore, 1) := by decide +kernel
theorem dX4_findPartners_100 : decode cX4_findPartners 100 = .ok (.aload_n 0, 1) := by decide +kernel
theorem dX4_findPartners_101 : decode cX4_findPartners 101 = .ok (.getfield 28, 3) := by decide +kernel
theorem dX4_findPartners_104 : decode cX4_findPartners 104 = .ok (.iload 4, 2) := by decide +kernel
theorem dX4_findPartners_106 : decode cX4_findPartners 106 = .ok (.iconst 1, 1) := by decide +kernel
theorem dX4_findPartners_107 : decode cX4_findPartners 107 = .ok (.iadd, 1) := by decide +kernel
theorem dX4_findPartners_108 : decode cX4_findPartners 108 = .ok (.aload_n 0, 1) := by decide +kernel
theorem dX4_findPartners_109 : decode cX4_findPartners 109 = .ok (.getfield 28, 3) := by decide +kernel
theorem dX4_findPartners_112 : decode cX4_findPartners 112 = .ok (.iload 4, 2) := by decide +kernel
theorem dX4_findPartners_114 : decode cX4_findPartners 114 = .ok (.iaload, 1) := by decide +kernel
theorem dX4_findPartners_115 : decode cX4_findPartners 115 = .ok (.iload_n 3, 1) := by decide +kernel
theorem dX4_findPartners_116 : decode cX4_findPartners 116 = .ok (.iload_n 2, 1) := by decide +kernel
theorem dX4_findPartners_117 : decode cX4_findPartners 117 = .ok (.if_icmp .ne 7, 3) := by decide +kernel
theorem dX4_findPartners_120 : decode cX4_findPartners 120 = .ok (.iconst 1, 1) := by decide +kernel
theorem dX4_findPartners_121 : decode cX4_findPartners 121 = .ok (.goto 4, 3) := by decide +kernel
theorem dX4_findPartners_124 : decode cX4_findPartners 124 = .ok (.iconst 0, 1) := by decide +kernel
theorem dX4_findPartners_125 : decode cX4_findPartners 125 = .ok (.iadd, 1) := by decide +kernel
theorem dX4_findPartners_126 : decode cX4_findPartners 126 = .ok (.iastore, 1) := by decide +kernel
theorem dX4_findPartners_127 : decode cX4_findPartners 127 = .ok (.iinc 4 1, 3) := by decide +kernel
theorem dX4_findPartners_130 : decode cX4_findPartners 130 = .ok (.goto (-123), 3) := by decide +kernel
theorem dX4_findPartners_133 : decode cX4_findPartners 133 = .ok (.return_, 1) := by decide +kernel
theorem dX4_partnersBefore_0 : decode cX4_partnersBefore 0 = .ok (.iload_n 1, 1) := by decide +kernel
theorem dX4_partnersBefore_1 : decode cX4_partnersBefore 1 = .ok (.ifCond .lt 20, 3) := by decide +kernel
theorem dX4_partnersBefore_4 : decode cX4_partnersBefore 4 = .ok (.iload_n 1, 1) := by decide +kernel
theorem dX4_partnersBefore_5 : decode cX4_partnersBefore 5 = .ok (.aload_n 0, 1) := by decide +kernel
theorem dX4_partnersBefore_6 : decode cX4_partnersBefore 6 = .ok (.getfield 34, 3) := by decide +kernel
theorem dX4_partnersBefore_9 : decode cX4_partnersBefore 9 = .ok (.if_icmp .gt 12, 3) := by decide +kernel
theorem dX4_partnersBefore_12 : decode cX4_partnersBefore 12 = .ok (.aload_n 0, 1) := by decide +kernel
theorem dX4_partnersBefore_13 : decode cX4_partnersBefore 13 = .ok (.getfield 25, 3) := by decide +kernel
theorem dX4_partnersBefore_16 : decode cX4_partnersBefore 16 = .ok (.iload_n 1, 1) := by decide +kernel
theorem dX4_partnersBefore_17 : decode cX4_partnersBefore 17 = .ok (.iaload, 1) := by decide +kernel
theorem dX4_partnersBefore_18 : decode cX4_partnersBefore 18 = .ok (.goto 4, 3) := by decide +kernel
theorem dX4_partnersBefore_21 : decode cX4_partnersBefore 21 = .ok (.iconst 0, 1) := by decide +kernel
theorem dX4_partnersBefore_22 : decode cX4_partnersBefore 22 = .ok (.ireturn, 1) := by decide +kernel
theorem dX4_loneBefore_0 : decode cX4_loneBefore 0 = .ok (.iload_n 1, 1) := by decide +kernel
theorem dX4_loneBefore_1 : decode cX4_loneBefore 1 = .ok (.ifCond .lt 20, 3) := by decide +kernel
theorem dX4_loneBefore_4 : decode cX4_loneBefore 4 = .ok (.iload_n 1, 1) := by decide +kernel
theorem dX4_loneBefore_5 : decode cX4_loneBefore 5 = .ok (.aload_n 0, 1) := by decide +kernel
theorem dX4_loneBefore_6 : decode cX4_loneBefore 6 = .ok (.getfield 34, 3) := by decide +kernel
theorem dX4_loneBefore_9 : decode cX4_loneBefore 9 = .ok (.if_icmp .gt 12, 3) := by decide +kernel
theorem dX4_loneBefore_12 : decode cX4_loneBefore 12 = .ok (.aload_n 0, 1) := by decide +kernel
theorem dX4_loneBefore_13 : decode cX4_loneBefore 13 = .ok (.getfield 28, 3) := by decide +kernel
theorem dX4_loneBefore_16 : decode cX4_loneBefore 16 = .ok (.iload_n 1, 1) := by decide +kernel
theorem dX4_loneBefore_17 : decode cX4_loneBefore 17 = .ok (.iaload, 1) := by decide +kernel
theorem dX4_loneBefore_18 : decode cX4_loneBefore 18 = .ok (.goto 4, 3) := by decide +kernel
theorem dX4_loneBefore_21 : decode cX4_loneBefore 21 = .ok (.iconst 0, 1) := by decide +kernel
theorem dX4_loneBefore_22 : decode cX4_loneBefore 22 = .ok (.ireturn, 1) := by decide +kernel
theorem dX4_firstPartnerOf_0 : decode cX4_firstPartnerOf 0 = .ok (.aload_n 0, 1) := by decide +kernel
theorem dX4_firstPartnerOf_1 : decode cX4_firstPartnerOf 1 = .ok (.iload_n 1, 1) := by decide +kernel
theorem dX4_firstPartnerOf_2 : decode cX4_firstPartnerOf 2 = .ok (.invokevirtual 44, 3) := by decide +kernel
theorem dX4_firstPartnerOf_5 : decode cX4_firstPartnerOf 5 = .ok (.ifCond .eq 12, 3) := by decide +kernel
theorem dX4_firstPartnerOf_8 : decode cX4_firstPartnerOf 8 = .ok (.aload_n 0, 1) := by decide +kernel
theorem dX4_firstPartnerOf_9 : decode cX4_firstPartnerOf 9 = .ok (.getfield 31, 3) := by decide +kernel
theorem dX4_firstPartnerOf_12 : decode cX4_firstPartnerOf 12 = .ok (.iload_n 1, 1) := by decide +kernel
theorem dX4_firstPartnerOf_13 : decode cX4_firstPartnerOf 13 = .ok (.iaload, 1) := by decide +kernel
theorem dX4_firstPartnerOf_14 : decode cX4_firstPartnerOf 14 = .ok (.goto 4, 3) := by decide +kernel
theorem dX4_firstPartnerOf_17 : decode cX4_firstPartnerOf 17 = .ok (.iconst 0, 1) := by decide +kernel
theorem dX4_firstPartnerOf_18 : decode cX4_firstPartnerOf 18 = .ok (.ireturn, 1) := by decide +kernel
theorem dX4_startsGroup_0 : decode cX4_startsGroup 0 = .ok (.iload_n 1, 1) := by decide +kernel
theorem dX4_startsGroup_1 : decode cX4_startsGroup 1 = .ok (.ifCond .eq 18, 3) := by decide +kernel
theorem dX4_startsGroup_4 : decode cX4_startsGroup 4 = .ok (.aload_n 0, 1) := by decide +kernel
theorem dX4_startsGroup_5 : decode cX4_startsGroup 5 = .ok (.iload_n 1, 1) := by decide +kernel
theorem dX4_startsGroup_6 : decode cX4_startsGroup 6 = .ok (.iconst 1, 1) := by decide +kernel
theorem dX4_startsGroup_7 : decode cX4_startsGroup 7 = .ok (.isub, 1) := by decide +kernel
theorem dX4_startsGroup_8 : decode cX4_startsGroup 8 = .ok (.invokevirtual 52, 3) := by decide +kernel
theorem dX4_startsGroup_11 : decode cX4_startsGroup 11 = .ok (.aload_n 0, 1) := by decide +kernel
theorem dX4_startsGroup_12 : decode cX4_startsGroup 12 = .ok (.iload_n 1, 1) := by decide +kernel
theorem dX4_startsGroup_13 : decode cX4_startsGroup 13 = .ok (.invokevirtual 52, 3) := by decide +kernel
theorem dX4_startsGroup_16 : decode cX4_startsGroup 16 = .ok (.if_icmp .eq 7, 3) := by decide +kernel
theorem dX4_startsGroup_19 : decode cX4_startsGroup 19 = .ok (.iconst 1, 1) := by decide +kernel
theorem dX4_startsGroup_20 : decode cX4_startsGroup 20 = .ok (.goto 4, 3) := by decide +kernel
theorem dX4_startsGroup_23 : decode cX4_startsGroup 23 = .ok (.iconst 0, 1) := by decide +kernel
theorem dX4_startsGroup_24 : decode cX4_startsGroup 24 = .ok (.istore_n 2, 1) := by decide +kernel
theorem dX4_startsGroup_25 : decode cX4_startsGroup 25 = .ok (.iload_n 2, 1) := by decide +kernel
theorem dX4_startsGroup_26 : decode cX4_startsGroup 26 = .ok (.ifCond .eq 22, 3) := by decide +kernel
theorem dX4_startsGroup_29 : decode cX4_startsGroup 29 = .ok (.aload_n 0, 1) := by decide +kernel
theorem dX4_startsGroup_30 : decode cX4_startsGroup 30 = .ok (.iload_n 1, 1) := by decide +kernel
theorem dX4_startsGroup_31 : decode cX4_startsGroup 31 = .ok (.iconst 1, 1) := by decide +kernel
theorem dX4_startsGroup_32 : decode cX4_startsGroup 32 = .ok (.iadd, 1) := by decide +kernel
theorem dX4_startsGroup_33 : decode cX4_startsGroup 33 = .ok (.invokevirtual 56, 3) := by decide +kernel
theorem dX4_startsGroup_36 : decode cX4_startsGroup 36 = .ok (.aload_n 0, 1) := by decide +kernel
theorem dX4_startsGroup_37 : decode cX4_startsGroup 37 = .ok (.iload_n 1, 1) := by decide +kernel
theorem dX4_startsGroup_38 : decode cX4_startsGroup 38 = .ok (.invokevirtual 56, 3) := by decide +kernel
theorem dX4_startsGroup_41 : decode cX4_startsGroup 41 = .ok (.if_icmp .le 7, 3) := by decide +kernel
theorem dX4_startsGroup_44 : decode cX4_startsGroup 44 = .ok (.iconst 1, 1) := by decide +kernel
theorem dX4_startsGroup_45 : decode cX4_startsGroup 45 = .ok (.goto 4, 3) := by decide +kernel
theorem dX4_startsGroup_48 : decode cX4_startsGroup 48 = .ok (.iconst 0, 1) := by decide +kernel
theorem dX4_startsGroup_49 : decode cX4_startsGroup 49 = .ok (.ireturn, 1) := by decide +kernel
theorem dX4_groupStarts_0 : decode cX4_groupStarts 0 = .ok (.iconst 0, 1) := by decide +kernel
theorem dX4_groupStarts_1 : decode cX4_groupStarts 1 = .ok (.istore_n 1, 1) := by decide +kernel
theorem dX4_groupStarts_2 : decode cX4_groupStarts 2 = .ok (.iconst 0, 1) := by decide +kernel
theorem dX4_groupStarts_3 : decode cX4_groupStarts 3 = .ok (.istore_n 2, 1) := by decide +kernel
theorem dX4_groupStarts_4 : decode cX4_groupStarts 4 = .ok (.iload_n 2, 1) := by decide +kernel
theorem dX4_groupStarts_5 : decode cX4_groupStarts 5 = .ok (.aload_n 0, 1) := by decide +kernel
theorem dX4_groupStarts_6 : decode cX4_groupStarts 6 = .ok (.getfield 34, 3) := by decide +kernel
theorem dX4_groupStarts_9 : decode cX4_groupStarts 9 = .ok (.if_icmp .ge 20, 3) := by decide +kernel
theorem dX4_groupStarts_12 : decode cX4_groupStarts 12 = .ok (.aload_n 0, 1) := by decide +kernel
theorem dX4_groupStarts_13 : decode cX4_groupStarts 13 = .ok (.iload_n 2, 1) := by decide +kernel
theorem dX4_groupStarts_14 : decode cX4_groupStarts 14 = .ok (.invokevirtual 59, 3) := by decide +kernel
theorem dX4_groupStarts_17 : decode cX4_groupStarts 17 = .ok (.ifCond .eq 6, 3) := by decide +kernel
theorem dX4_groupStarts_20 : decode cX4_groupStarts 20 = .ok (.iinc 1 1, 3) := by decide +kernel
theorem dX4_groupStarts_23 : decode cX4_groupStarts 23 = .ok (.iinc 2 1, 3) := by decide +kernel
theorem dX4_groupStarts_26 : decode cX4_groupStarts 26 = .ok (.goto (-22), 3) := by decide +kernel
theorem dX4_groupStarts_29 : decode cX4_groupStarts 29 = .ok (.iload_n 1, 1) := by decide +kernel
theorem dX4_groupStarts_30 : decode cX4_groupStarts 30 = .ok (.ireturn, 1) := by decide +kernel
theorem dX5_init_0 : decode cX5_init 0 = .ok (.aload_n 0, 1) := by decide +kernel
theorem dX5_init_1 : decode cX5_init 1 = .ok (.invokespecial 1, 3) := by decide +kernel
theorem dX5_init_4 : decode cX5_init 4 = .ok (.new 7, 3) := by decide +kernel
theorem dX5_init_7 : decode cX5_init 7 = .ok (.dup, 1) := by decide +kernel
theorem dX5_init_8 : decode cX5_init 8 = .ok (.iload_n 1, 1) := by decide +kernel
theorem dX5_init_9 : decode cX5_init 9 = .ok (.invokestatic 9, 3) := by decide +kernel
theorem dX5_init_12 : decode cX5_init 12 = .ok (.invokespecial 15, 3) := by decide +kernel
theorem dX5_init_15 : decode cX5_init 15 = .ok (.astore 4, 2) := by decide +kernel
theorem dX5_init_17 : decode cX5_init 17 = .ok (.new 7, 3) := by decide +kernel
theorem dX5_init_20 : decode cX5_init 20 = .ok (.dup, 1) := by decide +kernel
theorem dX5_init_21 : decode cX5_init 21 = .ok (.iload_n 2, 1) := by decide +kernel
theorem dX5_init_22 : decode cX5_init 22 = .ok (.invokestatic 9, 3) := by decide +kernel
theorem dX5_init_25 : decode cX5_init 25 = .ok (.invokespecial 15, 3) := by decide +kernel
theorem dX5_init_28 : decode cX5_init 28 = .ok (.astore 5, 2) := by decide +kernel
theorem dX5_init_30 : decode cX5_init 30 = .ok (.aload_n 0, 1) := by decide +kernel
theorem dX5_init_31 : decode cX5_init 31 = .ok (.aload 4, 2) := by decide +kernel
theorem dX5_init_33 : decode cX5_init 33 = .ok (.putfield 18, 3) := by decide +kernel
theorem dX5_init_36 : decode cX5_init 36 = .ok (.aload_n 0, 1) := by decide +kernel
theorem dX5_init_37 : decode cX5_init 37 = .ok (.aload 5, 2) := by decide +kernel
theorem dX5_init_39 : decode cX5_init 39 = .ok (.putfield 22, 3) := by decide +kernel
theorem dX5_init_42 : decode cX5_init 42 = .ok (.aload_n 0, 1) := by decide +kernel
theorem dX5_init_43 : decode cX5_init 43 = .ok (.new 25, 3) := by decide +kernel
theorem dX5_init_46 : decode cX5_init 46 = .ok (.dup, 1) := by decide +kernel
theorem dX5_init_47 : decode cX5_init 47 = .ok (.aload 4, 2) := by decide +kernel
theorem dX5_init_49 : decode cX5_init 49 = .ok (.aload 5, 2) := by decide +kernel
theorem dX5_init_51 : decode cX5_init 51 = .ok (.invokespecial 27, 3) := by decide +kernel
theorem dX5_init_54 : decode cX5_init 54 = .ok (.putfield 30, 3) := by decide +kernel
theorem dX5_init_57 : decode cX5_init 57 = .ok (.aload_n 0, 1) := by decide +kernel
theorem dX5_init_58 : decode cX5_init 58 = .ok (.new 34, 3) := by decide +kernel
theorem dX5_init_61 : decode cX5_init 61 = .ok (.dup, 1) := by decide +kernel
theorem dX5_init_62 : decode cX5_init 62 = .ok (.iload_n 3, 1) := by decide +kernel
theorem dX5_init_63 : decode cX5_init 63 = .ok (.invokestatic 9, 3) := by decide +kernel
theorem dX5_init_66 : decode cX5_init 66 = .ok (.invokespecial 36, 3) := by decide +kernel
theorem dX5_init_69 : decode cX5_init 69 = .ok (.putfield 37, 3) := by decide +kernel
theorem dX5_init_72 : decode cX5_init 72 = .ok (.aload_n 0, 1) := by decide +kernel
theorem dX5_init_73 : decode cX5_init 73 = .ok (.iconst 0, 1) := by decide +kernel
theorem dX5_init_74 : decode cX5_init 74 = .ok (.putfield 41, 3) := by decide +kernel
theorem dX5_init_77 : decode cX5_init 77 = .ok (.return_, 1) := by decide +kernel
theorem dX5_add_0 : decode cX5_add 0 = .ok (.aload_n 0, 1) := by decide +kernel
theorem dX5_add_1 : decode cX5_add 1 = .ok (.iload_n 1, 1) := by decide +kernel
theorem dX5_add_2 : decode cX5_add 2 = .ok (.invokevirtual 45, 3) := by decide +kernel
theorem dX5_add_5 : decode cX5_add 5 = .ok (.astore 4, 2) := by decide +kernel
theorem dX5_add_7 : decode cX5_add 7 = .ok (.aload 4, 2) := by decide +kernel
theorem dX5_add_9 : decode cX5_add 9 = .ok (.invokevirtual 49, 3) := by decide +kernel
theorem dX5_add_12 : decode cX5_add 12 = .ok (.invokestatic 53, 3) := by decide +kernel
theorem dX5_add_15 : decode cX5_add 15 = .ok (.aload_n 0, 1) := by decide +kernel
theorem dX5_add_16 : decode cX5_add 16 = .ok (.iconst 0, 1) := by decide +kernel
theorem dX5_add_17 : decode cX5_add 17 = .ok (.putfield 41, 3) := by decide +kernel
theorem dX5_add_20 : decode cX5_add 20 = .ok (.aload 4, 2) := by decide +kernel
theorem dX5_add_22 : decode cX5_add 22 = .ok (.iload_n 2, 1) := by decide +kernel
theorem dX5_add_23 : decode cX5_add 23 = .ok (.iload_n 3, 1) := by decide +kernel
theorem dX5_add_24 : decode cX5_add 24 = .ok (.invokevirtual 57, 3) := by decide +kernel
theorem dX5_add_27 : decode cX5_add 27 = .ok (.ireturn, 1) := by decide +kernel
theorem dX5_prepare_0 : decode cX5_prepare 0 = .ok (.aload_n 0, 1) := by decide +kernel
theorem dX5_prepare_1 : decode cX5_prepare 1 = .ok (.getfield 18, 3) := by decide +kernel
theorem dX5_prepare_4 : decode cX5_prepare 4 = .ok (.invokevirtual 61, 3) := by decide +kernel
theorem dX5_prepare_7 : decode cX5_prepare 7 = .ok (.aload_n 0, 1) := by decide +kernel
theorem dX5_prepare_8 : decode cX5_prepare 8 = .ok (.getfield 22, 3) := by decide +kernel
theorem dX5_prepare_11 : decode cX5_prepare 11 = .ok (.invokevirtual 61, 3) := by decide +kernel
theorem dX5_prepare_14 : decode cX5_prepare 14 = .ok (.aload_n 0, 1) := by decide +kernel
theorem dX5_prepare_15 : decode cX5_prepare 15 = .ok (.getfield 18, 3) := by decide +kernel
theorem dX5_prepare_18 : decode cX5_prepare 18 = .ok (.aload_n 0, 1) := by decide +kernel
theorem dX5_prepare_19 : decode cX5_prepare 19 = .ok (.getfield 22, 3) := by decide +kernel
theorem dX5_prepare_22 : decode cX5_prepare 22 = .ok (.invokevirtual 64, 3) := by decide +kernel
theorem dX5_prepare_25 : decode cX5_prepare 25 = .ok (.aload_n 0, 1) := by decide +kernel
theorem dX5_prepare_26 : decode cX5_prepare 26 = .ok (.getfield 22, 3) := by decide +kernel
theorem dX5_prepare_29 : decode cX5_prepare 29 = .ok (.aload_n 0, 1) := by decide +kernel
theorem dX5_prepare_30 : decode cX5_prepare 30 = .ok (.getfield 18, 3) := by decide +kernel
theorem dX5_prepare_33 : decode cX5_prepare 33 = .ok (.invokevirtual 64, 3) := by decide +kernel
theorem dX5_prepare_36 : decode cX5_prepare 36 = .ok (.aload_n 0, 1) := by decide +kernel
theorem dX5_prepare_37 : decode cX5_prepare 37 = .ok (.getfield 30, 3) := by decide +kernel
theorem dX5_prepare_40 : decode cX5_prepare 40 = .ok (.invokevirtual 68, 3) := by decide +kernel
theorem dX5_prepare_43 : decode cX5_prepare 43 = .ok (.aload_n 0, 1) := by decide +kernel
theorem dX5_prepare_44 : decode cX5_prepare 44 = .ok (.getfield 30, 3) := by decide +kernel
theorem dX5_prepare_47 : decode cX5_prepare 47 = .ok (.invokevirtual 71, 3) := by decide +kernel
theorem dX5_prepare_50 : decode cX5_prepare 50 = .ok (.aload_n 0, 1) := by decide +kernel
theorem dX5_prepare_51 : decode cX5_prepare 51 = .ok (.getfield 37, 3) := by decide +kernel
theorem dX5_prepare_54 : decode cX5_prepare 54 = .ok (.invokevirtual 74, 3) := by decide +kernel
theorem dX5_prepare_57 : decode cX5_prepare 57 = .ok (.aload_n 0, 1) := by decide +kernel
theorem dX5_prepare_58 : decode cX5_prepare 58 = .ok (.iconst 1, 1) := by decide +kernel
theorem dX5_prepare_59 : decode cX5_prepare 59 = .ok (.putfield 41, 3) := by decide +kernel
theorem dX5_prepare_62 : decode cX5_prepare 62 = .ok (.return_, 1) := by decide +kernel
theorem dX5_kind_0 : decode cX5_kind 0 = .ok (.iload_n 1, 1) := by decide +kernel
theorem dX5_kind_1 : decode cX5_kind 1 = .ok (.iconst 4, 1) := by decide +kernel
theorem dX5_kind_2 : decode cX5_kind 2 = .ok (.invokestatic 77, 3) := by decide +kernel
theorem dX5_kind_5 : decode cX5_kind 5 = .ok (.invokestatic 81, 3) := by decide +kernel
theorem dX5_kind_8 : decode cX5_kind 8 = .ok (.aload_n 0, 1) := by decide +kernel
theorem dX5_kind_9 : decode cX5_kind 9 = .ok (.getfield 30, 3) := by decide +kernel
theorem dX5_kind_12 : decode cX5_kind 12 = .ok (.iload_n 1, 1) := by decide +kernel
theorem dX5_kind_13 : decode cX5_kind 13 = .ok (.invokevirtual 84, 3) := by decide +kernel
theorem dX5_kind_16 : decode cX5_kind 16 = .ok (.aload_n 0, 1) := by decide +kernel
theorem dX5_kind_17 : decode cX5_kind 17 = .ok (.getfield 30, 3) := by decide +kernel
theorem dX5_kind_20 : decode cX5_kind 20 = .ok (.invokevirtual 68, 3) := by decide +kernel
theorem dX5_kind_23 : decode cX5_kind 23 = .ok (.aload_n 0, 1) := by decide +kernel
theorem dX5_kind_24 : decode cX5_kind 24 = .ok (.getfield 30, 3) := by decide +kernel
theorem dX5_kind_27 : decode cX5_kind 27 = .ok (.invokevirtual 71, 3) := by decide +kernel
theorem dX5_kind_30 : decode cX5_kind 30 = .ok (.return_, 1) := by decide +kernel
theorem dX5_next_0 : decode cX5_next 0 = .ok (.aload_n 0, 1) := by decide +kernel
theorem dX5_next_1 : decode cX5_next 1 = .ok (.getfield 41, 3) := by decide +kernel
theorem dX5_next_4 : decode cX5_next 4 = .ok (.invokestatic 53, 3) := by decide +kernel
theorem dX5_next_7 : decode cX5_next 7 = .ok (.aload_n 0, 1) := by decide +kernel
theorem dX5_next_8 : decode cX5_next 8 = .ok (.getfield 30, 3) := by decide +kernel
theorem dX5_next_11 : decode cX5_next 11 = .ok (.invokevirtual 87, 3) := by decide +kernel
theorem dX5_next_14 : decode cX5_next 14 = .ok (.ireturn, 1) := by decide +kernel
theorem dX5_pair_0 : decode cX5_pair 0 = .ok (.iload_n 1, 1) := by decide +kernel
theorem dX5_pair_1 : decode cX5_pair 1 = .ok (.iconst 5, 1) := by decide +kernel
theorem dX5_pair_2 : decode cX5_pair 2 = .ok (.invokestatic 77, 3) := by decide +kernel
theorem dX5_pair_5 : decode cX5_pair 5 = .ok (.invokestatic 81, 3) := by decide +kernel
theorem dX5_pair_8 : decode cX5_pair 8 = .ok (.aload_n 0, 1) := by decide +kernel
theorem dX5_pair_9 : decode cX5_pair 9 = .ok (.getfield 41, 3) := by decide +kernel
theorem dX5_pair_12 : decode cX5_pair 12 = .ok (.ifCond .eq 13, 3) := by decide +kernel
theorem dX5_pair_15 : decode cX5_pair 15 = .ok (.aload_n 0, 1) := by decide +kernel
theorem dX5_pair_16 : decode cX5_pair 16 = .ok (.getfield 30, 3) := by decide +kernel
theorem dX5_pair_19 : decode cX5_pair 19 = .ok (.invokevirtual 90, 3) := by decide +kernel
theorem dX5_pair_22 : decode cX5_pair 22 = .ok (.goto 4, 3) := by decide +kernel
theorem dX5_pair_25 : decode cX5_pair 25 = .ok (.iconst (-1), 1) := by decide +kernel
theorem dX5_pair_26 : decode cX5_pair 26 = .ok (.istore_n 2, 1) := by decide +kernel
theorem dX5_pair_27 : decode cX5_pair 27 = .ok (.aload_n 0, 1) := by decide +kernel
theorem dX5_pair_28 : decode cX5_pair 28 = .ok (.getfield 41, 3) := by decide +kernel
theorem dX5_pair_31 : decode cX5_pair 31 = .ok (.ifCond .eq 13, 3) := by decide +kernel
theorem dX5_pair_34 : decode cX5_pair 34 = .ok (.aload_n 0, 1) := by decide +kernel
theorem dX5_pair_35 : decode cX5_pair 35 = .ok (.getfield 30, 3) := by decide +kernel
theorem dX5_pair_38 : decode cX5_pair 38 = .ok (.invokevirtual 94, 3) := by decide +kernel
theorem dX5_pair_41 : decode cX5_pair 41 = .ok (.goto 4, 3) := by decide +kernel
theorem dX5_pair_44 : decode cX5_pair 44 = .ok (.iconst (-1), 1) := by decide +kernel
theorem dX5_pair_45 : decode cX5_pair 45 = .ok (.istore_n 3, 1) := by decide +kernel
theorem dX5_pair_46 : decode cX5_pair 46 = .ok (.iload_n 1, 1) := by decide +kernel
theorem dX5_pair_47 : decode cX5_pair 47 = .ok (.tableswitch 87 0 3 #[29, 60, 69, 78], 29) := by decide +kernel
theorem dX5_pair_76 : decode cX5_pair 76 = .ok (.aload_n 0, 1) := by decide +kernel
theorem dX5_pair_77 : decode cX5_pair 77 = .ok (.getfield 18, 3) := by decide +kernel
theorem dX5_pair_80 : decode cX5_pair 80 = .ok (.iload_n 2, 1) := by decide +kernel
theorem dX5_pair_81 : decode cX5_pair 81 = .ok (.invokevirtual 97, 3) := by decide +kernel
theorem dX5_pair_84 : decode cX5_pair 84 = .ok (.ifCond .eq 14, 3) := by decide +kernel
theorem dX5_pair_87 : decode cX5_pair 87 = .ok (.aload_n 0, 1) := by decide +kernel
theorem dX5_pair_88 : decode cX5_pair 88 = .ok (.getfield 18, 3) := by decide +kernel
theorem dX5_pair_91 : decode cX5_pair 91 = .ok (.iload_n 2, 1) := by decide +kernel
theorem dX5_pair_92 : decode cX5_pair 92 = .ok (.invokevirtual 101, 3) := by decide +kernel
theorem dX5_pair_95 : decode cX5_pair 95 = .ok (.goto 11, 3) := by decide +kernel
theorem dX5_pair_98 : decode cX5_pair 98 = .ok (.aload_n 0, 1) := by decide +kernel
theorem dX5_pair_99 : decode cX5_pair 99 = .ok (.getfield 22, 3) := by decide +kernel
theorem dX5_pair_102 : decode cX5_pair 102 = .ok (.iload_n 3, 1) := by decide +kernel
theorem dX5_pair_103 : decode cX5_pair 103 = .ok (.invokevirtual 101, 3) := by decide +kernel
theorem dX5_pair_106 : decode cX5_pair 106 = .ok (.ireturn, 1) := by decide +kernel
theorem dX5_pair_107 : decode cX5_pair 107 = .ok (.aload_n 0, 1) := by decide +kernel
theorem dX5_pair_108 : decode cX5_pair 108 = .ok (.getfield 18, 3) := by decide +kernel
theorem dX5_pair_111 : decode cX5_pair 111 = .ok (.iload_n 2, 1) := by decide +kernel
theorem dX5_pair_112 : decode cX5_pair 112 = .ok (.invokevirtual 104, 3) := by decide +kernel
theorem dX5_pair_115 : decode cX5_pair 115 = .ok (.ireturn, 1) := by decide +kernel
theorem dX5_pair_116 : decode cX5_pair 116 = .ok (.aload_n 0, 1) := by decide +kernel
theorem dX5_pair_117 : decode cX5_pair 117 = .ok (.getfield 22, 3) := by decide +kernel
theorem dX5_pair_120 : decode cX5_pair 120 = .ok (.iload_n 3, 1) := by decide +kernel
theorem dX5_pair_121 : decode cX5_pair 121 = .ok (.invokevirtual 104, 3) := by decide +kernel
theorem dX5_pair_124 : decode cX5_pair 124 = .ok (.ireturn, 1) := by decide +kernel
theorem dX5_pair_125 : decode cX5_pair 125 = .ok (.aload_n 0, 1) := by decide +kernel
theorem dX5_pair_126 : decode cX5_pair 126 = .ok (.getfield 18, 3) := by decide +kernel
theorem dX5_pair_129 : decode cX5_pair 129 = .ok (.iload_n 2, 1) := by decide +kernel
theorem dX5_pair_130 : decode cX5_pair 130 = .ok (.invokevirtual 107, 3) := by decide +kernel
theorem dX5_pair_133 : decode cX5_pair 133 = .ok (.ireturn, 1) := by decide +kernel
theorem dX5_pair_134 : decode cX5_pair 134 = .ok (.aload_n 0, 1) := by decide +kernel
theorem dX5_pair_135 : decode cX5_pair 135 = .ok (.getfield 22, 3) := by decide +kernel
theorem dX5_pair_138 : decode cX5_pair 138 = .ok (.iload_n 3, 1) := by decide +kernel
theorem dX5_pair_139 : decode cX5_pair 139 = .ok (.invokevirtual 107, 3) := by decide +kernel
theorem dX5_pair_142 : decode cX5_pair 142 = .ok (.ireturn, 1) := by decide +kernel
theorem dX5_mark_0 : decode cX5_mark 0 = .ok (.aload_n 0, 1) := by decide +kernel
theorem dX5_mark_1 : decode cX5_mark 1 = .ok (.getfield 41, 3) := by decide +kernel
theorem dX5_mark_4 : decode cX5_mark 4 = .ok (.invokestatic 53, 3) := by decide +kernel
theorem dX5_mark_7 : decode cX5_mark 7 = .ok (.aload_n 0, 1) := by decide +kernel
theorem dX5_mark_8 : decode cX5_mark 8 = .ok (.getfield 30, 3) := by decide +kernel
theorem dX5_mark_11 : decode cX5_mark 11 = .ok (.invokevirtual 110, 3) := by decide +kernel
theorem dX5_mark_14 : decode cX5_mark 14 = .ok (.ireturn, 1) := by decide +kernel
theorem dX5_back_0 : decode cX5_back 0 = .ok (.aload_n 0, 1) := by decide +kernel
theorem dX5_back_1 : decode cX5_back 1 = .ok (.getfield 41, 3) := by decide +kernel
theorem dX5_back_4 : decode cX5_back 4 = .ok (.ifCond .eq 17, 3) := by decide +kernel
theorem dX5_back_7 : decode cX5_back 7 = .ok (.aload_n 0, 1) := by decide +kernel
theorem dX5_back_8 : decode cX5_back 8 = .ok (.getfield 30, 3) := by decide +kernel
theorem dX5_back_11 : decode cX5_back 11 = .ok (.invokevirtual 113, 3) := by decide +kernel
theorem dX5_back_14 : decode cX5_back 14 = .ok (.ifCond .eq 7, 3) := by decide +kernel
theorem dX5_back_17 : decode cX5_back 17 = .ok (.iconst 1, 1) := by decide +kernel
theorem dX5_back_18 : decode cX5_back 18 = .ok (.goto 4, 3) := by decide +kernel
theorem dX5_back_21 : decode cX5_back 21 = .ok (.iconst 0, 1) := by decide +kernel
theorem dX5_back_22 : decode cX5_back 22 = .ok (.invokestatic 53, 3) := by decide +kernel
theorem dX5_back_25 : decode cX5_back 25 = .ok (.aload_n 0, 1) := by decide +kernel
theorem dX5_back_26 : decode cX5_back 26 = .ok (.getfield 30, 3) := by decide +kernel
theorem dX5_back_29 : decode cX5_back 29 = .ok (.invokevirtual 116, 3) := by decide +kernel
theorem dX5_back_32 : decode cX5_back 32 = .ok (.ireturn, 1) := by decide +kernel
theorem dX5_seek_0 : decode cX5_seek 0 = .ok (.aload_n 0, 1) := by decide +kernel
theorem dX5_seek_1 : decode cX5_seek 1 = .ok (.getfield 41, 3) := by decide +kernel
theorem dX5_seek_4 : decode cX5_seek 4 = .ok (.invokestatic 53, 3) := by decide +kernel
theorem dX5_seek_7 : decode cX5_seek 7 = .ok (.aload_n 0, 1) := by decide +kernel
theorem dX5_seek_8 : decode cX5_seek 8 = .ok (.getfield 30, 3) := by decide +kernel
theorem dX5_seek_11 : decode cX5_seek 11 = .ok (.iload_n 1, 1) := by decide +kernel
theorem dX5_seek_12 : decode cX5_seek 12 = .ok (.invokevirtual 119, 3) := by decide +kernel
theorem dX5_seek_15 : decode cX5_seek 15 = .ok (.ireturn, 1) := by decide +kernel
theorem dX5_rewind_0 : decode cX5_rewind 0 = .ok (.aload_n 0, 1) := by decide +kernel
theorem dX5_rewind_1 : decode cX5_rewind 1 = .ok (.getfield 41, 3) := by decide +kernel
theorem dX5_rewind_4 : decode cX5_rewind 4 = .ok (.invokestatic 53, 3) := by decide +kernel
theorem dX5_rewind_7 : decode cX5_rewind 7 = .ok (.aload_n 0, 1) := by decide +kernel
theorem dX5_rewind_8 : decode cX5_rewind 8 = .ok (.getfield 30, 3) := by decide +kernel
theorem dX5_rewind_11 : decode cX5_rewind 11 = .ok (.invokevirtual 68, 3) := by decide +kernel
theorem dX5_rewind_14 : decode cX5_rewind 14 = .ok (.return_, 1) := by decide +kernel
theorem dX5_count_0 : decode cX5_count 0 = .ok (.iload_n 1, 1) := by decide +kernel
theorem dX5_count_1 : decode cX5_count 1 = .ok (.iconst 4, 1) := by decide +kernel
theorem dX5_count_2 : decode cX5_count 2 = .ok (.invokestatic 77, 3) := by decide +kernel
theorem dX5_count_5 : decode cX5_count 5 = .ok (.invokestatic 81, 3) := by decide +kernel
theorem dX5_count_8 : decode cX5_count 8 = .ok (.aload_n 0, 1) := by decide +kernel
theorem dX5_count_9 : decode cX5_count 9 = .ok (.getfield 41, 3) := by decide +kernel
theorem dX5_count_12 : decode cX5_count 12 = .ok (.invokestatic 53, 3) := by decide +kernel
theorem dX5_count_15 : decode cX5_count 15 = .ok (.aload_n 0, 1) := by decide +kernel
theorem dX5_count_16 : decode cX5_count 16 = .ok (.getfield 18, 3) := by decide +kernel
theorem dX5_count_19 : decode cX5_count 19 = .ok (.aload_n 0, 1) := by decide +kernel
theorem dX5_count_20 : decode cX5_count 20 = .ok (.getfield 22, 3) := by decide +kernel
theorem dX5_count_23 : decode cX5_count 23 = .ok (.aload_n 0, 1) := by decide +kernel
theorem dX5_count_24 : decode cX5_count 24 = .ok (.getfield 18, 3) := by decide +kernel
theorem dX5_count_27 : decode cX5_count 27 = .ok (.invokevirtual 122, 3) := by decide +kernel
theorem dX5_count_30 : decode cX5_count 30 = .ok (.aload_n 0, 1) := by decide +kernel
theorem dX5_count_31 : decode cX5_count 31 = .ok (.getfield 22, 3) := by decide +kernel
theorem dX5_count_34 : decode cX5_count 34 = .ok (.invokevirtual 122, 3) := by decide +kernel
theorem dX5_count_37 : decode cX5_count 37 = .ok (.iload_n 1, 1) := by decide +kernel
theorem dX5_count_38 : decode cX5_count 38 = .ok (.invokestatic 125, 3) := by decide +kernel
theorem dX5_count_41 : decode cX5_count 41 = .ok (.i2l, 1) := by decide +kernel
theorem dX5_count_42 : decode cX5_count 42 = .ok (.lreturn, 1) := by decide +kernel
theorem dX5_rows_0 : decode cX5_rows 0 = .ok (.aload_n 0, 1) := by decide +kernel
theorem dX5_rows_1 : decode cX5_rows 1 = .ok (.getfield 41, 3) := by decide +kernel
theorem dX5_rows_4 : decode cX5_rows 4 = .ok (.invokestatic 53, 3) := by decide +kernel
theorem dX5_rows_7 : decode cX5_rows 7 = .ok (.aload_n 0, 1) := by decide +kernel
theorem dX5_rows_8 : decode cX5_rows 8 = .ok (.iload_n 1, 1) := by decide +kernel
theorem dX5_rows_9 : decode cX5_rows 9 = .ok (.invokevirtual 45, 3) := by decide +kernel
theorem dX5_rows_12 : decode cX5_rows 12 = .ok (.astore_n 3, 1) := by decide +kernel
theorem dX5_rows_13 : decode cX5_rows 13 = .ok (.aload_n 3, 1) := by decide +kernel
theorem dX5_rows_14 : decode cX5_rows 14 = .ok (.aload_n 3, 1) := by decide +kernel
theorem dX5_rows_15 : decode cX5_rows 15 = .ok (.invokevirtual 122, 3) := by decide +kernel
theorem dX5_rows_18 : decode cX5_rows 18 = .ok (.invokevirtual 129, 3) := by decide +kernel
theorem dX5_rows_21 : decode cX5_rows 21 = .ok (.istore 4, 2) := by decide +kernel
theorem dX5_rows_23 : decode cX5_rows 23 = .ok (.iload_n 2, 1) := by decide +kernel
theorem dX5_rows_24 : decode cX5_rows 24 = .ok (.ifCond .eq 13, 3) := by decide +kernel
theorem dX5_rows_27 : decode cX5_rows 27 = .ok (.aload_n 3, 1) := by decide +kernel
theorem dX5_rows_28 : decode cX5_rows 28 = .ok (.invokevirtual 122, 3) := by decide +kernel
theorem dX5_rows_31 : decode cX5_rows 31 = .ok (.iload 4, 2) := by decide +kernel
theorem dX5_rows_33 : decode cX5_rows 33 = .ok (.isub, 1) := by decide +kernel
theorem dX5_rows_34 : decode cX5_rows 34 = .ok (.goto 5, 3) := by decide +kernel
theorem dX5_rows_37 : decode cX5_rows 37 = .ok (.iload 4, 2) := by decide +kernel
theorem dX5_rows_39 : decode cX5_rows 39 = .ok (.ireturn, 1) := by decide +kernel
theorem dX5_groups_0 : decode cX5_groups 0 = .ok (.aload_n 0, 1) := by decide +kernel
theorem dX5_groups_1 : decode cX5_groups 1 = .ok (.getfield 41, 3) := by decide +kernel
theorem dX5_groups_4 : decode cX5_groups 4 = .ok (.invokestatic 53, 3) := by decide +kernel
theorem dX5_groups_7 : decode cX5_groups 7 = .ok (.aload_n 0, 1) := by decide +kernel
theorem dX5_groups_8 : decode cX5_groups 8 = .ok (.getfield 18, 3) := by decide +kernel
theorem dX5_groups_11 : decode cX5_groups 11 = .ok (.invokevirtual 132, 3) := by decide +kernel
theorem dX5_groups_14 : decode cX5_groups 14 = .ok (.aload_n 0, 1) := by decide +kernel
theorem dX5_groups_15 : decode cX5_groups 15 = .ok (.getfield 37, 3) := by decide +kernel
theorem dX5_groups_18 : decode cX5_groups 18 = .ok (.invokevirtual 135, 3) := by decide +kernel
theorem dX5_groups_21 : decode cX5_groups 21 = .ok (.if_icmp .le 13, 3) := by decide +kernel
theorem dX5_groups_24 : decode cX5_groups 24 = .ok (.new 138, 3) := by decide +kernel
theorem dX5_groups_27 : decode cX5_groups 27 = .ok (.dup, 1) := by decide +kernel
theorem dX5_groups_28 : decode cX5_groups 28 = .ok (.ldc 140, 2) := by decide +kernel
theorem dX5_groups_30 : decode cX5_groups 30 = .ok (.invokespecial 142, 3) := by decide +kernel
theorem dX5_groups_33 : decode cX5_groups 33 = .ok (.athrow, 1) := by decide +kernel
theorem dX5_groups_34 : decode cX5_groups 34 = .ok (.aload_n 0, 1) := by decide +kernel
theorem dX5_groups_35 : decode cX5_groups 35 = .ok (.getfield 37, 3) := by decide +kernel
theorem dX5_groups_38 : decode cX5_groups 38 = .ok (.aload_n 0, 1) := by decide +kernel
theorem dX5_groups_39 : decode cX5_groups 39 = .ok (.getfield 18, 3) := by decide +kernel
theorem dX5_groups_42 : decode cX5_groups 42 = .ok (.aload_n 0, 1) := by decide +kernel
theorem dX5_groups_43 : decode cX5_groups 43 = .ok (.getfield 22, 3) := by decide +kernel
theorem dX5_groups_46 : decode cX5_groups 46 = .ok (.invokevirtual 145, 3) := by decide +kernel
theorem dX5_groups_49 : decode cX5_groups 49 = .ok (.ireturn, 1) := by decide +kernel
theorem dX5_group_0 : decode cX5_group 0 = .ok (.aload_n 0, 1) := by decide +kernel
theorem dX5_group_1 : decode cX5_group 1 = .ok (.getfield 41, 3) := by decide +kernel
theorem dX5_group_4 : decode cX5_group 4 = .ok (.ifCond .eq 17, 3) := by decide +kernel
theorem dX5_group_7 : decode cX5_group 7 = .ok (.aload_n 0, 1) := by decide +kernel
theorem dX5_group_8 : decode cX5_group 8 = .ok (.getfield 37, 3) := by decide +kernel
theorem dX5_group_11 : decode cX5_group 11 = .ok (.invokevirtual 149, 3) := by decide +kernel
theorem dX5_group_14 : decode cX5_group 14 = .ok (.ifCond .eq 7, 3) := by decide +kernel
theorem dX5_group_17 : decode cX5_group 17 = .ok (.iconst 1, 1) := by decide +kernel
theorem dX5_group_18 : decode cX5_group 18 = .ok (.goto 4, 3) := by decide +kernel
theorem dX5_group_21 : decode cX5_group 21 = .ok (.iconst 0, 1) := by decide +kernel
theorem dX5_group_22 : decode cX5_group 22 = .ok (.istore_n 3, 1) := by decide +kernel
theorem dX5_group_23 : decode cX5_group 23 = .ok (.iload_n 1, 1) := by decide +kernel
theorem dX5_group_24 : decode cX5_group 24 = .ok (.ifCond .lt 30, 3) := by decide +kernel
theorem dX5_group_27 : decode cX5_group 27 = .ok (.iload_n 3, 1) := by decide +kernel
theorem dX5_group_28 : decode cX5_group 28 = .ok (.ifCond .eq 14, 3) := by decide +kernel
theorem dX5_group_31 : decode cX5_group 31 = .ok (.aload_n 0, 1) := by decide +kernel
theorem dX5_group_32 : decode cX5_group 32 = .ok (.getfield 37, 3) := by decide +kernel
theorem dX5_group_35 : decode cX5_group 35 = .ok (.iload_n 1, 1) := by decide +kernel
theorem dX5_group_36 : decode cX5_group 36 = .ok (.invokevirtual 152, 3) := by decide +kernel
theorem dX5_group_39 : decode cX5_group 39 = .ok (.ifCond .eq 15, 3) := by decide +kernel
theorem dX5_group_42 : decode cX5_group 42 = .ok (.iload_n 2, 1) := by decide +kernel
theorem dX5_group_43 : decode cX5_group 43 = .ok (.iconst 5, 1) := by decide +kernel
theorem dX5_group_44 : decode cX5_group 44 = .ok (.invokestatic 77, 3) := by decide +kernel
theorem dX5_group_47 : decode cX5_group 47 = .ok (.ifCond .eq 7, 3) := by decide +kernel
theorem dX5_group_50 : decode cX5_group 50 = .ok (.iconst 1, 1) := by decide +kernel
theorem dX5_group_51 : decode cX5_group 51 = .ok (.goto 4, 3) := by decide +kernel
theorem dX5_group_54 : decode cX5_group 54 = .ok (.iconst 0, 1) := by decide +kernel
theorem dX5_group_55 : decode cX5_group 55 = .ok (.invokestatic 81, 3) := by decide +kernel
theorem dX5_group_58 : decode cX5_group 58 = .ok (.iload_n 3, 1) := by decide +kernel
theorem dX5_group_59 : decode cX5_group 59 = .ok (.invokestatic 53, 3) := by decide +kernel
theorem dX5_group_62 : decode cX5_group 62 = .ok (.aload_n 0, 1) := by decide +kernel
theorem dX5_group_63 : decode cX5_group 63 = .ok (.getfield 37, 3) := by decide +kernel
theorem dX5_group_66 : decode cX5_group 66 = .ok (.iload_n 1, 1) := by decide +kernel
theorem dX5_group_67 : decode cX5_group 67 = .ok (.iload_n 2, 1) := by decide +kernel
theorem dX5_group_68 : decode cX5_group 68 = .ok (.invokevirtual 153, 3) := by decide +kernel
theorem dX5_group_71 : decode cX5_group 71 = .ok (.lreturn, 1) := by decide +kernel
theorem dX5_sorted_0 : decode cX5_sorted 0 = .ok (.aload_n 0, 1) := by decide +kernel
theorem dX5_sorted_1 : decode cX5_sorted 1 = .ok (.iload_n 1, 1) := by decide +kernel
theorem dX5_sorted_2 : decode cX5_sorted 2 = .ok (.invokevirtual 45, 3) := by decide +kernel
theorem dX5_sorted_5 : decode cX5_sorted 5 = .ok (.astore 4, 2) := by decide +kernel
theorem dX5_sorted_7 : decode cX5_sorted 7 = .ok (.aload 4, 2) := by decide +kernel
theorem dX5_sorted_9 : decode cX5_sorted 9 = .ok (.iload_n 2, 1) := by decide +kernel
theorem dX5_sorted_10 : decode cX5_sorted 10 = .ok (.invokevirtual 97, 3) := by decide +kernel
theorem dX5_sorted_13 : decode cX5_sorted 13 = .ok (.ifCond .eq 15, 3) := by decide +kernel
theorem dX5_sorted_16 : decode cX5_sorted 16 = .ok (.iload_n 3, 1) := by decide +kernel
theorem dX5_sorted_17 : decode cX5_sorted 17 = .ok (.iconst 3, 1) := by decide +kernel
theorem dX5_sorted_18 : decode cX5_sorted 18 = .ok (.invokestatic 77, 3) := by decide +kernel
theorem dX5_sorted_21 : decode cX5_sorted 21 = .ok (.ifCond .eq 7, 3) := by decide +kernel
theorem dX5_sorted_24 : decode cX5_sorted 24 = .ok (.iconst 1, 1) := by decide +kernel
theorem dX5_sorted_25 : decode cX5_sorted 25 = .ok (.goto 4, 3) := by decide +kernel
theorem dX5_sorted_28 : decode cX5_sorted 28 = .ok (.iconst 0, 1) := by decide +kernel
theorem dX5_sorted_29 : decode cX5_sorted 29 = .ok (.invokestatic 81, 3) := by decide +kernel
theorem dX5_sorted_32 : decode cX5_sorted 32 = .ok (.aload_n 0, 1) := by decide +kernel
theorem dX5_sorted_33 : decode cX5_sorted 33 = .ok (.getfield 41, 3) := by decide +kernel
theorem dX5_sorted_36 : decode cX5_sorted 36 = .ok (.invokestatic 53, 3) := by decide +kernel
theorem dX5_sorted_39 : decode cX5_sorted 39 = .ok (.iload_n 3, 1) := by decide +kernel
theorem dX5_sorted_40 : decode cX5_sorted 40 = .ok (.lookupswitch 42 #[(0, 28), (1, 35)], 28) := by decide +kernel
theorem dX5_sorted_68 : decode cX5_sorted 68 = .ok (.aload 4, 2) := by decide +kernel
theorem dX5_sorted_70 : decode cX5_sorted 70 = .ok (.iload_n 2, 1) := by decide +kernel
theorem dX5_sorted_71 : decode cX5_sorted 71 = .ok (.invokevirtual 101, 3) := by decide +kernel
theorem dX5_sorted_74 : decode cX5_sorted 74 = .ok (.ireturn, 1) := by decide +kernel
theorem dX5_sorted_75 : decode cX5_sorted 75 = .ok (.aload 4, 2) := by decide +kernel
theorem dX5_sorted_77 : decode cX5_sorted 77 = .ok (.iload_n 2, 1) := by decide +kernel
theorem dX5_sorted_78 : decode cX5_sorted 78 = .ok (.invokevirtual 104, 3) := by decide +kernel
theorem dX5_sorted_81 : decode cX5_sorted 81 = .ok (.ireturn, 1) := by decide +kernel
theorem dX5_sorted_82 : decode cX5_sorted 82 = .ok (.aload 4, 2) := by decide +kernel
theorem dX5_sorted_84 : decode cX5_sorted 84 = .ok (.iload_n 2, 1) := by decide +kernel
theorem dX5_sorted_85 : decode cX5_sorted 85 = .ok (.invokevirtual 107, 3) := by decide +kernel
theorem dX5_sorted_88 : decode cX5_sorted 88 = .ok (.ireturn, 1) := by decide +kernel
theorem dX5_about_0 : decode cX5_about 0 = .ok (.iload_n 1, 1) := by decide +kernel
theorem dX5_about_1 : decode cX5_about 1 = .ok (.iconst 5, 1) := by decide +kernel
theorem dX5_about_2 : decode cX5_about 2 = .ok (.invokestatic 77, 3) := by decide +kernel
theorem dX5_about_5 : decode cX5_about 5 = .ok (.invokestatic 81, 3) := by decide +kernel
theorem dX5_about_8 : decode cX5_about 8 = .ok (.iload_n 1, 1) := by decide +kernel
theorem dX5_about_9 : decode cX5_about 9 = .ok (.tableswitch 70 0 3 #[31, 39, 48, 57], 31) := by decide +kernel
theorem dX5_about_40 : decode cX5_about 40 = .ok (.aload_n 0, 1) := by decide +kernel
theorem dX5_about_41 : decode cX5_about 41 = .ok (.getfield 30, 3) := by decide +kernel
theorem dX5_about_44 : decode cX5_about 44 = .ok (.invokevirtual 157, 3) := by decide +kernel
theorem dX5_about_47 : decode cX5_about 47 = .ok (.lreturn, 1) := by decide +kernel
theorem dX5_about_48 : decode cX5_about 48 = .ok (.aload_n 0, 1) := by decide +kernel
theorem dX5_about_49 : decode cX5_about 49 = .ok (.getfield 18, 3) := by decide +kernel
theorem dX5_about_52 : decode cX5_about 52 = .ok (.invokevirtual 122, 3) := by decide +kernel
theorem dX5_about_55 : decode cX5_about 55 = .ok (.i2l, 1) := by decide +kernel
theorem dX5_about_56 : decode cX5_about 56 = .ok (.lreturn, 1) := by decide +kernel
theorem dX5_about_57 : decode cX5_about 57 = .ok (.aload_n 0, 1) := by decide +kernel
theorem dX5_about_58 : decode cX5_about 58 = .ok (.getfield 22, 3) := by decide +kernel
theorem dX5_about_61 : decode cX5_about 61 = .ok (.invokevirtual 122, 3) := by decide +kernel
theorem dX5_about_64 : decode cX5_about 64 = .ok (.i2l, 1) := by decide +kernel
theorem dX5_about_65 : decode cX5_about 65 = .ok (.lreturn, 1) := by decide +kernel
theorem dX5_about_66 : decode cX5_about 66 = .ok (.aload_n 0, 1) := by decide +kernel
theorem dX5_about_67 : decode cX5_about 67 = .ok (.getfield 41, 3) := by decide +kernel
theorem dX5_about_70 : decode cX5_about 70 = .ok (.ifCond .eq 7, 3) := by decide +kernel
theorem dX5_about_73 : decode cX5_about 73 = .ok (.lconst 1, 1) := by decide +kernel
theorem dX5_about_74 : decode cX5_about 74 = .ok (.goto 4, 3) := by decide +kernel
theorem dX5_about_77 : decode cX5_about 77 = .ok (.lconst 0, 1) := by decide +kernel
theorem dX5_about_78 : decode cX5_about 78 = .ok (.lreturn, 1) := by decide +kernel
theorem dX5_about_79 : decode cX5_about 79 = .ok (.aload_n 0, 1) := by decide +kernel
theorem dX5_about_80 : decode cX5_about 80 = .ok (.getfield 30, 3) := by decide +kernel
theorem dX5_about_83 : decode cX5_about 83 = .ok (.invokevirtual 161, 3) := by decide +kernel
theorem dX5_about_86 : decode cX5_about 86 = .ok (.i2l, 1) := by decide +kernel
theorem dX5_about_87 : decode cX5_about 87 = .ok (.lreturn, 1) := by decide +kernel
theorem dX5_clear_0 : decode cX5_clear 0 = .ok (.aload_n 0, 1) := by decide +kernel
theorem dX5_clear_1 : decode cX5_clear 1 = .ok (.getfield 18, 3) := by decide +kernel
theorem dX5_clear_4 : decode cX5_clear 4 = .ok (.invokevirtual 164, 3) := by decide +kernel
theorem dX5_clear_7 : decode cX5_clear 7 = .ok (.aload_n 0, 1) := by decide +kernel
theorem dX5_clear_8 : decode cX5_clear 8 = .ok (.getfield 22, 3) := by decide +kernel
theorem dX5_clear_11 : decode cX5_clear 11 = .ok (.invokevirtual 164, 3) := by decide +kernel
theorem dX5_clear_14 : decode cX5_clear 14 = .ok (.aload_n 0, 1) := by decide +kernel
theorem dX5_clear_15 : decode cX5_clear 15 = .ok (.getfield 30, 3) := by decide +kernel
theorem dX5_clear_18 : decode cX5_clear 18 = .ok (.iconst 0, 1) := by decide +kernel
theorem dX5_clear_19 : decode cX5_clear 19 = .ok (.invokevirtual 84, 3) := by decide +kernel
theorem dX5_clear_22 : decode cX5_clear 22 = .ok (.aload_n 0, 1) := by decide +kernel
theorem dX5_clear_23 : decode cX5_clear 23 = .ok (.iconst 0, 1) := by decide +kernel
theorem dX5_clear_24 : decode cX5_clear 24 = .ok (.putfield 41, 3) := by decide +kernel
theorem dX5_clear_27 : decode cX5_clear 27 = .ok (.return_, 1) := by decide +kernel
theorem dX5_tableOf_0 : decode cX5_tableOf 0 = .ok (.iload_n 1, 1) := by decide +kernel
theorem dX5_tableOf_1 : decode cX5_tableOf 1 = .ok (.ifCond .eq 10, 3) := by decide +kernel
theorem dX5_tableOf_4 : decode cX5_tableOf 4 = .ok (.aload_n 0, 1) := by decide +kernel
theorem dX5_tableOf_5 : decode cX5_tableOf 5 = .ok (.getfield 18, 3) := by decide +kernel
theorem dX5_tableOf_8 : decode cX5_tableOf 8 = .ok (.goto 7, 3) := by decide +kernel
theorem dX5_tableOf_11 : decode cX5_tableOf 11 = .ok (.aload_n 0, 1) := by decide +kernel
theorem dX5_tableOf_12 : decode cX5_tableOf 12 = .ok (.getfield 22, 3) := by decide +kernel
theorem dX5_tableOf_15 : decode cX5_tableOf 15 = .ok (.areturn, 1) := by decide +kernel
theorem dX5_roomFor_0 : decode cX5_roomFor 0 = .ok (.iconst 0, 1) := by decide +kernel
theorem dX5_roomFor_1 : decode cX5_roomFor 1 = .ok (.sipush 400, 3) := by decide +kernel
theorem dX5_roomFor_4 : decode cX5_roomFor 4 = .ok (.iload_n 0, 1) := by decide +kernel
theorem dX5_roomFor_5 : decode cX5_roomFor 5 = .ok (.invokestatic 167, 3) := by decide +kernel
theorem dX5_roomFor_8 : decode cX5_roomFor 8 = .ok (.invokestatic 172, 3) := by decide +kernel
theorem dX5_roomFor_11 : decode cX5_roomFor 11 = .ok (.ireturn, 1) := by decide +kernel
theorem dX5_isBelow_0 : decode cX5_isBelow 0 = .ok (.iload_n 0, 1) := by decide +kernel
theorem dX5_isBelow_1 : decode cX5_isBelow 1 = .ok (.ifCond .lt 12, 3) := by decide +kernel
theorem dX5_isBelow_4 : decode cX5_isBelow 4 = .ok (.iload_n 0, 1) := by decide +kernel
theorem dX5_isBelow_5 : decode cX5_isBelow 5 = .ok (.iload_n 1, 1) := by decide +kernel
theorem dX5_isBelow_6 : decode cX5_isBelow 6 = .ok (.if_icmp .ge 7, 3) := by decide +kernel
theorem dX5_isBelow_9 : decode cX5_isBelow 9 = .ok (.iconst 1, 1) := by decide +kernel
theorem dX5_isBelow_10 : decode cX5_isBelow 10 = .ok (.goto 4, 3) := by decide +kernel
theorem dX5_isBelow_13 : decode cX5_isBelow 13 = .ok (.iconst 0, 1) := by decide +kernel
theorem dX5_isBelow_14 : decode cX5_isBelow 14 = .ok (.ireturn, 1) := by decide +kernel
theorem dX5_requireArgument_0 : decode cX5_requireArgument 0 = .ok (.iload_n 0, 1) := by decide +kernel
theorem dX5_requireArgument_1 : decode cX5_requireArgument 1 = .ok (.ifCond .ne 13, 3) := by decide +kernel
theorem dX5_requireArgument_4 : decode cX5_requireArgument 4 = .ok (.new 175, 3) := by decide +kernel
theorem dX5_requireArgument_7 : decode cX5_requireArgument 7 = .ok (.dup, 1) := by decide +kernel
theorem dX5_requireArgument_8 : decode cX5_requireArgument 8 = .ok (.ldc 177, 2) := by decide +kernel
theorem dX5_requireArgument_10 : decode cX5_requireArgument 10 = .ok (.invokespecial 179, 3) := by decide +kernel
theorem dX5_requireArgument_13 : decode cX5_requireArgument 13 = .ok (.athrow, 1) := by decide +kernel
theorem dX5_requireArgument_14 : decode cX5_requireArgument 14 = .ok (.return_, 1) := by decide +kernel
theorem dX5_requireState_0 : decode cX5_requireState 0 = .ok (.iload_n 0, 1) := by decide +kernel
theorem dX5_requireState_1 : decode cX5_requireState 1 = .ok (.ifCond .ne 13, 3) := by decide +kernel
theorem dX5_requireState_4 : decode cX5_requireState 4 = .ok (.new 180, 3) := by decide +kernel
theorem dX5_requireState_7 : decode cX5_requireState 7 = .ok (.dup, 1) := by decide +kernel
theorem dX5_requireState_8 : decode cX5_requireState 8 = .ok (.ldc 182, 2) := by decide +kernel
theorem dX5_requireState_10 : decode cX5_requireState 10 = .ok (.invokespecial 184, 3) := by decide +kernel
theorem dX5_requireState_13 : decode cX5_requireState 13 = .ok (.athrow, 1) := by decide +kernel
theorem dX5_requireState_14 : decode cX5_requireState 14 = .ok (.return_, 1) := by decide +kernel
theorem dX5_pairsBefore_0 : decode cX5_pairsBefore 0 = .ok (.aload_n 0, 1) := by decide +kernel
theorem dX5_pairsBefore_1 : decode cX5_pairsBefore 1 = .ok (.iload_n 2, 1) := by decide +kernel
theorem dX5_pairsBefore_2 : decode cX5_pairsBefore 2 = .ok (.invokevirtual 185, 3) := by decide +kernel
theorem dX5_pairsBefore_5 : decode cX5_pairsBefore 5 = .ok (.istore 5, 2) := by decide +kernel
theorem dX5_pairsBefore_7 : decode cX5_pairsBefore 7 = .ok (.iload 4, 2) := by decide +kernel
theorem dX5_pairsBefore_9 : decode cX5_pairsBefore 9 = .ok (.iconst 1, 1) := by decide +kernel
theorem dX5_pairsBefore_10 : decode cX5_pairsBefore 10 = .ok (.iand, 1) := by decide +kernel
theorem dX5_pairsBefore_11 : decode cX5_pairsBefore 11 = .ok (.ifCond .eq 13, 3) := by decide +kernel
theorem dX5_pairsBefore_14 : decode cX5_pairsBefore 14 = .ok (.iload 5, 2) := by decide +kernel
theorem dX5_pairsBefore_16 : decode cX5_pairsBefore 16 = .ok (.aload_n 0, 1) := by decide +kernel
theorem dX5_pairsBefore_17 : decode cX5_pairsBefore 17 = .ok (.iload_n 2, 1) := by decide +kernel
theorem dX5_pairsBefore_18 : decode cX5_pairsBefore 18 = .ok (.invokevirtual 129, 3) := by decide +kernel
theorem dX5_pairsBefore_21 : decode cX5_pairsBefore 21 = .ok (.iadd, 1) := by decide +kernel
theorem dX5_pairsBefore_22 : decode cX5_pairsBefore 22 = .ok (.istore 5, 2) := by decide +kernel
theorem dX5_pairsBefore_24 : decode cX5_pairsBefore 24 = .ok (.iload 4, 2) := by decide +kernel
theorem dX5_pairsBefore_26 : decode cX5_pairsBefore 26 = .ok (.iconst 2, 1) := by decide +kernel
theorem dX5_pairsBefore_27 : decode cX5_pairsBefore 27 = .ok (.iand, 1) := by decide +kernel
theorem dX5_pairsBefore_28 : decode cX5_pairsBefore 28 = .ok (.ifCond .eq 13, 3) := by decide +kernel
theorem dX5_pairsBefore_31 : decode cX5_pairsBefore 31 = .ok (.iload 5, 2) := by decide +kernel
theorem dX5_pairsBefore_33 : decode cX5_pairsBefore 33 = .ok (.aload_n 1, 1) := by decide +kernel
theorem dX5_pairsBefore_34 : decode cX5_pairsBefore 34 = .ok (.iload_n 3, 1) := by decide +kernel
theorem dX5_pairsBefore_35 : decode cX5_pairsBefore 35 = .ok (.invokevirtual 129, 3) := by decide +kernel
theorem dX5_pairsBefore_38 : decode cX5_pairsBefore 38 = .ok (.iadd, 1) := by decide +kernel
theorem dX5_pairsBefore_39 : decode cX5_pairsBefore 39 = .ok (.istore 5, 2) := by decide +kernel
theorem dX5_pairsBefore_41 : decode cX5_pairsBefore 41 = .ok (.iload 5, 2) := by decide +kernel
theorem dX5_pairsBefore_43 : decode cX5_pairsBefore 43 = .ok (.ireturn, 1) := by decide +kernel

theorem dX0_init_0 : decode cX0_init 0 = .ok (.aload_n 0, 1) := by decide +kernel
theorem dX0_init_1 : decode cX0_init 1 = .ok (.invokespecial 3, 3) := by decide +kernel
theorem dX0_init_4 : decode cX0_init 4 = .ok (.aload_n 0, 1) := by decide +kernel
theorem dX0_init_5 : decode cX0_init 5 = .ok (.aload_n 1, 1) := by decide +kernel
theorem dX0_init_6 : decode cX0_init 6 = .ok (.putfield 9, 3) := by decide +kernel
theorem dX0_init_9 : decode cX0_init 9 = .ok (.aload_n 0, 1) := by decide +kernel
theorem dX0_init_10 : decode cX0_init 10 = .ok (.aload_n 2, 1) := by decide +kernel
theorem dX0_init_11 : decode cX0_init 11 = .ok (.putfield 15, 3) := by decide +kernel
theorem dX0_init_14 : decode cX0_init 14 = .ok (.aload_n 0, 1) := by decide +kernel
theorem dX0_init_15 : decode cX0_init 15 = .ok (.new 18, 3) := by decide +kernel
theorem dX0_init_18 : decode cX0_init 18 = .ok (.dup, 1) := by decide +kernel
theorem dX0_init_19 : decode cX0_init 19 = .ok (.invokespecial 20, 3) := by decide +kernel
theorem dX0_init_22 : decode cX0_init 22 = .ok (.putfield 21, 3) := by decide +kernel
theorem dX0_init_25 : decode cX0_init 25 = .ok (.aload_n 0, 1) := by decide +kernel
theorem dX0_init_26 : decode cX0_init 26 = .ok (.new 18, 3) := by decide +kernel
theorem dX0_init_29 : decode cX0_init 29 = .ok (.dup, 1) := by decide +kernel
theorem dX0_init_30 : decode cX0_init 30 = .ok (.invokespecial 20, 3) := by decide +kernel
theorem dX0_init_33 : decode cX0_init 33 = .ok (.putfield 25, 3) := by decide +kernel
theorem dX0_init_36 : decode cX0_init 36 = .ok (.aload_n 0, 1) := by decide +kernel
theorem dX0_init_37 : decode cX0_init 37 = .ok (.iconst 0, 1) := by decide +kernel
theorem dX0_init_38 : decode cX0_init 38 = .ok (.putfield 28, 3) := by decide +kernel
theorem dX0_init_41 : decode cX0_init 41 = .ok (.aload_n 0, 1) := by decide +kernel
theorem dX0_init_42 : decode cX0_init 42 = .ok (.iconst 0, 1) := by decide +kernel
theorem dX0_init_43 : decode cX0_init 43 = .ok (.putfield 32, 3) := by decide +kernel
theorem dX0_init_46 : decode cX0_init 46 = .ok (.aload_n 0, 1) := by decide +kernel
theorem dX0_init_47 : decode cX0_init 47 = .ok (.lconst 0, 1) := by decide +kernel
theorem dX0_init_48 : decode cX0_init 48 = .ok (.putfield 36, 3) := by decide +kernel
theorem dX0_init_51 : decode cX0_init 51 = .ok (.return_, 1) := by decide +kernel
theorem dX0_kindInUse_0 : decode cX0_kindInUse 0 = .ok (.aload_n 0, 1) := by decide +kernel
theorem dX0_kindInUse_1 : decode cX0_kindInUse 1 = .ok (.getfield 32, 3) := by decide +kernel
theorem dX0_kindInUse_4 : decode cX0_kindInUse 4 = .ok (.ireturn, 1) := by decide +kernel
theorem dX0_cellsRead_0 : decode cX0_cellsRead 0 = .ok (.aload_n 0, 1) := by decide +kernel
theorem dX0_cellsRead_1 : decode cX0_cellsRead 1 = .ok (.getfield 36, 3) := by decide +kernel
theorem dX0_cellsRead_4 : decode cX0_cellsRead 4 = .ok (.lreturn, 1) := by decide +kernel
theorem dX0_hasMark_0 : decode cX0_hasMark 0 = .ok (.aload_n 0, 1) := by decide +kernel
theorem dX0_hasMark_1 : decode cX0_hasMark 1 = .ok (.getfield 28, 3) := by decide +kernel
theorem dX0_hasMark_4 : decode cX0_hasMark 4 = .ok (.ireturn, 1) := by decide +kernel
theorem dX0_leftPlace_0 : decode cX0_leftPlace 0 = .ok (.aload_n 0, 1) := by decide +kernel
theorem dX0_leftPlace_1 : decode cX0_leftPlace 1 = .ok (.getfield 21, 3) := by decide +kernel
theorem dX0_leftPlace_4 : decode cX0_leftPlace 4 = .ok (.getfield 40, 3) := by decide +kernel
theorem dX0_leftPlace_7 : decode cX0_leftPlace 7 = .ok (.ireturn, 1) := by decide +kernel
theorem dX0_rightPlace_0 : decode cX0_rightPlace 0 = .ok (.aload_n 0, 1) := by decide +kernel
theorem dX0_rightPlace_1 : decode cX0_rightPlace 1 = .ok (.getfield 21, 3) := by decide +kernel
theorem dX0_rightPlace_4 : decode cX0_rightPlace 4 = .ok (.getfield 43, 3) := by decide +kernel
theorem dX0_rightPlace_7 : decode cX0_rightPlace 7 = .ok (.ireturn, 1) := by decide +kernel
theorem dX0_useKind_0 : decode cX0_useKind 0 = .ok (.aload_n 0, 1) := by decide +kernel
theorem dX0_useKind_1 : decode cX0_useKind 1 = .ok (.iload_n 1, 1) := by decide +kernel
theorem dX0_useKind_2 : decode cX0_useKind 2 = .ok (.putfield 32, 3) := by decide +kernel
theorem dX0_useKind_5 : decode cX0_useKind 5 = .ok (.return_, 1) := by decide +kernel
theorem dX0_forgetMark_0 : decode cX0_forgetMark 0 = .ok (.aload_n 0, 1) := by decide +kernel
theorem dX0_forgetMark_1 : decode cX0_forgetMark 1 = .ok (.iconst 0, 1) := by decide +kernel
theorem dX0_forgetMark_2 : decode cX0_forgetMark 2 = .ok (.putfield 28, 3) := by decide +kernel
theorem dX0_forgetMark_5 : decode cX0_forgetMark 5 = .ok (.return_, 1) := by decide +kernel
theorem dX0_restart_0 : decode cX0_restart 0 = .ok (.aload_n 0, 1) := by decide +kernel
theorem dX0_restart_1 : decode cX0_restart 1 = .ok (.getfield 21, 3) := by decide +kernel
theorem dX0_restart_4 : decode cX0_restart 4 = .ok (.iconst 0, 1) := by decide +kernel
theorem dX0_restart_5 : decode cX0_restart 5 = .ok (.iconst 0, 1) := by decide +kernel
theorem dX0_restart_6 : decode cX0_restart 6 = .ok (.iconst 0, 1) := by decide +kernel
theorem dX0_restart_7 : decode cX0_restart 7 = .ok (.invokevirtual 46, 3) := by decide +kernel
theorem dX0_restart_10 : decode cX0_restart 10 = .ok (.aload_n 0, 1) := by decide +kernel
theorem dX0_restart_11 : decode cX0_restart 11 = .ok (.lconst 0, 1) := by decide +kernel
theorem dX0_restart_12 : decode cX0_restart 12 = .ok (.putfield 36, 3) := by decide +kernel
theorem dX0_restart_15 : decode cX0_restart 15 = .ok (.return_, 1) := by decide +kernel
theorem dX0_setMark_0 : decode cX0_setMark 0 = .ok (.aload_n 0, 1) := by decide +kernel
theorem dX0_setMark_1 : decode cX0_setMark 1 = .ok (.getfield 25, 3) := by decide +kernel
theorem dX0_setMark_4 : decode cX0_setMark 4 = .ok (.aload_n 0, 1) := by decide +kernel
theorem dX0_setMark_5 : decode cX0_setMark 5 = .ok (.getfield 21, 3) := by decide +kernel
theorem dX0_setMark_8 : decode cX0_setMark 8 = .ok (.invokevirtual 50, 3) := by decide +kernel
theorem dX0_setMark_11 : decode cX0_setMark 11 = .ok (.aload_n 0, 1) := by decide +kernel
theorem dX0_setMark_12 : decode cX0_setMark 12 = .ok (.iconst 1, 1) := by decide +kernel
theorem dX0_setMark_13 : decode cX0_setMark 13 = .ok (.putfield 28, 3) := by decide +kernel
theorem dX0_setMark_16 : decode cX0_setMark 16 = .ok (.aload_n 0, 1) := by decide +kernel
theorem dX0_setMark_17 : decode cX0_setMark 17 = .ok (.getfield 25, 3) := by decide +kernel
theorem dX0_setMark_20 : decode cX0_setMark 20 = .ok (.getfield 54, 3) := by decide +kernel
theorem dX0_setMark_23 : decode cX0_setMark 23 = .ok (.ireturn, 1) := by decide +kernel
theorem dX0_goToMark_0 : decode cX0_goToMark 0 = .ok (.aload_n 0, 1) := by decide +kernel
theorem dX0_goToMark_1 : decode cX0_goToMark 1 = .ok (.getfield 21, 3) := by decide +kernel
theorem dX0_goToMark_4 : decode cX0_goToMark 4 = .ok (.aload_n 0, 1) := by decide +kernel
theorem dX0_goToMark_5 : decode cX0_goToMark 5 = .ok (.getfield 25, 3) := by decide +kernel
theorem dX0_goToMark_8 : decode cX0_goToMark 8 = .ok (.invokevirtual 50, 3) := by decide +kernel
theorem dX0_goToMark_11 : decode cX0_goToMark 11 = .ok (.aload_n 0, 1) := by decide +kernel
theorem dX0_goToMark_12 : decode cX0_goToMark 12 = .ok (.getfield 21, 3) := by decide +kernel
theorem dX0_goToMark_15 : decode cX0_goToMark 15 = .ok (.getfield 54, 3) := by decide +kernel
theorem dX0_goToMark_18 : decode cX0_goToMark 18 = .ok (.ireturn, 1) := by decide +kernel
theorem dX0_goOn_0 : decode cX0_goOn 0 = .ok (.aload_n 0, 1) := by decide +kernel
theorem dX0_goOn_1 : decode cX0_goOn 1 = .ok (.getfield 21, 3) := by decide +kernel
theorem dX0_goOn_4 : decode cX0_goOn 4 = .ok (.invokevirtual 57, 3) := by decide +kernel
theorem dX0_goOn_7 : decode cX0_goOn 7 = .ok (.ifCond .eq 5, 3) := by decide +kernel
theorem dX0_goOn_10 : decode cX0_goOn 10 = .ok (.iconst 1, 1) := by decide +kernel
theorem dX0_goOn_11 : decode cX0_goOn 11 = .ok (.ireturn, 1) := by decide +kernel
theorem dX0_goOn_12 : decode cX0_goOn 12 = .ok (.aload_n 0, 1) := by decide +kernel
theorem dX0_goOn_13 : decode cX0_goOn 13 = .ok (.invokevirtual 61, 3) := by decide +kernel
theorem dX0_goOn_16 : decode cX0_goOn 16 = .ok (.istore_n 1, 1) := by decide +kernel
theorem dX0_goOn_17 : decode cX0_goOn 17 = .ok (.iload_n 1, 1) := by decide +kernel
theorem dX0_goOn_18 : decode cX0_goOn 18 = .ok (.ifCond .le 43, 3) := by decide +kernel
theorem dX0_goOn_21 : decode cX0_goOn 21 = .ok (.aload_n 0, 1) := by decide +kernel
theorem dX0_goOn_22 : decode cX0_goOn 22 = .ok (.invokevirtual 61, 3) := by decide +kernel
theorem dX0_goOn_25 : decode cX0_goOn 25 = .ok (.ifCond .le 36, 3) := by decide +kernel
theorem dX0_goOn_28 : decode cX0_goOn 28 = .ok (.aload_n 0, 1) := by decide +kernel
theorem dX0_goOn_29 : decode cX0_goOn 29 = .ok (.invokevirtual 65, 3) := by decide +kernel
theorem dX0_goOn_32 : decode cX0_goOn 32 = .ok (.aload_n 0, 1) := by decide +kernel
theorem dX0_goOn_33 : decode cX0_goOn 33 = .ok (.getfield 21, 3) := by decide +kernel
theorem dX0_goOn_36 : decode cX0_goOn 36 = .ok (.aload_n 0, 1) := by decide +kernel
theorem dX0_goOn_37 : decode cX0_goOn 37 = .ok (.getfield 32, 3) := by decide +kernel
theorem dX0_goOn_40 : decode cX0_goOn 40 = .ok (.invokevirtual 68, 3) := by decide +kernel
theorem dX0_goOn_43 : decode cX0_goOn 43 = .ok (.ifCond .eq 12, 3) := by decide +kernel
theorem dX0_goOn_46 : decode cX0_goOn 46 = .ok (.aload_n 0, 1) := by decide +kernel
theorem dX0_goOn_47 : decode cX0_goOn 47 = .ok (.getfield 21, 3) := by decide +kernel
theorem dX0_goOn_50 : decode cX0_goOn 50 = .ok (.invokevirtual 72, 3) := by decide +kernel
theorem dX0_goOn_53 : decode cX0_goOn 53 = .ok (.iconst 1, 1) := by decide +kernel
theorem dX0_goOn_54 : decode cX0_goOn 54 = .ok (.ireturn, 1) := by decide +kernel
theorem dX0_goOn_55 : decode cX0_goOn 55 = .ok (.iinc 1 (-1), 3) := by decide +kernel
theorem dX0_goOn_58 : decode cX0_goOn 58 = .ok (.goto (-41), 3) := by decide +kernel
theorem dX0_goOn_61 : decode cX0_goOn 61 = .ok (.aload_n 0, 1) := by decide +kernel
theorem dX0_goOn_62 : decode cX0_goOn 62 = .ok (.getfield 21, 3) := by decide +kernel
theorem dX0_goOn_65 : decode cX0_goOn 65 = .ok (.aload_n 0, 1) := by decide +kernel
theorem dX0_goOn_66 : decode cX0_goOn 66 = .ok (.getfield 21, 3) := by decide +kernel
theorem dX0_goOn_69 : decode cX0_goOn 69 = .ok (.getfield 75, 3) := by decide +kernel
theorem dX0_goOn_72 : decode cX0_goOn 72 = .ok (.aload_n 0, 1) := by decide +kernel
theorem dX0_goOn_73 : decode cX0_goOn 73 = .ok (.getfield 21, 3) := by decide +kernel
theorem dX0_goOn_76 : decode cX0_goOn 76 = .ok (.getfield 78, 3) := by decide +kernel
theorem dX0_goOn_79 : decode cX0_goOn 79 = .ok (.aload_n 0, 1) := by decide +kernel
theorem dX0_goOn_80 : decode cX0_goOn 80 = .ok (.getfield 21, 3) := by decide +kernel
theorem dX0_goOn_83 : decode cX0_goOn 83 = .ok (.getfield 54, 3) := by decide +kernel
theorem dX0_goOn_86 : decode cX0_goOn 86 = .ok (.invokevirtual 46, 3) := by decide +kernel
theorem dX0_goOn_89 : decode cX0_goOn 89 = .ok (.iconst 0, 1) := by decide +kernel
theorem dX0_goOn_90 : decode cX0_goOn 90 = .ok (.ireturn, 1) := by decide +kernel
theorem dX0_goBefore_0 : decode cX0_goBefore 0 = .ok (.aload_n 0, 1) := by decide +kernel
theorem dX0_goBefore_1 : decode cX0_goBefore 1 = .ok (.aload_n 0, 1) := by decide +kernel
theorem dX0_goBefore_2 : decode cX0_goBefore 2 = .ok (.getfield 9, 3) := by decide +kernel
theorem dX0_goBefore_5 : decode cX0_goBefore 5 = .ok (.iload_n 1, 1) := by decide +kernel
theorem dX0_goBefore_6 : decode cX0_goBefore 6 = .ok (.invokevirtual 81, 3) := by decide +kernel
theorem dX0_goBefore_9 : decode cX0_goBefore 9 = .ok (.istore_n 2, 1) := by decide +kernel
theorem dX0_goBefore_10 : decode cX0_goBefore 10 = .ok (.aload_n 0, 1) := by decide +kernel
theorem dX0_goBefore_11 : decode cX0_goBefore 11 = .ok (.aload_n 0, 1) := by decide +kernel
theorem dX0_goBefore_12 : decode cX0_goBefore 12 = .ok (.getfield 15, 3) := by decide +kernel
theorem dX0_goBefore_15 : decode cX0_goBefore 15 = .ok (.iload_n 1, 1) := by decide +kernel
theorem dX0_goBefore_16 : decode cX0_goBefore 16 = .ok (.invokevirtual 81, 3) := by decide +kernel
theorem dX0_goBefore_19 : decode cX0_goBefore 19 = .ok (.istore_n 3, 1) := by decide +kernel
theorem dX0_goBefore_20 : decode cX0_goBefore 20 = .ok (.aload_n 0, 1) := by decide +kernel
theorem dX0_goBefore_21 : decode cX0_goBefore 21 = .ok (.getfield 9, 3) := by decide +kernel
theorem dX0_goBefore_24 : decode cX0_goBefore 24 = .ok (.aload_n 0, 1) := by decide +kernel
theorem dX0_goBefore_25 : decode cX0_goBefore 25 = .ok (.getfield 15, 3) := by decide +kernel
theorem dX0_goBefore_28 : decode cX0_goBefore 28 = .ok (.iload_n 2, 1) := by decide +kernel
theorem dX0_goBefore_29 : decode cX0_goBefore 29 = .ok (.iload_n 3, 1) := by decide +kernel
theorem dX0_goBefore_30 : decode cX0_goBefore 30 = .ok (.aload_n 0, 1) := by decide +kernel
theorem dX0_goBefore_31 : decode cX0_goBefore 31 = .ok (.getfield 32, 3) := by decide +kernel
theorem dX0_goBefore_34 : decode cX0_goBefore 34 = .ok (.invokestatic 85, 3) := by decide +kernel
theorem dX0_goBefore_37 : decode cX0_goBefore 37 = .ok (.istore 4, 2) := by decide +kernel
theorem dX0_goBefore_39 : decode cX0_goBefore 39 = .ok (.aload_n 0, 1) := by decide +kernel
theorem dX0_goBefore_40 : decode cX0_goBefore 40 = .ok (.getfield 21, 3) := by decide +kernel
theorem dX0_goBefore_43 : decode cX0_goBefore 43 = .ok (.iload_n 2, 1) := by decide +kernel
theorem dX0_goBefore_44 : decode cX0_goBefore 44 = .ok (.iload_n 3, 1) := by decide +kernel
theorem dX0_goBefore_45 : decode cX0_goBefore 45 = .ok (.iload 4, 2) := by decide +kernel
theorem dX0_goBefore_47 : decode cX0_goBefore 47 = .ok (.invokevirtual 46, 3) := by decide +kernel
theorem dX0_goBefore_50 : decode cX0_goBefore 50 = .ok (.iload 4, 2) := by decide +kernel
theorem dX0_goBefore_52 : decode cX0_goBefore 52 = .ok (.aload_n 0, 1) := by decide +kernel
theorem dX0_goBefore_53 : decode cX0_goBefore 53 = .ok (.getfield 9, 3) := by decide +kernel
theorem dX0_goBefore_56 : decode cX0_goBefore 56 = .ok (.aload_n 0, 1) := by decide +kernel
theorem dX0_goBefore_57 : decode cX0_goBefore 57 = .ok (.getfield 15, 3) := by decide +kernel
theorem dX0_goBefore_60 : decode cX0_goBefore 60 = .ok (.aload_n 0, 1) := by decide +kernel
theorem dX0_goBefore_61 : decode cX0_goBefore 61 = .ok (.getfield 9, 3) := by decide +kernel
theorem dX0_goBefore_64 : decode cX0_goBefore 64 = .ok (.invokevirtual 89, 3) := by decide +kernel
theorem dX0_goBefore_67 : decode cX0_goBefore 67 = .ok (.aload_n 0, 1) := by decide +kernel
theorem dX0_goBefore_68 : decode cX0_goBefore 68 = .ok (.getfield 15, 3) := by decide +kernel
theorem dX0_goBefore_71 : decode cX0_goBefore 71 = .ok (.invokevirtual 89, 3) := by decide +kernel
theorem dX0_goBefore_74 : decode cX0_goBefore 74 = .ok (.aload_n 0, 1) := by decide +kernel
theorem dX0_goBefore_75 : decode cX0_goBefore 75 = .ok (.getfield 32, 3) := by decide +kernel
theorem dX0_goBefore_78 : decode cX0_goBefore 78 = .ok (.invokestatic 85, 3) := by decide +kernel
theorem dX0_goBefore_81 : decode cX0_goBefore 81 = .ok (.if_icmp .ge 7, 3) := by decide +kernel
theorem dX0_goBefore_84 : decode cX0_goBefore 84 = .ok (.iconst 1, 1) := by decide +kernel
theorem dX0_goBefore_85 : decode cX0_goBefore 85 = .ok (.goto 4, 3) := by decide +kernel
theorem dX0_goBefore_88 : decode cX0_goBefore 88 = .ok (.iconst 0, 1) := by decide +kernel
theorem dX0_goBefore_89 : decode cX0_goBefore 89 = .ok (.ireturn, 1) := by decide +kernel
theorem dX0_rowsAhead_0 : decode cX0_rowsAhead 0 = .ok (.aload_n 0, 1) := by decide +kernel
theorem dX0_rowsAhead_1 : decode cX0_rowsAhead 1 = .ok (.getfield 9, 3) := by decide +kernel
theorem dX0_rowsAhead_4 : decode cX0_rowsAhead 4 = .ok (.invokevirtual 89, 3) := by decide +kernel
theorem dX0_rowsAhead_7 : decode cX0_rowsAhead 7 = .ok (.aload_n 0, 1) := by decide +kernel
theorem dX0_rowsAhead_8 : decode cX0_rowsAhead 8 = .ok (.getfield 21, 3) := by decide +kernel
theorem dX0_rowsAhead_11 : decode cX0_rowsAhead 11 = .ok (.getfield 75, 3) := by decide +kernel
theorem dX0_rowsAhead_14 : decode cX0_rowsAhead 14 = .ok (.isub, 1) := by decide +kernel
theorem dX0_rowsAhead_15 : decode cX0_rowsAhead 15 = .ok (.aload_n 0, 1) := by decide +kernel
theorem dX0_rowsAhead_16 : decode cX0_rowsAhead 16 = .ok (.getfield 15, 3) := by decide +kernel
theorem dX0_rowsAhead_19 : decode cX0_rowsAhead 19 = .ok (.invokevirtual 89, 3) := by decide +kernel
theorem dX0_rowsAhead_22 : decode cX0_rowsAhead 22 = .ok (.iadd, 1) := by decide +kernel
theorem dX0_rowsAhead_23 : decode cX0_rowsAhead 23 = .ok (.aload_n 0, 1) := by decide +kernel
theorem dX0_rowsAhead_24 : decode cX0_rowsAhead 24 = .ok (.getfield 21, 3) := by decide +kernel
theorem dX0_rowsAhead_27 : decode cX0_rowsAhead 27 = .ok (.getfield 78, 3) := by decide +kernel
theorem dX0_rowsAhead_30 : decode cX0_rowsAhead 30 = .ok (.isub, 1) := by decide +kernel
theorem dX0_rowsAhead_31 : decode cX0_rowsAhead 31 = .ok (.ireturn, 1) := by decide +kernel
theorem dX0_comeToNewKeys_0 : decode cX0_comeToNewKeys 0 = .ok (.aload_n 0, 1) := by decide +kernel
theorem dX0_comeToNewKeys_1 : decode cX0_comeToNewKeys 1 = .ok (.getfield 9, 3) := by decide +kernel
theorem dX0_comeToNewKeys_4 : decode cX0_comeToNewKeys 4 = .ok (.aload_n 0, 1) := by decide +kernel
theorem dX0_comeToNewKeys_5 : decode cX0_comeToNewKeys 5 = .ok (.getfield 21, 3) := by decide +kernel
theorem dX0_comeToNewKeys_8 : decode cX0_comeToNewKeys 8 = .ok (.getfield 75, 3) := by decide +kernel
theorem dX0_comeToNewKeys_11 : decode cX0_comeToNewKeys 11 = .ok (.invokevirtual 94, 3) := by decide +kernel
theorem dX0_comeToNewKeys_14 : decode cX0_comeToNewKeys 14 = .ok (.istore_n 1, 1) := by decide +kernel
theorem dX0_comeToNewKeys_15 : decode cX0_comeToNewKeys 15 = .ok (.aload_n 0, 1) := by decide +kernel
theorem dX0_comeToNewKeys_16 : decode cX0_comeToNewKeys 16 = .ok (.getfield 15, 3) := by decide +kernel
theorem dX0_comeToNewKeys_19 : decode cX0_comeToNewKeys 19 = .ok (.aload_n 0, 1) := by decide +kernel
theorem dX0_comeToNewKeys_20 : decode cX0_comeToNewKeys 20 = .ok (.getfield 21, 3) := by decide +kernel
theorem dX0_comeToNewKeys_23 : decode cX0_comeToNewKeys 23 = .ok (.getfield 78, 3) := by decide +kernel
theorem dX0_comeToNewKeys_26 : decode cX0_comeToNewKeys 26 = .ok (.invokevirtual 94, 3) := by decide +kernel
theorem dX0_comeToNewKeys_29 : decode cX0_comeToNewKeys 29 = .ok (.istore_n 2, 1) := by decide +kernel
theorem dX0_comeToNewKeys_30 : decode cX0_comeToNewKeys 30 = .ok (.iload_n 1, 1) := by decide +kernel
theorem dX0_comeToNewKeys_31 : decode cX0_comeToNewKeys 31 = .ok (.ifCond .eq 64, 3) := by decide +kernel
theorem dX0_comeToNewKeys_34 : decode cX0_comeToNewKeys 34 = .ok (.iload_n 2, 1) := by decide +kernel
theorem dX0_comeToNewKeys_35 : decode cX0_comeToNewKeys 35 = .ok (.ifCond .eq 60, 3) := by decide +kernel
theorem dX0_comeToNewKeys_38 : decode cX0_comeToNewKeys 38 = .ok (.aload_n 0, 1) := by decide +kernel
theorem dX0_comeToNewKeys_39 : decode cX0_comeToNewKeys 39 = .ok (.aload_n 0, 1) := by decide +kernel
theorem dX0_comeToNewKeys_40 : decode cX0_comeToNewKeys 40 = .ok (.getfield 9, 3) := by decide +kernel
theorem dX0_comeToNewKeys_43 : decode cX0_comeToNewKeys 43 = .ok (.aload_n 0, 1) := by decide +kernel
theorem dX0_comeToNewKeys_44 : decode cX0_comeToNewKeys 44 = .ok (.getfield 21, 3) := by decide +kernel
theorem dX0_comeToNewKeys_47 : decode cX0_comeToNewKeys 47 = .ok (.getfield 75, 3) := by decide +kernel
theorem dX0_comeToNewKeys_50 : decode cX0_comeToNewKeys 50 = .ok (.invokevirtual 97, 3) := by decide +kernel
theorem dX0_comeToNewKeys_53 : decode cX0_comeToNewKeys 53 = .ok (.istore_n 3, 1) := by decide +kernel
theorem dX0_comeToNewKeys_54 : decode cX0_comeToNewKeys 54 = .ok (.aload_n 0, 1) := by decide +kernel
theorem dX0_comeToNewKeys_55 : decode cX0_comeToNewKeys 55 = .ok (.aload_n 0, 1) := by decide +kernel
theorem dX0_comeToNewKeys_56 : decode cX0_comeToNewKeys 56 = .ok (.getfield 15, 3) := by decide +kernel
theorem dX0_comeToNewKeys_59 : decode cX0_comeToNewKeys 59 = .ok (.aload_n 0, 1) := by decide +kernel
theorem dX0_comeToNewKeys_60 : decode cX0_comeToNewKeys 60 = .ok (.getfield 21, 3) := by decide +kernel
theorem dX0_comeToNewKeys_63 : decode cX0_comeToNewKeys 63 = .ok (.getfield 78, 3) := by decide +kernel
theorem dX0_comeToNewKeys_66 : decode cX0_comeToNewKeys 66 = .ok (.invokevirtual 97, 3) := by decide +kernel
theorem dX0_comeToNewKeys_69 : decode cX0_comeToNewKeys 69 = .ok (.istore 4, 2) := by decide +kernel
theorem dX0_comeToNewKeys_71 : decode cX0_comeToNewKeys 71 = .ok (.iload_n 3, 1) := by decide +kernel
theorem dX0_comeToNewKeys_72 : decode cX0_comeToNewKeys 72 = .ok (.iload 4, 2) := by decide +kernel
theorem dX0_comeToNewKeys_74 : decode cX0_comeToNewKeys 74 = .ok (.if_icmp .gt 7, 3) := by decide +kernel
theorem dX0_comeToNewKeys_77 : decode cX0_comeToNewKeys 77 = .ok (.iconst 1, 1) := by decide +kernel
theorem dX0_comeToNewKeys_78 : decode cX0_comeToNewKeys 78 = .ok (.goto 4, 3) := by decide +kernel
theorem dX0_comeToNewKeys_81 : decode cX0_comeToNewKeys 81 = .ok (.iconst 0, 1) := by decide +kernel
theorem dX0_comeToNewKeys_82 : decode cX0_comeToNewKeys 82 = .ok (.istore_n 1, 1) := by decide +kernel
theorem dX0_comeToNewKeys_83 : decode cX0_comeToNewKeys 83 = .ok (.iload 4, 2) := by decide +kernel
theorem dX0_comeToNewKeys_85 : decode cX0_comeToNewKeys 85 = .ok (.iload_n 3, 1) := by decide +kernel
theorem dX0_comeToNewKeys_86 : decode cX0_comeToNewKeys 86 = .ok (.if_icmp .gt 7, 3) := by decide +kernel
theorem dX0_comeToNewKeys_89 : decode cX0_comeToNewKeys 89 = .ok (.iconst 1, 1) := by decide +kernel
theorem dX0_comeToNewKeys_90 : decode cX0_comeToNewKeys 90 = .ok (.goto 4, 3) := by decide +kernel
theorem dX0_comeToNewKeys_93 : decode cX0_comeToNewKeys 93 = .ok (.iconst 0, 1) := by decide +kernel
theorem dX0_comeToNewKeys_94 : decode cX0_comeToNewKeys 94 = .ok (.istore_n 2, 1) := by decide +kernel
theorem dX0_comeToNewKeys_95 : decode cX0_comeToNewKeys 95 = .ok (.aload_n 0, 1) := by decide +kernel
theorem dX0_comeToNewKeys_96 : decode cX0_comeToNewKeys 96 = .ok (.getfield 21, 3) := by decide +kernel
theorem dX0_comeToNewKeys_99 : decode cX0_comeToNewKeys 99 = .ok (.aload_n 0, 1) := by decide +kernel
theorem dX0_comeToNewKeys_100 : decode cX0_comeToNewKeys 100 = .ok (.getfield 21, 3) := by decide +kernel
theorem dX0_comeToNewKeys_103 : decode cX0_comeToNewKeys 103 = .ok (.getfield 75, 3) := by decide +kernel
theorem dX0_comeToNewKeys_106 : decode cX0_comeToNewKeys 106 = .ok (.putfield 100, 3) := by decide +kernel
theorem dX0_comeToNewKeys_109 : decode cX0_comeToNewKeys 109 = .ok (.aload_n 0, 1) := by decide +kernel
theorem dX0_comeToNewKeys_110 : decode cX0_comeToNewKeys 110 = .ok (.getfield 21, 3) := by decide +kernel
theorem dX0_comeToNewKeys_113 : decode cX0_comeToNewKeys 113 = .ok (.aload_n 0, 1) := by decide +kernel
theorem dX0_comeToNewKeys_114 : decode cX0_comeToNewKeys 114 = .ok (.getfield 21, 3) := by decide +kernel
theorem dX0_comeToNewKeys_117 : decode cX0_comeToNewKeys 117 = .ok (.getfield 78, 3) := by decide +kernel
theorem dX0_comeToNewKeys_120 : decode cX0_comeToNewKeys 120 = .ok (.putfield 103, 3) := by decide +kernel
theorem dX0_comeToNewKeys_123 : decode cX0_comeToNewKeys 123 = .ok (.iload_n 1, 1) := by decide +kernel
theorem dX0_comeToNewKeys_124 : decode cX0_comeToNewKeys 124 = .ok (.ifCond .eq 25, 3) := by decide +kernel
theorem dX0_comeToNewKeys_127 : decode cX0_comeToNewKeys 127 = .ok (.aload_n 0, 1) := by decide +kernel
theorem dX0_comeToNewKeys_128 : decode cX0_comeToNewKeys 128 = .ok (.getfield 21, 3) := by decide +kernel
theorem dX0_comeToNewKeys_131 : decode cX0_comeToNewKeys 131 = .ok (.aload_n 0, 1) := by decide +kernel
theorem dX0_comeToNewKeys_132 : decode cX0_comeToNewKeys 132 = .ok (.aload_n 0, 1) := by decide +kernel
theorem dX0_comeToNewKeys_133 : decode cX0_comeToNewKeys 133 = .ok (.getfield 9, 3) := by decide +kernel
theorem dX0_comeToNewKeys_136 : decode cX0_comeToNewKeys 136 = .ok (.aload_n 0, 1) := by decide +kernel
theorem dX0_comeToNewKeys_137 : decode cX0_comeToNewKeys 137 = .ok (.getfield 21, 3) := by decide +kernel
theorem dX0_comeToNewKeys_140 : decode cX0_comeToNewKeys 140 = .ok (.getfield 100, 3) := by decide +kernel
theorem dX0_comeToNewKeys_143 : decode cX0_comeToNewKeys 143 = .ok (.invokevirtual 106, 3) := by decide +kernel
theorem dX0_comeToNewKeys_146 : decode cX0_comeToNewKeys 146 = .ok (.putfield 75, 3) := by decide +kernel
theorem dX0_comeToNewKeys_149 : decode cX0_comeToNewKeys 149 = .ok (.iload_n 2, 1) := by decide +kernel
theorem dX0_comeToNewKeys_150 : decode cX0_comeToNewKeys 150 = .ok (.ifCond .eq 25, 3) := by decide +kernel
theorem dX0_comeToNewKeys_153 : decode cX0_comeToNewKeys 153 = .ok (.aload_n 0, 1) := by decide +kernel
theorem dX0_comeToNewKeys_154 : decode cX0_comeToNewKeys 154 = .ok (.getfield 21, 3) := by decide +kernel
theorem dX0_comeToNewKeys_157 : decode cX0_comeToNewKeys 157 = .ok (.aload_n 0, 1) := by decide +kernel
theorem dX0_comeToNewKeys_158 : decode cX0_comeToNewKeys 158 = .ok (.aload_n 0, 1) := by decide +kernel
theorem dX0_comeToNewKeys_159 : decode cX0_comeToNewKeys 159 = .ok (.getfield 15, 3) := by decide +kernel
theorem dX0_comeToNewKeys_162 : decode cX0_comeToNewKeys 162 = .ok (.aload_n 0, 1) := by decide +kernel
theorem dX0_comeToNewKeys_163 : decode cX0_comeToNewKeys 163 = .ok (.getfield 21, 3) := by decide +kernel
theorem dX0_comeToNewKeys_166 : decode cX0_comeToNewKeys 166 = .ok (.getfield 103, 3) := by decide +kernel
theorem dX0_comeToNewKeys_169 : decode cX0_comeToNewKeys 169 = .ok (.invokevirtual 106, 3) := by decide +kernel
theorem dX0_comeToNewKeys_172 : decode cX0_comeToNewKeys 172 = .ok (.putfield 78, 3) := by decide +kernel
theorem dX0_comeToNewKeys_175 : decode cX0_comeToNewKeys 175 = .ok (.return_, 1) := by decide +kernel
theorem dX0_firstOtherKey_0 : decode cX0_firstOtherKey 0 = .ok (.aload_n 0, 1) := by decide +kernel
theorem dX0_firstOtherKey_1 : decode cX0_firstOtherKey 1 = .ok (.aload_n 1, 1) := by decide +kernel
theorem dX0_firstOtherKey_2 : decode cX0_firstOtherKey 2 = .ok (.iload_n 2, 1) := by decide +kernel
theorem dX0_firstOtherKey_3 : decode cX0_firstOtherKey 3 = .ok (.invokevirtual 97, 3) := by decide +kernel
theorem dX0_firstOtherKey_6 : decode cX0_firstOtherKey 6 = .ok (.istore_n 3, 1) := by decide +kernel
theorem dX0_firstOtherKey_7 : decode cX0_firstOtherKey 7 = .ok (.iload_n 2, 1) := by decide +kernel
theorem dX0_firstOtherKey_8 : decode cX0_firstOtherKey 8 = .ok (.iconst 1, 1) := by decide +kernel
theorem dX0_firstOtherKey_9 : decode cX0_firstOtherKey 9 = .ok (.iadd, 1) := by decide +kernel
theorem dX0_firstOtherKey_10 : decode cX0_firstOtherKey 10 = .ok (.istore 4, 2) := by decide +kernel
theorem dX0_firstOtherKey_12 : decode cX0_firstOtherKey 12 = .ok (.iload 4, 2) := by decide +kernel
theorem dX0_firstOtherKey_14 : decode cX0_firstOtherKey 14 = .ok (.aload_n 1, 1) := by decide +kernel
theorem dX0_firstOtherKey_15 : decode cX0_firstOtherKey 15 = .ok (.invokevirtual 89, 3) := by decide +kernel
theorem dX0_firstOtherKey_18 : decode cX0_firstOtherKey 18 = .ok (.if_icmp .ge 20, 3) := by decide +kernel
theorem dX0_firstOtherKey_21 : decode cX0_firstOtherKey 21 = .ok (.aload_n 0, 1) := by decide +kernel
theorem dX0_firstOtherKey_22 : decode cX0_firstOtherKey 22 = .ok (.aload_n 1, 1) := by decide +kernel
theorem dX0_firstOtherKey_23 : decode cX0_firstOtherKey 23 = .ok (.iload 4, 2) := by decide +kernel
theorem dX0_firstOtherKey_25 : decode cX0_firstOtherKey 25 = .ok (.invokevirtual 97, 3) := by decide +kernel
theorem dX0_firstOtherKey_28 : decode cX0_firstOtherKey 28 = .ok (.iload_n 3, 1) := by decide +kernel
theorem dX0_firstOtherKey_29 : decode cX0_firstOtherKey 29 = .ok (.if_icmp .ne 9, 3) := by decide +kernel
theorem dX0_firstOtherKey_32 : decode cX0_firstOtherKey 32 = .ok (.iinc 4 1, 3) := by decide +kernel
theorem dX0_firstOtherKey_35 : decode cX0_firstOtherKey 35 = .ok (.goto (-23), 3) := by decide +kernel
theorem dX0_firstOtherKey_38 : decode cX0_firstOtherKey 38 = .ok (.iload 4, 2) := by decide +kernel
theorem dX0_firstOtherKey_40 : decode cX0_firstOtherKey 40 = .ok (.ireturn, 1) := by decide +kernel
theorem dX0_firstNotBelow_0 : decode cX0_firstNotBelow 0 = .ok (.iconst 0, 1) := by decide +kernel
theorem dX0_firstNotBelow_1 : decode cX0_firstNotBelow 1 = .ok (.istore_n 3, 1) := by decide +kernel
theorem dX0_firstNotBelow_2 : decode cX0_firstNotBelow 2 = .ok (.aload_n 1, 1) := by decide +kernel
theorem dX0_firstNotBelow_3 : decode cX0_firstNotBelow 3 = .ok (.invokevirtual 89, 3) := by decide +kernel
theorem dX0_firstNotBelow_6 : decode cX0_firstNotBelow 6 = .ok (.istore 4, 2) := by decide +kernel
theorem dX0_firstNotBelow_8 : decode cX0_firstNotBelow 8 = .ok (.iconst 0, 1) := by decide +kernel
theorem dX0_firstNotBelow_9 : decode cX0_firstNotBelow 9 = .ok (.istore 5, 2) := by decide +kernel
theorem dX0_firstNotBelow_11 : decode cX0_firstNotBelow 11 = .ok (.iload 5, 2) := by decide +kernel
theorem dX0_firstNotBelow_13 : decode cX0_firstNotBelow 13 = .ok (.bipush 40, 2) := by decide +kernel
theorem dX0_firstNotBelow_15 : decode cX0_firstNotBelow 15 = .ok (.if_icmp .ge 46, 3) := by decide +kernel
theorem dX0_firstNotBelow_18 : decode cX0_firstNotBelow 18 = .ok (.iload_n 3, 1) := by decide +kernel
theorem dX0_firstNotBelow_19 : decode cX0_firstNotBelow 19 = .ok (.iload 4, 2) := by decide +kernel
theorem dX0_firstNotBelow_21 : decode cX0_firstNotBelow 21 = .ok (.if_icmp .ge 40, 3) := by decide +kernel
theorem dX0_firstNotBelow_24 : decode cX0_firstNotBelow 24 = .ok (.iload_n 3, 1) := by decide +kernel
theorem dX0_firstNotBelow_25 : decode cX0_firstNotBelow 25 = .ok (.iload 4, 2) := by decide +kernel
theorem dX0_firstNotBelow_27 : decode cX0_firstNotBelow 27 = .ok (.iadd, 1) := by decide +kernel
theorem dX0_firstNotBelow_28 : decode cX0_firstNotBelow 28 = .ok (.iconst 2, 1) := by decide +kernel
theorem dX0_firstNotBelow_29 : decode cX0_firstNotBelow 29 = .ok (.idiv, 1) := by decide +kernel
theorem dX0_firstNotBelow_30 : decode cX0_firstNotBelow 30 = .ok (.istore 6, 2) := by decide +kernel
theorem dX0_firstNotBelow_32 : decode cX0_firstNotBelow 32 = .ok (.aload_n 0, 1) := by decide +kernel
theorem dX0_firstNotBelow_33 : decode cX0_firstNotBelow 33 = .ok (.aload_n 1, 1) := by decide +kernel
theorem dX0_firstNotBelow_34 : decode cX0_firstNotBelow 34 = .ok (.iload 6, 2) := by decide +kernel
theorem dX0_firstNotBelow_36 : decode cX0_firstNotBelow 36 = .ok (.invokevirtual 97, 3) := by decide +kernel
theorem dX0_firstNotBelow_39 : decode cX0_firstNotBelow 39 = .ok (.iload_n 2, 1) := by decide +kernel
theorem dX0_firstNotBelow_40 : decode cX0_firstNotBelow 40 = .ok (.if_icmp .ge 11, 3) := by decide +kernel
theorem dX0_firstNotBelow_43 : decode cX0_firstNotBelow 43 = .ok (.iload 6, 2) := by decide +kernel
theorem dX0_firstNotBelow_45 : decode cX0_firstNotBelow 45 = .ok (.iconst 1, 1) := by decide +kernel
theorem dX0_firstNotBelow_46 : decode cX0_firstNotBelow 46 = .ok (.iadd, 1) := by decide +kernel
theorem dX0_firstNotBelow_47 : decode cX0_firstNotBelow 47 = .ok (.istore_n 3, 1) := by decide +kernel
theorem dX0_firstNotBelow_48 : decode cX0_firstNotBelow 48 = .ok (.goto 7, 3) := by decide +kernel
theorem dX0_firstNotBelow_51 : decode cX0_firstNotBelow 51 = .ok (.iload 6, 2) := by decide +kernel
theorem dX0_firstNotBelow_53 : decode cX0_firstNotBelow 53 = .ok (.istore 4, 2) := by decide +kernel
theorem dX0_firstNotBelow_55 : decode cX0_firstNotBelow 55 = .ok (.iinc 5 1, 3) := by decide +kernel
theorem dX0_firstNotBelow_58 : decode cX0_firstNotBelow 58 = .ok (.goto (-47), 3) := by decide +kernel
theorem dX0_firstNotBelow_61 : decode cX0_firstNotBelow 61 = .ok (.iload_n 3, 1) := by decide +kernel
theorem dX0_firstNotBelow_62 : decode cX0_firstNotBelow 62 = .ok (.ireturn, 1) := by decide +kernel
theorem dX0_readKey_0 : decode cX0_readKey 0 = .ok (.aload_n 0, 1) := by decide +kernel
theorem dX0_readKey_1 : decode cX0_readKey 1 = .ok (.dup, 1) := by decide +kernel
theorem dX0_readKey_2 : decode cX0_readKey 2 = .ok (.getfield 36, 3) := by decide +kernel
theorem dX0_readKey_5 : decode cX0_readKey 5 = .ok (.lconst 1, 1) := by decide +kernel
theorem dX0_readKey_6 : decode cX0_readKey 6 = .ok (.ladd, 1) := by decide +kernel
theorem dX0_readKey_7 : decode cX0_readKey 7 = .ok (.putfield 36, 3) := by decide +kernel
theorem dX0_readKey_10 : decode cX0_readKey 10 = .ok (.aload_n 1, 1) := by decide +kernel
theorem dX0_readKey_11 : decode cX0_readKey 11 = .ok (.iload_n 2, 1) := by decide +kernel
theorem dX0_readKey_12 : decode cX0_readKey 12 = .ok (.invokevirtual 109, 3) := by decide +kernel
theorem dX0_readKey_15 : decode cX0_readKey 15 = .ok (.ireturn, 1) := by decide +kernel
theorem dX1_init_0 : decode cX1_init 0 = .ok (.aload_n 0, 1) := by decide +kernel
theorem dX1_init_1 : decode cX1_init 1 = .ok (.invokespecial 3, 3) := by decide +kernel
theorem dX1_init_4 : decode cX1_init 4 = .ok (.aload_n 0, 1) := by decide +kernel
theorem dX1_init_5 : decode cX1_init 5 = .ok (.iload_n 1, 1) := by decide +kernel
theorem dX1_init_6 : decode cX1_init 6 = .ok (.putfield 9, 3) := by decide +kernel
theorem dX1_init_9 : decode cX1_init 9 = .ok (.aload_n 0, 1) := by decide +kernel
theorem dX1_init_10 : decode cX1_init 10 = .ok (.iconst 5, 1) := by decide +kernel
theorem dX1_init_11 : decode cX1_init 11 = .ok (.iload_n 1, 1) := by decide +kernel
theorem dX1_init_12 : decode cX1_init 12 = .ok (.multianewarray 15 2, 4) := by decide +kernel
theorem dX1_init_16 : decode cX1_init 16 = .ok (.putfield 17, 3) := by decide +kernel
theorem dX1_init_19 : decode cX1_init 19 = .ok (.aload_n 0, 1) := by decide +kernel
theorem dX1_init_20 : decode cX1_init 20 = .ok (.new 20, 3) := by decide +kernel
theorem dX1_init_23 : decode cX1_init 23 = .ok (.dup, 1) := by decide +kernel
theorem dX1_init_24 : decode cX1_init 24 = .ok (.invokespecial 22, 3) := by decide +kernel
theorem dX1_init_27 : decode cX1_init 27 = .ok (.putfield 23, 3) := by decide +kernel
theorem dX1_init_30 : decode cX1_init 30 = .ok (.aload_n 0, 1) := by decide +kernel
theorem dX1_init_31 : decode cX1_init 31 = .ok (.new 20, 3) := by decide +kernel
theorem dX1_init_34 : decode cX1_init 34 = .ok (.dup, 1) := by decide +kernel
theorem dX1_init_35 : decode cX1_init 35 = .ok (.invokespecial 22, 3) := by decide +kernel
theorem dX1_init_38 : decode cX1_init 38 = .ok (.putfield 27, 3) := by decide +kernel
theorem dX1_init_41 : decode cX1_init 41 = .ok (.aload_n 0, 1) := by decide +kernel
theorem dX1_init_42 : decode cX1_init 42 = .ok (.iconst 0, 1) := by decide +kernel
theorem dX1_init_43 : decode cX1_init 43 = .ok (.putfield 30, 3) := by decide +kernel
theorem dX1_init_46 : decode cX1_init 46 = .ok (.aload_n 0, 1) := by decide +kernel
theorem dX1_init_47 : decode cX1_init 47 = .ok (.iconst 0, 1) := by decide +kernel
theorem dX1_init_48 : decode cX1_init 48 = .ok (.putfield 33, 3) := by decide +kernel
theorem dX1_init_51 : decode cX1_init 51 = .ok (.return_, 1) := by decide +kernel
theorem dX1_room_0 : decode cX1_room 0 = .ok (.aload_n 0, 1) := by decide +kernel
theorem dX1_room_1 : decode cX1_room 1 = .ok (.getfield 9, 3) := by decide +kernel
theorem dX1_room_4 : decode cX1_room 4 = .ok (.ireturn, 1) := by decide +kernel
theorem dX1_isTold_0 : decode cX1_isTold 0 = .ok (.aload_n 0, 1) := by decide +kernel
theorem dX1_isTold_1 : decode cX1_isTold 1 = .ok (.getfield 33, 3) := by decide +kernel
theorem dX1_isTold_4 : decode cX1_isTold 4 = .ok (.ireturn, 1) := by decide +kernel
theorem dX1_has_0 : decode cX1_has 0 = .ok (.iload_n 1, 1) := by decide +kernel
theorem dX1_has_1 : decode cX1_has 1 = .ok (.ifCond .lt 15, 3) := by decide +kernel
theorem dX1_has_4 : decode cX1_has 4 = .ok (.iload_n 1, 1) := by decide +kernel
theorem dX1_has_5 : decode cX1_has 5 = .ok (.aload_n 0, 1) := by decide +kernel
theorem dX1_has_6 : decode cX1_has 6 = .ok (.getfield 30, 3) := by decide +kernel
theorem dX1_has_9 : decode cX1_has 9 = .ok (.if_icmp .ge 7, 3) := by decide +kernel
theorem dX1_has_12 : decode cX1_has 12 = .ok (.iconst 1, 1) := by decide +kernel
theorem dX1_has_13 : decode cX1_has 13 = .ok (.goto 4, 3) := by decide +kernel
theorem dX1_has_16 : decode cX1_has 16 = .ok (.iconst 0, 1) := by decide +kernel
theorem dX1_has_17 : decode cX1_has 17 = .ok (.ireturn, 1) := by decide +kernel
theorem dX1_forget_0 : decode cX1_forget 0 = .ok (.aload_n 0, 1) := by decide +kernel
theorem dX1_forget_1 : decode cX1_forget 1 = .ok (.iconst 0, 1) := by decide +kernel
theorem dX1_forget_2 : decode cX1_forget 2 = .ok (.putfield 30, 3) := by decide +kernel
theorem dX1_forget_5 : decode cX1_forget 5 = .ok (.aload_n 0, 1) := by decide +kernel
theorem dX1_forget_6 : decode cX1_forget 6 = .ok (.iconst 0, 1) := by decide +kernel
theorem dX1_forget_7 : decode cX1_forget 7 = .ok (.putfield 33, 3) := by decide +kernel
theorem dX1_forget_10 : decode cX1_forget 10 = .ok (.return_, 1) := by decide +kernel
theorem dX1_fact_0 : decode cX1_fact 0 = .ok (.aload_n 0, 1) := by decide +kernel
theorem dX1_fact_1 : decode cX1_fact 1 = .ok (.iload_n 1, 1) := by decide +kernel
theorem dX1_fact_2 : decode cX1_fact 2 = .ok (.invokevirtual 37, 3) := by decide +kernel
theorem dX1_fact_5 : decode cX1_fact 5 = .ok (.ifCond .eq 22, 3) := by decide +kernel
theorem dX1_fact_8 : decode cX1_fact 8 = .ok (.iload_n 2, 1) := by decide +kernel
theorem dX1_fact_9 : decode cX1_fact 9 = .ok (.iconst 5, 1) := by decide +kernel
theorem dX1_fact_10 : decode cX1_fact 10 = .ok (.invokestatic 41, 3) := by decide +kernel
theorem dX1_fact_13 : decode cX1_fact 13 = .ok (.ifCond .eq 14, 3) := by decide +kernel
theorem dX1_fact_16 : decode cX1_fact 16 = .ok (.aload_n 0, 1) := by decide +kernel
theorem dX1_fact_17 : decode cX1_fact 17 = .ok (.getfield 17, 3) := by decide +kernel
theorem dX1_fact_20 : decode cX1_fact 20 = .ok (.iload_n 2, 1) := by decide +kernel
theorem dX1_fact_21 : decode cX1_fact 21 = .ok (.aaload, 1) := by decide +kernel
theorem dX1_fact_22 : decode cX1_fact 22 = .ok (.iload_n 1, 1) := by decide +kernel
theorem dX1_fact_23 : decode cX1_fact 23 = .ok (.laload, 1) := by decide +kernel
theorem dX1_fact_24 : decode cX1_fact 24 = .ok (.goto 4, 3) := by decide +kernel
theorem dX1_fact_27 : decode cX1_fact 27 = .ok (.lconst 0, 1) := by decide +kernel
theorem dX1_fact_28 : decode cX1_fact 28 = .ok (.lreturn, 1) := by decide +kernel
theorem dX1_tell_0 : decode cX1_tell 0 = .ok (.aload_n 0, 1) := by decide +kernel
theorem dX1_tell_1 : decode cX1_tell 1 = .ok (.iconst 0, 1) := by decide +kernel
theorem dX1_tell_2 : decode cX1_tell 2 = .ok (.putfield 30, 3) := by decide +kernel
theorem dX1_tell_5 : decode cX1_tell 5 = .ok (.iconst 0, 1) := by decide +kernel
theorem dX1_tell_6 : decode cX1_tell 6 = .ok (.istore_n 3, 1) := by decide +kernel
theorem dX1_tell_7 : decode cX1_tell 7 = .ok (.iload_n 3, 1) := by decide +kernel
theorem dX1_tell_8 : decode cX1_tell 8 = .ok (.aload_n 1, 1) := by decide +kernel
theorem dX1_tell_9 : decode cX1_tell 9 = .ok (.invokevirtual 45, 3) := by decide +kernel
theorem dX1_tell_12 : decode cX1_tell 12 = .ok (.if_icmp .ge 73, 3) := by decide +kernel
theorem dX1_tell_15 : decode cX1_tell 15 = .ok (.aload_n 0, 1) := by decide +kernel
theorem dX1_tell_16 : decode cX1_tell 16 = .ok (.getfield 30, 3) := by decide +kernel
theorem dX1_tell_19 : decode cX1_tell 19 = .ok (.aload_n 0, 1) := by decide +kernel
theorem dX1_tell_20 : decode cX1_tell 20 = .ok (.getfield 9, 3) := by decide +kernel
theorem dX1_tell_23 : decode cX1_tell 23 = .ok (.if_icmp .ge 62, 3) := by decide +kernel
theorem dX1_tell_26 : decode cX1_tell 26 = .ok (.aload_n 1, 1) := by decide +kernel
theorem dX1_tell_27 : decode cX1_tell 27 = .ok (.iload_n 3, 1) := by decide +kernel
theorem dX1_tell_28 : decode cX1_tell 28 = .ok (.invokevirtual 50, 3) := by decide +kernel
theorem dX1_tell_31 : decode cX1_tell 31 = .ok (.ifCond .eq 48, 3) := by decide +kernel
theorem dX1_tell_34 : decode cX1_tell 34 = .ok (.aload_n 0, 1) := by decide +kernel
theorem dX1_tell_35 : decode cX1_tell 35 = .ok (.getfield 23, 3) := by decide +kernel
theorem dX1_tell_38 : decode cX1_tell 38 = .ok (.aload_n 1, 1) := by decide +kernel
theorem dX1_tell_39 : decode cX1_tell 39 = .ok (.iload_n 3, 1) := by decide +kernel
theorem dX1_tell_40 : decode cX1_tell 40 = .ok (.invokevirtual 53, 3) := by decide +kernel
theorem dX1_tell_43 : decode cX1_tell 43 = .ok (.aload_n 0, 1) := by decide +kernel
theorem dX1_tell_44 : decode cX1_tell 44 = .ok (.getfield 27, 3) := by decide +kernel
theorem dX1_tell_47 : decode cX1_tell 47 = .ok (.aload_n 2, 1) := by decide +kernel
theorem dX1_tell_48 : decode cX1_tell 48 = .ok (.aload_n 1, 1) := by decide +kernel
theorem dX1_tell_49 : decode cX1_tell 49 = .ok (.iload_n 3, 1) := by decide +kernel
theorem dX1_tell_50 : decode cX1_tell 50 = .ok (.invokevirtual 57, 3) := by decide +kernel
theorem dX1_tell_53 : decode cX1_tell 53 = .ok (.invokevirtual 53, 3) := by decide +kernel
theorem dX1_tell_56 : decode cX1_tell 56 = .ok (.aload_n 0, 1) := by decide +kernel
theorem dX1_tell_57 : decode cX1_tell 57 = .ok (.aload_n 0, 1) := by decide +kernel
theorem dX1_tell_58 : decode cX1_tell 58 = .ok (.getfield 30, 3) := by decide +kernel
theorem dX1_tell_61 : decode cX1_tell 61 = .ok (.aload_n 1, 1) := by decide +kernel
theorem dX1_tell_62 : decode cX1_tell 62 = .ok (.iload_n 3, 1) := by decide +kernel
theorem dX1_tell_63 : decode cX1_tell 63 = .ok (.invokevirtual 61, 3) := by decide +kernel
theorem dX1_tell_66 : decode cX1_tell 66 = .ok (.invokevirtual 64, 3) := by decide +kernel
theorem dX1_tell_69 : decode cX1_tell 69 = .ok (.aload_n 0, 1) := by decide +kernel
theorem dX1_tell_70 : decode cX1_tell 70 = .ok (.dup, 1) := by decide +kernel
theorem dX1_tell_71 : decode cX1_tell 71 = .ok (.getfield 30, 3) := by decide +kernel
theorem dX1_tell_74 : decode cX1_tell 74 = .ok (.iconst 1, 1) := by decide +kernel
theorem dX1_tell_75 : decode cX1_tell 75 = .ok (.iadd, 1) := by decide +kernel
theorem dX1_tell_76 : decode cX1_tell 76 = .ok (.putfield 30, 3) := by decide +kernel
theorem dX1_tell_79 : decode cX1_tell 79 = .ok (.iinc 3 1, 3) := by decide +kernel
theorem dX1_tell_82 : decode cX1_tell 82 = .ok (.goto (-75), 3) := by decide +kernel
theorem dX1_tell_85 : decode cX1_tell 85 = .ok (.aload_n 0, 1) := by decide +kernel
theorem dX1_tell_86 : decode cX1_tell 86 = .ok (.iconst 1, 1) := by decide +kernel
theorem dX1_tell_87 : decode cX1_tell 87 = .ok (.putfield 33, 3) := by decide +kernel
theorem dX1_tell_90 : decode cX1_tell 90 = .ok (.aload_n 0, 1) := by decide +kernel
theorem dX1_tell_91 : decode cX1_tell 91 = .ok (.getfield 30, 3) := by decide +kernel
theorem dX1_tell_94 : decode cX1_tell 94 = .ok (.ireturn, 1) := by decide +kernel
theorem dX1_write_0 : decode cX1_write 0 = .ok (.aload_n 0, 1) := by decide +kernel
theorem dX1_write_1 : decode cX1_write 1 = .ok (.getfield 23, 3) := by decide +kernel
theorem dX1_write_4 : decode cX1_write 4 = .ok (.getfield 68, 3) := by decide +kernel
theorem dX1_write_7 : decode cX1_write 7 = .ok (.aload_n 0, 1) := by decide +kernel
theorem dX1_write_8 : decode cX1_write 8 = .ok (.getfield 27, 3) := by decide +kernel
theorem dX1_write_11 : decode cX1_write 11 = .ok (.getfield 68, 3) := by decide +kernel
theorem dX1_write_14 : decode cX1_write 14 = .ok (.lmul, 1) := by decide +kernel
theorem dX1_write_15 : decode cX1_write 15 = .ok (.lstore_n 3, 1) := by decide +kernel
theorem dX1_write_16 : decode cX1_write 16 = .ok (.aload_n 0, 1) := by decide +kernel
theorem dX1_write_17 : decode cX1_write 17 = .ok (.getfield 23, 3) := by decide +kernel
theorem dX1_write_20 : decode cX1_write 20 = .ok (.getfield 68, 3) := by decide +kernel
theorem dX1_write_23 : decode cX1_write 23 = .ok (.aload_n 0, 1) := by decide +kernel
theorem dX1_write_24 : decode cX1_write 24 = .ok (.getfield 27, 3) := by decide +kernel
theorem dX1_write_27 : decode cX1_write 27 = .ok (.getfield 72, 3) := by decide +kernel
theorem dX1_write_30 : decode cX1_write 30 = .ok (.lmul, 1) := by decide +kernel
theorem dX1_write_31 : decode cX1_write 31 = .ok (.lstore 5, 2) := by decide +kernel
theorem dX1_write_33 : decode cX1_write 33 = .ok (.aload_n 0, 1) := by decide +kernel
theorem dX1_write_34 : decode cX1_write 34 = .ok (.getfield 23, 3) := by decide +kernel
theorem dX1_write_37 : decode cX1_write 37 = .ok (.getfield 72, 3) := by decide +kernel
theorem dX1_write_40 : decode cX1_write 40 = .ok (.aload_n 0, 1) := by decide +kernel
theorem dX1_write_41 : decode cX1_write 41 = .ok (.getfield 27, 3) := by decide +kernel
theorem dX1_write_44 : decode cX1_write 44 = .ok (.getfield 68, 3) := by decide +kernel
theorem dX1_write_47 : decode cX1_write 47 = .ok (.lmul, 1) := by decide +kernel
theorem dX1_write_48 : decode cX1_write 48 = .ok (.lstore 7, 2) := by decide +kernel
theorem dX1_write_50 : decode cX1_write 50 = .ok (.aload_n 0, 1) := by decide +kernel
theorem dX1_write_51 : decode cX1_write 51 = .ok (.getfield 23, 3) := by decide +kernel
theorem dX1_write_54 : decode cX1_write 54 = .ok (.getfield 72, 3) := by decide +kernel
theorem dX1_write_57 : decode cX1_write 57 = .ok (.aload_n 0, 1) := by decide +kernel
theorem dX1_write_58 : decode cX1_write 58 = .ok (.getfield 27, 3) := by decide +kernel
theorem dX1_write_61 : decode cX1_write 61 = .ok (.getfield 72, 3) := by decide +kernel
theorem dX1_write_64 : decode cX1_write 64 = .ok (.lmul, 1) := by decide +kernel
theorem dX1_write_65 : decode cX1_write 65 = .ok (.lstore 9, 2) := by decide +kernel
theorem dX1_write_67 : decode cX1_write 67 = .ok (.aload_n 0, 1) := by decide +kernel
theorem dX1_write_68 : decode cX1_write 68 = .ok (.getfield 17, 3) := by decide +kernel
theorem dX1_write_71 : decode cX1_write 71 = .ok (.iconst 0, 1) := by decide +kernel
theorem dX1_write_72 : decode cX1_write 72 = .ok (.aaload, 1) := by decide +kernel
theorem dX1_write_73 : decode cX1_write 73 = .ok (.iload_n 1, 1) := by decide +kernel
theorem dX1_write_74 : decode cX1_write 74 = .ok (.iload_n 2, 1) := by decide +kernel
theorem dX1_write_75 : decode cX1_write 75 = .ok (.i2l, 1) := by decide +kernel
theorem dX1_write_76 : decode cX1_write 76 = .ok (.lastore, 1) := by decide +kernel
theorem dX1_write_77 : decode cX1_write 77 = .ok (.aload_n 0, 1) := by decide +kernel
theorem dX1_write_78 : decode cX1_write 78 = .ok (.getfield 17, 3) := by decide +kernel
theorem dX1_write_81 : decode cX1_write 81 = .ok (.iconst 1, 1) := by decide +kernel
theorem dX1_write_82 : decode cX1_write 82 = .ok (.aaload, 1) := by decide +kernel
theorem dX1_write_83 : decode cX1_write 83 = .ok (.iload_n 1, 1) := by decide +kernel
theorem dX1_write_84 : decode cX1_write 84 = .ok (.aload_n 0, 1) := by decide +kernel
theorem dX1_write_85 : decode cX1_write 85 = .ok (.getfield 23, 3) := by decide +kernel
theorem dX1_write_88 : decode cX1_write 88 = .ok (.getfield 75, 3) := by decide +kernel
theorem dX1_write_91 : decode cX1_write 91 = .ok (.i2l, 1) := by decide +kernel
theorem dX1_write_92 : decode cX1_write 92 = .ok (.aload_n 0, 1) := by decide +kernel
theorem dX1_write_93 : decode cX1_write 93 = .ok (.getfield 27, 3) := by decide +kernel
theorem dX1_write_96 : decode cX1_write 96 = .ok (.getfield 75, 3) := by decide +kernel
theorem dX1_write_99 : decode cX1_write 99 = .ok (.i2l, 1) := by decide +kernel
theorem dX1_write_100 : decode cX1_write 100 = .ok (.lmul, 1) := by decide +kernel
theorem dX1_write_101 : decode cX1_write 101 = .ok (.lastore, 1) := by decide +kernel
theorem dX1_write_102 : decode cX1_write 102 = .ok (.aload_n 0, 1) := by decide +kernel
theorem dX1_write_103 : decode cX1_write 103 = .ok (.getfield 17, 3) := by decide +kernel
theorem dX1_write_106 : decode cX1_write 106 = .ok (.iconst 2, 1) := by decide +kernel
theorem dX1_write_107 : decode cX1_write 107 = .ok (.aaload, 1) := by decide +kernel
theorem dX1_write_108 : decode cX1_write 108 = .ok (.iload_n 1, 1) := by decide +kernel
theorem dX1_write_109 : decode cX1_write 109 = .ok (.aload_n 0, 1) := by decide +kernel
theorem dX1_write_110 : decode cX1_write 110 = .ok (.getfield 23, 3) := by decide +kernel
theorem dX1_write_113 : decode cX1_write 113 = .ok (.getfield 78, 3) := by decide +kernel
theorem dX1_write_116 : decode cX1_write 116 = .ok (.aload_n 0, 1) := by decide +kernel
theorem dX1_write_117 : decode cX1_write 117 = .ok (.getfield 27, 3) := by decide +kernel
theorem dX1_write_120 : decode cX1_write 120 = .ok (.getfield 78, 3) := by decide +kernel
theorem dX1_write_123 : decode cX1_write 123 = .ok (.lmul, 1) := by decide +kernel
theorem dX1_write_124 : decode cX1_write 124 = .ok (.lastore, 1) := by decide +kernel
theorem dX1_write_125 : decode cX1_write 125 = .ok (.aload_n 0, 1) := by decide +kernel
theorem dX1_write_126 : decode cX1_write 126 = .ok (.getfield 17, 3) := by decide +kernel
theorem dX1_write_129 : decode cX1_write 129 = .ok (.iconst 3, 1) := by decide +kernel
theorem dX1_write_130 : decode cX1_write 130 = .ok (.aaload, 1) := by decide +kernel
theorem dX1_write_131 : decode cX1_write 131 = .ok (.iload_n 1, 1) := by decide +kernel
theorem dX1_write_132 : decode cX1_write 132 = .ok (.lload_n 3, 1) := by decide +kernel
theorem dX1_write_133 : decode cX1_write 133 = .ok (.lload 5, 2) := by decide +kernel
theorem dX1_write_135 : decode cX1_write 135 = .ok (.invokestatic 81, 3) := by decide +kernel
theorem dX1_write_138 : decode cX1_write 138 = .ok (.lload 7, 2) := by decide +kernel
theorem dX1_write_140 : decode cX1_write 140 = .ok (.lload 9, 2) := by decide +kernel
theorem dX1_write_142 : decode cX1_write 142 = .ok (.invokestatic 81, 3) := by decide +kernel
theorem dX1_write_145 : decode cX1_write 145 = .ok (.invokestatic 81, 3) := by decide +kernel
theorem dX1_write_148 : decode cX1_write 148 = .ok (.lastore, 1) := by decide +kernel
theorem dX1_write_149 : decode cX1_write 149 = .ok (.aload_n 0, 1) := by decide +kernel
theorem dX1_write_150 : decode cX1_write 150 = .ok (.getfield 17, 3) := by decide +kernel
theorem dX1_write_153 : decode cX1_write 153 = .ok (.iconst 4, 1) := by decide +kernel
theorem dX1_write_154 : decode cX1_write 154 = .ok (.aaload, 1) := by decide +kernel
theorem dX1_write_155 : decode cX1_write 155 = .ok (.iload_n 1, 1) := by decide +kernel
theorem dX1_write_156 : decode cX1_write 156 = .ok (.lload_n 3, 1) := by decide +kernel
theorem dX1_write_157 : decode cX1_write 157 = .ok (.lload 5, 2) := by decide +kernel
theorem dX1_write_159 : decode cX1_write 159 = .ok (.invokestatic 87, 3) := by decide +kernel
theorem dX1_write_162 : decode cX1_write 162 = .ok (.lload 7, 2) := by decide +kernel
theorem dX1_write_164 : decode cX1_write 164 = .ok (.lload 9, 2) := by decide +kernel
theorem dX1_write_166 : decode cX1_write 166 = .ok (.invokestatic 87, 3) := by decide +kernel
theorem dX1_write_169 : decode cX1_write 169 = .ok (.invokestatic 87, 3) := by decide +kernel
theorem dX1_write_172 : decode cX1_write 172 = .ok (.lastore, 1) := by decide +kernel
theorem dX1_write_173 : decode cX1_write 173 = .ok (.return_, 1) := by decide +kernel
theorem dX2_init_0 : decode cX2_init 0 = .ok (.aload_n 0, 1) := by decide +kernel
theorem dX2_init_1 : decode cX2_init 1 = .ok (.invokespecial 3, 3) := by decide +kernel
theorem dX2_init_4 : decode cX2_init 4 = .ok (.aload_n 0, 1) := by decide +kernel
theorem dX2_init_5 : decode cX2_init 5 = .ok (.iconst (-1), 1) := by decide +kernel
theorem dX2_init_6 : decode cX2_init 6 = .ok (.putfield 9, 3) := by decide +kernel
theorem dX2_init_9 : decode cX2_init 9 = .ok (.aload_n 0, 1) := by decide +kernel
theorem dX2_init_10 : decode cX2_init 10 = .ok (.iconst (-1), 1) := by decide +kernel
theorem dX2_init_11 : decode cX2_init 11 = .ok (.putfield 15, 3) := by decide +kernel
theorem dX2_init_14 : decode cX2_init 14 = .ok (.return_, 1) := by decide +kernel
theorem dX2_copy_0 : decode cX2_copy 0 = .ok (.aload_n 0, 1) := by decide +kernel
theorem dX2_copy_1 : decode cX2_copy 1 = .ok (.aload_n 1, 1) := by decide +kernel
theorem dX2_copy_2 : decode cX2_copy 2 = .ok (.getfield 18, 3) := by decide +kernel
theorem dX2_copy_5 : decode cX2_copy 5 = .ok (.putfield 18, 3) := by decide +kernel
theorem dX2_copy_8 : decode cX2_copy 8 = .ok (.aload_n 0, 1) := by decide +kernel
theorem dX2_copy_9 : decode cX2_copy 9 = .ok (.aload_n 1, 1) := by decide +kernel
theorem dX2_copy_10 : decode cX2_copy 10 = .ok (.getfield 21, 3) := by decide +kernel
theorem dX2_copy_13 : decode cX2_copy 13 = .ok (.putfield 21, 3) := by decide +kernel
theorem dX2_copy_16 : decode cX2_copy 16 = .ok (.aload_n 0, 1) := by decide +kernel
theorem dX2_copy_17 : decode cX2_copy 17 = .ok (.aload_n 1, 1) := by decide +kernel
theorem dX2_copy_18 : decode cX2_copy 18 = .ok (.getfield 24, 3) := by decide +kernel
theorem dX2_copy_21 : decode cX2_copy 21 = .ok (.putfield 24, 3) := by decide +kernel
theorem dX2_copy_24 : decode cX2_copy 24 = .ok (.aload_n 0, 1) := by decide +kernel
theorem dX2_copy_25 : decode cX2_copy 25 = .ok (.aload_n 1, 1) := by decide +kernel
theorem dX2_copy_26 : decode cX2_copy 26 = .ok (.getfield 27, 3) := by decide +kernel
theorem dX2_copy_29 : decode cX2_copy 29 = .ok (.putfield 27, 3) := by decide +kernel
theorem dX2_copy_32 : decode cX2_copy 32 = .ok (.aload_n 0, 1) := by decide +kernel
theorem dX2_copy_33 : decode cX2_copy 33 = .ok (.aload_n 1, 1) := by decide +kernel
theorem dX2_copy_34 : decode cX2_copy 34 = .ok (.getfield 9, 3) := by decide +kernel
theorem dX2_copy_37 : decode cX2_copy 37 = .ok (.putfield 9, 3) := by decide +kernel
theorem dX2_copy_40 : decode cX2_copy 40 = .ok (.aload_n 0, 1) := by decide +kernel
theorem dX2_copy_41 : decode cX2_copy 41 = .ok (.aload_n 1, 1) := by decide +kernel
theorem dX2_copy_42 : decode cX2_copy 42 = .ok (.getfield 15, 3) := by decide +kernel
theorem dX2_copy_45 : decode cX2_copy 45 = .ok (.putfield 15, 3) := by decide +kernel
theorem dX2_copy_48 : decode cX2_copy 48 = .ok (.aload_n 0, 1) := by decide +kernel
theorem dX2_copy_49 : decode cX2_copy 49 = .ok (.aload_n 1, 1) := by decide +kernel
theorem dX2_copy_50 : decode cX2_copy 50 = .ok (.getfield 30, 3) := by decide +kernel
theorem dX2_copy_53 : decode cX2_copy 53 = .ok (.putfield 30, 3) := by decide +kernel
theorem dX2_copy_56 : decode cX2_copy 56 = .ok (.return_, 1) := by decide +kernel
theorem dX2_stand_0 : decode cX2_stand 0 = .ok (.aload_n 0, 1) := by decide +kernel
theorem dX2_stand_1 : decode cX2_stand 1 = .ok (.iload_n 1, 1) := by decide +kernel
theorem dX2_stand_2 : decode cX2_stand 2 = .ok (.putfield 18, 3) := by decide +kernel
theorem dX2_stand_5 : decode cX2_stand 5 = .ok (.aload_n 0, 1) := by decide +kernel
theorem dX2_stand_6 : decode cX2_stand 6 = .ok (.iload_n 1, 1) := by decide +kernel
theorem dX2_stand_7 : decode cX2_stand 7 = .ok (.putfield 21, 3) := by decide +kernel
theorem dX2_stand_10 : decode cX2_stand 10 = .ok (.aload_n 0, 1) := by decide +kernel
theorem dX2_stand_11 : decode cX2_stand 11 = .ok (.iload_n 2, 1) := by decide +kernel
theorem dX2_stand_12 : decode cX2_stand 12 = .ok (.putfield 24, 3) := by decide +kernel
theorem dX2_stand_15 : decode cX2_stand 15 = .ok (.aload_n 0, 1) := by decide +kernel
theorem dX2_stand_16 : decode cX2_stand 16 = .ok (.iload_n 2, 1) := by decide +kernel
theorem dX2_stand_17 : decode cX2_stand 17 = .ok (.putfield 27, 3) := by decide +kernel
theorem dX2_stand_20 : decode cX2_stand 20 = .ok (.aload_n 0, 1) := by decide +kernel
theorem dX2_stand_21 : decode cX2_stand 21 = .ok (.iconst (-1), 1) := by decide +kernel
theorem dX2_stand_22 : decode cX2_stand 22 = .ok (.putfield 9, 3) := by decide +kernel
theorem dX2_stand_25 : decode cX2_stand 25 = .ok (.aload_n 0, 1) := by decide +kernel
theorem dX2_stand_26 : decode cX2_stand 26 = .ok (.iconst (-1), 1) := by decide +kernel
theorem dX2_stand_27 : decode cX2_stand 27 = .ok (.putfield 15, 3) := by decide +kernel
theorem dX2_stand_30 : decode cX2_stand 30 = .ok (.aload_n 0, 1) := by decide +kernel
theorem dX2_stand_31 : decode cX2_stand 31 = .ok (.iload_n 3, 1) := by decide +kernel
theorem dX2_stand_32 : decode cX2_stand 32 = .ok (.putfield 30, 3) := by decide +kernel
theorem dX2_stand_35 : decode cX2_stand 35 = .ok (.return_, 1) := by decide +kernel
theorem dX2_hasLeftRows_0 : decode cX2_hasLeftRows 0 = .ok (.aload_n 0, 1) := by decide +kernel
theorem dX2_hasLeftRows_1 : decode cX2_hasLeftRows 1 = .ok (.getfield 18, 3) := by decide +kernel
theorem dX2_hasLeftRows_4 : decode cX2_hasLeftRows 4 = .ok (.aload_n 0, 1) := by decide +kernel
theorem dX2_hasLeftRows_5 : decode cX2_hasLeftRows 5 = .ok (.getfield 21, 3) := by decide +kernel
theorem dX2_hasLeftRows_8 : decode cX2_hasLeftRows 8 = .ok (.if_icmp .ge 7, 3) := by decide +kernel
theorem dX2_hasLeftRows_11 : decode cX2_hasLeftRows 11 = .ok (.iconst 1, 1) := by decide +kernel
theorem dX2_hasLeftRows_12 : decode cX2_hasLeftRows 12 = .ok (.goto 4, 3) := by decide +kernel
theorem dX2_hasLeftRows_15 : decode cX2_hasLeftRows 15 = .ok (.iconst 0, 1) := by decide +kernel
theorem dX2_hasLeftRows_16 : decode cX2_hasLeftRows 16 = .ok (.ireturn, 1) := by decide +kernel
theorem dX2_hasRightRows_0 : decode cX2_hasRightRows 0 = .ok (.aload_n 0, 1) := by decide +kernel
theorem dX2_hasRightRows_1 : decode cX2_hasRightRows 1 = .ok (.getfield 24, 3) := by decide +kernel
theorem dX2_hasRightRows_4 : decode cX2_hasRightRows 4 = .ok (.aload_n 0, 1) := by decide +kernel
theorem dX2_hasRightRows_5 : decode cX2_hasRightRows 5 = .ok (.getfield 27, 3) := by decide +kernel
theorem dX2_hasRightRows_8 : decode cX2_hasRightRows 8 = .ok (.if_icmp .ge 7, 3) := by decide +kernel
theorem dX2_hasRightRows_11 : decode cX2_hasRightRows 11 = .ok (.iconst 1, 1) := by decide +kernel
theorem dX2_hasRightRows_12 : decode cX2_hasRightRows 12 = .ok (.goto 4, 3) := by decide +kernel
theorem dX2_hasRightRows_15 : decode cX2_hasRightRows 15 = .ok (.iconst 0, 1) := by decide +kernel
theorem dX2_hasRightRows_16 : decode cX2_hasRightRows 16 = .ok (.ireturn, 1) := by decide +kernel
theorem dX2_fits_0 : decode cX2_fits 0 = .ok (.aload_n 0, 1) := by decide +kernel
theorem dX2_fits_1 : decode cX2_fits 1 = .ok (.invokevirtual 33, 3) := by decide +kernel
theorem dX2_fits_4 : decode cX2_fits 4 = .ok (.ifCond .ne 15, 3) := by decide +kernel
theorem dX2_fits_7 : decode cX2_fits 7 = .ok (.iload_n 1, 1) := by decide +kernel
theorem dX2_fits_8 : decode cX2_fits 8 = .ok (.iconst 1, 1) := by decide +kernel
theorem dX2_fits_9 : decode cX2_fits 9 = .ok (.iand, 1) := by decide +kernel
theorem dX2_fits_10 : decode cX2_fits 10 = .ok (.ifCond .eq 7, 3) := by decide +kernel
theorem dX2_fits_13 : decode cX2_fits 13 = .ok (.iconst 1, 1) := by decide +kernel
theorem dX2_fits_14 : decode cX2_fits 14 = .ok (.goto 4, 3) := by decide +kernel
theorem dX2_fits_17 : decode cX2_fits 17 = .ok (.iconst 0, 1) := by decide +kernel
theorem dX2_fits_18 : decode cX2_fits 18 = .ok (.ireturn, 1) := by decide +kernel
theorem dX2_fits_19 : decode cX2_fits 19 = .ok (.aload_n 0, 1) := by decide +kernel
theorem dX2_fits_20 : decode cX2_fits 20 = .ok (.invokevirtual 37, 3) := by decide +kernel
theorem dX2_fits_23 : decode cX2_fits 23 = .ok (.ifCond .ne 9, 3) := by decide +kernel
theorem dX2_fits_26 : decode cX2_fits 26 = .ok (.iload_n 1, 1) := by decide +kernel
theorem dX2_fits_27 : decode cX2_fits 27 = .ok (.iconst 2, 1) := by decide +kernel
theorem dX2_fits_28 : decode cX2_fits 28 = .ok (.iand, 1) := by decide +kernel
theorem dX2_fits_29 : decode cX2_fits 29 = .ok (.ifCond .eq 7, 3) := by decide +kernel
theorem dX2_fits_32 : decode cX2_fits 32 = .ok (.iconst 1, 1) := by decide +kernel
theorem dX2_fits_33 : decode cX2_fits 33 = .ok (.goto 4, 3) := by decide +kernel
theorem dX2_fits_36 : decode cX2_fits 36 = .ok (.iconst 0, 1) := by decide +kernel
theorem dX2_fits_37 : decode cX2_fits 37 = .ok (.ireturn, 1) := by decide +kernel
theorem dX2_enterFirstPair_0 : decode cX2_enterFirstPair 0 = .ok (.aload_n 0, 1) := by decide +kernel
theorem dX2_enterFirstPair_1 : decode cX2_enterFirstPair 1 = .ok (.aload_n 0, 1) := by decide +kernel
theorem dX2_enterFirstPair_2 : decode cX2_enterFirstPair 2 = .ok (.invokevirtual 37, 3) := by decide +kernel
theorem dX2_enterFirstPair_5 : decode cX2_enterFirstPair 5 = .ok (.ifCond .eq 10, 3) := by decide +kernel
theorem dX2_enterFirstPair_8 : decode cX2_enterFirstPair 8 = .ok (.aload_n 0, 1) := by decide +kernel
theorem dX2_enterFirstPair_9 : decode cX2_enterFirstPair 9 = .ok (.getfield 18, 3) := by decide +kernel
theorem dX2_enterFirstPair_12 : decode cX2_enterFirstPair 12 = .ok (.goto 4, 3) := by decide +kernel
theorem dX2_enterFirstPair_15 : decode cX2_enterFirstPair 15 = .ok (.iconst (-1), 1) := by decide +kernel
theorem dX2_enterFirstPair_16 : decode cX2_enterFirstPair 16 = .ok (.putfield 9, 3) := by decide +kernel
theorem dX2_enterFirstPair_19 : decode cX2_enterFirstPair 19 = .ok (.aload_n 0, 1) := by decide +kernel
theorem dX2_enterFirstPair_20 : decode cX2_enterFirstPair 20 = .ok (.aload_n 0, 1) := by decide +kernel
theorem dX2_enterFirstPair_21 : decode cX2_enterFirstPair 21 = .ok (.invokevirtual 33, 3) := by decide +kernel
theorem dX2_enterFirstPair_24 : decode cX2_enterFirstPair 24 = .ok (.ifCond .eq 10, 3) := by decide +kernel
theorem dX2_enterFirstPair_27 : decode cX2_enterFirstPair 27 = .ok (.aload_n 0, 1) := by decide +kernel
theorem dX2_enterFirstPair_28 : decode cX2_enterFirstPair 28 = .ok (.getfield 24, 3) := by decide +kernel
theorem dX2_enterFirstPair_31 : decode cX2_enterFirstPair 31 = .ok (.goto 4, 3) := by decide +kernel
theorem dX2_enterFirstPair_34 : decode cX2_enterFirstPair 34 = .ok (.iconst (-1), 1) := by decide +kernel
theorem dX2_enterFirstPair_35 : decode cX2_enterFirstPair 35 = .ok (.putfield 15, 3) := by decide +kernel
theorem dX2_enterFirstPair_38 : decode cX2_enterFirstPair 38 = .ok (.aload_n 0, 1) := by decide +kernel
theorem dX2_enterFirstPair_39 : decode cX2_enterFirstPair 39 = .ok (.dup, 1) := by decide +kernel
theorem dX2_enterFirstPair_40 : decode cX2_enterFirstPair 40 = .ok (.getfield 30, 3) := by decide +kernel
theorem dX2_enterFirstPair_43 : decode cX2_enterFirstPair 43 = .ok (.iconst 1, 1) := by decide +kernel
theorem dX2_enterFirstPair_44 : decode cX2_enterFirstPair 44 = .ok (.iadd, 1) := by decide +kernel
theorem dX2_enterFirstPair_45 : decode cX2_enterFirstPair 45 = .ok (.putfield 30, 3) := by decide +kernel
theorem dX2_enterFirstPair_48 : decode cX2_enterFirstPair 48 = .ok (.return_, 1) := by decide +kernel
theorem dX2_enterNextPair_0 : decode cX2_enterNextPair 0 = .ok (.aload_n 0, 1) := by decide +kernel
theorem dX2_enterNextPair_1 : decode cX2_enterNextPair 1 = .ok (.getfield 15, 3) := by decide +kernel
theorem dX2_enterNextPair_4 : decode cX2_enterNextPair 4 = .ok (.iconst (-1), 1) := by decide +kernel
theorem dX2_enterNextPair_5 : decode cX2_enterNextPair 5 = .ok (.if_icmp .eq 29, 3) := by decide +kernel
theorem dX2_enterNextPair_8 : decode cX2_enterNextPair 8 = .ok (.aload_n 0, 1) := by decide +kernel
theorem dX2_enterNextPair_9 : decode cX2_enterNextPair 9 = .ok (.getfield 15, 3) := by decide +kernel
theorem dX2_enterNextPair_12 : decode cX2_enterNextPair 12 = .ok (.iconst 1, 1) := by decide +kernel
theorem dX2_enterNextPair_13 : decode cX2_enterNextPair 13 = .ok (.iadd, 1) := by decide +kernel
theorem dX2_enterNextPair_14 : decode cX2_enterNextPair 14 = .ok (.aload_n 0, 1) := by decide +kernel
theorem dX2_enterNextPair_15 : decode cX2_enterNextPair 15 = .ok (.getfield 27, 3) := by decide +kernel
theorem dX2_enterNextPair_18 : decode cX2_enterNextPair 18 = .ok (.if_icmp .ge 16, 3) := by decide +kernel
theorem dX2_enterNextPair_21 : decode cX2_enterNextPair 21 = .ok (.aload_n 0, 1) := by decide +kernel
theorem dX2_enterNextPair_22 : decode cX2_enterNextPair 22 = .ok (.dup, 1) := by decide +kernel
theorem dX2_enterNextPair_23 : decode cX2_enterNextPair 23 = .ok (.getfield 15, 3) := by decide +kernel
theorem dX2_enterNextPair_26 : decode cX2_enterNextPair 26 = .ok (.iconst 1, 1) := by decide +kernel
theorem dX2_enterNextPair_27 : decode cX2_enterNextPair 27 = .ok (.iadd, 1) := by decide +kernel
theorem dX2_enterNextPair_28 : decode cX2_enterNextPair 28 = .ok (.putfield 15, 3) := by decide +kernel
theorem dX2_enterNextPair_31 : decode cX2_enterNextPair 31 = .ok (.goto 58, 3) := by decide +kernel
theorem dX2_enterNextPair_34 : decode cX2_enterNextPair 34 = .ok (.aload_n 0, 1) := by decide +kernel
theorem dX2_enterNextPair_35 : decode cX2_enterNextPair 35 = .ok (.getfield 9, 3) := by decide +kernel
theorem dX2_enterNextPair_38 : decode cX2_enterNextPair 38 = .ok (.iconst (-1), 1) := by decide +kernel
theorem dX2_enterNextPair_39 : decode cX2_enterNextPair 39 = .ok (.if_icmp .eq 48, 3) := by decide +kernel
theorem dX2_enterNextPair_42 : decode cX2_enterNextPair 42 = .ok (.aload_n 0, 1) := by decide +kernel
theorem dX2_enterNextPair_43 : decode cX2_enterNextPair 43 = .ok (.getfield 9, 3) := by decide +kernel
theorem dX2_enterNextPair_46 : decode cX2_enterNextPair 46 = .ok (.iconst 1, 1) := by decide +kernel
theorem dX2_enterNextPair_47 : decode cX2_enterNextPair 47 = .ok (.iadd, 1) := by decide +kernel
theorem dX2_enterNextPair_48 : decode cX2_enterNextPair 48 = .ok (.aload_n 0, 1) := by decide +kernel
theorem dX2_enterNextPair_49 : decode cX2_enterNextPair 49 = .ok (.getfield 21, 3) := by decide +kernel
theorem dX2_enterNextPair_52 : decode cX2_enterNextPair 52 = .ok (.if_icmp .ge 35, 3) := by decide +kernel
theorem dX2_enterNextPair_55 : decode cX2_enterNextPair 55 = .ok (.aload_n 0, 1) := by decide +kernel
theorem dX2_enterNextPair_56 : decode cX2_enterNextPair 56 = .ok (.dup, 1) := by decide +kernel
theorem dX2_enterNextPair_57 : decode cX2_enterNextPair 57 = .ok (.getfield 9, 3) := by decide +kernel
theorem dX2_enterNextPair_60 : decode cX2_enterNextPair 60 = .ok (.iconst 1, 1) := by decide +kernel
theorem dX2_enterNextPair_61 : decode cX2_enterNextPair 61 = .ok (.iadd, 1) := by decide +kernel
theorem dX2_enterNextPair_62 : decode cX2_enterNextPair 62 = .ok (.putfield 9, 3) := by decide +kernel
theorem dX2_enterNextPair_65 : decode cX2_enterNextPair 65 = .ok (.aload_n 0, 1) := by decide +kernel
theorem dX2_enterNextPair_66 : decode cX2_enterNextPair 66 = .ok (.aload_n 0, 1) := by decide +kernel
theorem dX2_enterNextPair_67 : decode cX2_enterNextPair 67 = .ok (.invokevirtual 33, 3) := by decide +kernel
theorem dX2_enterNextPair_70 : decode cX2_enterNextPair 70 = .ok (.ifCond .eq 10, 3) := by decide +kernel
theorem dX2_enterNextPair_73 : decode cX2_enterNextPair 73 = .ok (.aload_n 0, 1) := by decide +kernel
theorem dX2_enterNextPair_74 : decode cX2_enterNextPair 74 = .ok (.getfield 24, 3) := by decide +kernel
theorem dX2_enterNextPair_77 : decode cX2_enterNextPair 77 = .ok (.goto 4, 3) := by decide +kernel
theorem dX2_enterNextPair_80 : decode cX2_enterNextPair 80 = .ok (.iconst (-1), 1) := by decide +kernel
theorem dX2_enterNextPair_81 : decode cX2_enterNextPair 81 = .ok (.putfield 15, 3) := by decide +kernel
theorem dX2_enterNextPair_84 : decode cX2_enterNextPair 84 = .ok (.goto 5, 3) := by decide +kernel
theorem dX2_enterNextPair_87 : decode cX2_enterNextPair 87 = .ok (.iconst 0, 1) := by decide +kernel
theorem dX2_enterNextPair_88 : decode cX2_enterNextPair 88 = .ok (.ireturn, 1) := by decide +kernel
theorem dX2_enterNextPair_89 : decode cX2_enterNextPair 89 = .ok (.aload_n 0, 1) := by decide +kernel
theorem dX2_enterNextPair_90 : decode cX2_enterNextPair 90 = .ok (.dup, 1) := by decide +kernel
theorem dX2_enterNextPair_91 : decode cX2_enterNextPair 91 = .ok (.getfield 30, 3) := by decide +kernel
theorem dX2_enterNextPair_94 : decode cX2_enterNextPair 94 = .ok (.iconst 1, 1) := by decide +kernel
theorem dX2_enterNextPair_95 : decode cX2_enterNextPair 95 = .ok (.iadd, 1) := by decide +kernel
theorem dX2_enterNextPair_96 : decode cX2_enterNextPair 96 = .ok (.putfield 30, 3) := by decide +kernel
theorem dX2_enterNextPair_99 : decode cX2_enterNextPair 99 = .ok (.iconst 1, 1) := by decide +kernel
theorem dX2_enterNextPair_100 : decode cX2_enterNextPair 100 = .ok (.ireturn, 1) := by decide +kernel
theorem dX3_init_0 : decode cX3_init 0 = .ok (.aload_n 0, 1) := by decide +kernel
theorem dX3_init_1 : decode cX3_init 1 = .ok (.invokespecial 1, 3) := by decide +kernel
theorem dX3_init_4 : decode cX3_init 4 = .ok (.return_, 1) := by decide +kernel
theorem dX3_measure_0 : decode cX3_measure 0 = .ok (.aload_n 0, 1) := by decide +kernel
theorem dX3_measure_1 : decode cX3_measure 1 = .ok (.iconst 0, 1) := by decide +kernel
theorem dX3_measure_2 : decode cX3_measure 2 = .ok (.putfield 7, 3) := by decide +kernel
theorem dX3_measure_5 : decode cX3_measure 5 = .ok (.aload_n 0, 1) := by decide +kernel
theorem dX3_measure_6 : decode cX3_measure 6 = .ok (.lconst 0, 1) := by decide +kernel
theorem dX3_measure_7 : decode cX3_measure 7 = .ok (.putfield 13, 3) := by decide +kernel
theorem dX3_measure_10 : decode cX3_measure 10 = .ok (.aload_n 0, 1) := by decide +kernel
theorem dX3_measure_11 : decode cX3_measure 11 = .ok (.aload_n 1, 1) := by decide +kernel
theorem dX3_measure_12 : decode cX3_measure 12 = .ok (.iload_n 2, 1) := by decide +kernel
theorem dX3_measure_13 : decode cX3_measure 13 = .ok (.invokevirtual 17, 3) := by decide +kernel
theorem dX3_measure_16 : decode cX3_measure 16 = .ok (.i2l, 1) := by decide +kernel
theorem dX3_measure_17 : decode cX3_measure 17 = .ok (.putfield 23, 3) := by decide +kernel
theorem dX3_measure_20 : decode cX3_measure 20 = .ok (.aload_n 0, 1) := by decide +kernel
theorem dX3_measure_21 : decode cX3_measure 21 = .ok (.aload_n 0, 1) := by decide +kernel
theorem dX3_measure_22 : decode cX3_measure 22 = .ok (.getfield 23, 3) := by decide +kernel
theorem dX3_measure_25 : decode cX3_measure 25 = .ok (.putfield 26, 3) := by decide +kernel
theorem dX3_measure_28 : decode cX3_measure 28 = .ok (.aload_n 1, 1) := by decide +kernel
theorem dX3_measure_29 : decode cX3_measure 29 = .ok (.iload_n 2, 1) := by decide +kernel
theorem dX3_measure_30 : decode cX3_measure 30 = .ok (.invokevirtual 29, 3) := by decide +kernel
theorem dX3_measure_33 : decode cX3_measure 33 = .ok (.istore_n 3, 1) := by decide +kernel
theorem dX3_measure_34 : decode cX3_measure 34 = .ok (.iload_n 2, 1) := by decide +kernel
theorem dX3_measure_35 : decode cX3_measure 35 = .ok (.istore 4, 2) := by decide +kernel
theorem dX3_measure_37 : decode cX3_measure 37 = .ok (.iload 4, 2) := by decide +kernel
theorem dX3_measure_39 : decode cX3_measure 39 = .ok (.aload_n 1, 1) := by decide +kernel
theorem dX3_measure_40 : decode cX3_measure 40 = .ok (.invokevirtual 32, 3) := by decide +kernel
theorem dX3_measure_43 : decode cX3_measure 43 = .ok (.if_icmp .ge 75, 3) := by decide +kernel
theorem dX3_measure_46 : decode cX3_measure 46 = .ok (.aload_n 1, 1) := by decide +kernel
theorem dX3_measure_47 : decode cX3_measure 47 = .ok (.iload 4, 2) := by decide +kernel
theorem dX3_measure_49 : decode cX3_measure 49 = .ok (.invokevirtual 29, 3) := by decide +kernel
theorem dX3_measure_52 : decode cX3_measure 52 = .ok (.iload_n 3, 1) := by decide +kernel
theorem dX3_measure_53 : decode cX3_measure 53 = .ok (.if_icmp .ne 65, 3) := by decide +kernel
theorem dX3_measure_56 : decode cX3_measure 56 = .ok (.aload_n 1, 1) := by decide +kernel
theorem dX3_measure_57 : decode cX3_measure 57 = .ok (.iload 4, 2) := by decide +kernel
theorem dX3_measure_59 : decode cX3_measure 59 = .ok (.invokevirtual 17, 3) := by decide +kernel
theorem dX3_measure_62 : decode cX3_measure 62 = .ok (.i2l, 1) := by decide +kernel
theorem dX3_measure_63 : decode cX3_measure 63 = .ok (.lstore 5, 2) := by decide +kernel
theorem dX3_measure_65 : decode cX3_measure 65 = .ok (.aload_n 0, 1) := by decide +kernel
theorem dX3_measure_66 : decode cX3_measure 66 = .ok (.dup, 1) := by decide +kernel
theorem dX3_measure_67 : decode cX3_measure 67 = .ok (.getfield 7, 3) := by decide +kernel
theorem dX3_measure_70 : decode cX3_measure 70 = .ok (.iconst 1, 1) := by decide +kernel
theorem dX3_measure_71 : decode cX3_measure 71 = .ok (.iadd, 1) := by decide +kernel
theorem dX3_measure_72 : decode cX3_measure 72 = .ok (.putfield 7, 3) := by decide +kernel
theorem dX3_measure_75 : decode cX3_measure 75 = .ok (.aload_n 0, 1) := by decide +kernel
theorem dX3_measure_76 : decode cX3_measure 76 = .ok (.dup, 1) := by decide +kernel
theorem dX3_measure_77 : decode cX3_measure 77 = .ok (.getfield 13, 3) := by decide +kernel
theorem dX3_measure_80 : decode cX3_measure 80 = .ok (.lload 5, 2) := by decide +kernel
theorem dX3_measure_82 : decode cX3_measure 82 = .ok (.ladd, 1) := by decide +kernel
theorem dX3_measure_83 : decode cX3_measure 83 = .ok (.putfield 13, 3) := by decide +kernel
theorem dX3_measure_86 : decode cX3_measure 86 = .ok (.aload_n 0, 1) := by decide +kernel
theorem dX3_measure_87 : decode cX3_measure 87 = .ok (.aload_n 0, 1) := by decide +kernel
theorem dX3_measure_88 : decode cX3_measure 88 = .ok (.getfield 23, 3) := by decide +kernel
theorem dX3_measure_91 : decode cX3_measure 91 = .ok (.lload 5, 2) := by decide +kernel
theorem dX3_measure_93 : decode cX3_measure 93 = .ok (.invokestatic 36, 3) := by decide +kernel
theorem dX3_measure_96 : decode cX3_measure 96 = .ok (.putfield 23, 3) := by decide +kernel
theorem dX3_measure_99 : decode cX3_measure 99 = .ok (.aload_n 0, 1) := by decide +kernel
theorem dX3_measure_100 : decode cX3_measure 100 = .ok (.aload_n 0, 1) := by decide +kernel
theorem dX3_measure_101 : decode cX3_measure 101 = .ok (.getfield 26, 3) := by decide +kernel
theorem dX3_measure_104 : decode cX3_measure 104 = .ok (.lload 5, 2) := by decide +kernel
theorem dX3_measure_106 : decode cX3_measure 106 = .ok (.invokestatic 42, 3) := by decide +kernel
theorem dX3_measure_109 : decode cX3_measure 109 = .ok (.putfield 26, 3) := by decide +kernel

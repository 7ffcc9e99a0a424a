theorem dX6_init_0 : decode cX6_init 0 = .ok (.aload_n 0, 1) := by decide +kernel
theorem dX6_init_1 : decode cX6_init 1 = .ok (.invokespecial 1, 3) := by decide +kernel
theorem dX6_init_4 : decode cX6_init 4 = .ok (.aload_n 0, 1) := by decide +kernel
theorem dX6_init_5 : decode cX6_init 5 = .ok (.iconst 2, 1) := by decide +kernel
theorem dX6_init_6 : decode cX6_init 6 = .ok (.newarray .int, 2) := by decide +kernel
theorem dX6_init_8 : decode cX6_init 8 = .ok (.putfield 7, 3) := by decide +kernel
theorem dX6_init_11 : decode cX6_init 11 = .ok (.aload_n 0, 1) := by decide +kernel
theorem dX6_init_12 : decode cX6_init 12 = .ok (.sipush 800, 3) := by decide +kernel
theorem dX6_init_15 : decode cX6_init 15 = .ok (.newarray .int, 2) := by decide +kernel
theorem dX6_init_17 : decode cX6_init 17 = .ok (.putfield 13, 3) := by decide +kernel
theorem dX6_init_20 : decode cX6_init 20 = .ok (.aload_n 0, 1) := by decide +kernel
theorem dX6_init_21 : decode cX6_init 21 = .ok (.sipush 800, 3) := by decide +kernel
theorem dX6_init_24 : decode cX6_init 24 = .ok (.newarray .int, 2) := by decide +kernel
theorem dX6_init_26 : decode cX6_init 26 = .ok (.putfield 16, 3) := by decide +kernel
theorem dX6_init_29 : decode cX6_init 29 = .ok (.aload_n 0, 1) := by decide +kernel
theorem dX6_init_30 : decode cX6_init 30 = .ok (.sipush 800, 3) := by decide +kernel
theorem dX6_init_33 : decode cX6_init 33 = .ok (.newarray .int, 2) := by decide +kernel
theorem dX6_init_35 : decode cX6_init 35 = .ok (.putfield 19, 3) := by decide +kernel
theorem dX6_init_38 : decode cX6_init 38 = .ok (.aload_n 0, 1) := by decide +kernel
theorem dX6_init_39 : decode cX6_init 39 = .ok (.iconst 2, 1) := by decide +kernel
theorem dX6_init_40 : decode cX6_init 40 = .ok (.newarray .int, 2) := by decide +kernel
theorem dX6_init_42 : decode cX6_init 42 = .ok (.putfield 22, 3) := by decide +kernel
theorem dX6_init_45 : decode cX6_init 45 = .ok (.aload_n 0, 1) := by decide +kernel
theorem dX6_init_46 : decode cX6_init 46 = .ok (.bipush 24, 2) := by decide +kernel
theorem dX6_init_48 : decode cX6_init 48 = .ok (.newarray .int, 2) := by decide +kernel
theorem dX6_init_50 : decode cX6_init 50 = .ok (.putfield 25, 3) := by decide +kernel
theorem dX6_init_53 : decode cX6_init 53 = .ok (.aload_n 0, 1) := by decide +kernel
theorem dX6_init_54 : decode cX6_init 54 = .ok (.getfield 7, 3) := by decide +kernel
theorem dX6_init_57 : decode cX6_init 57 = .ok (.iconst 0, 1) := by decide +kernel
theorem dX6_init_58 : decode cX6_init 58 = .ok (.iload_n 1, 1) := by decide +kernel
theorem dX6_init_59 : decode cX6_init 59 = .ok (.invokestatic 28, 3) := by decide +kernel
theorem dX6_init_62 : decode cX6_init 62 = .ok (.iastore, 1) := by decide +kernel
theorem dX6_init_63 : decode cX6_init 63 = .ok (.aload_n 0, 1) := by decide +kernel
theorem dX6_init_64 : decode cX6_init 64 = .ok (.getfield 7, 3) := by decide +kernel
theorem dX6_init_67 : decode cX6_init 67 = .ok (.iconst 1, 1) := by decide +kernel
theorem dX6_init_68 : decode cX6_init 68 = .ok (.iload_n 2, 1) := by decide +kernel
theorem dX6_init_69 : decode cX6_init 69 = .ok (.invokestatic 28, 3) := by decide +kernel
theorem dX6_init_72 : decode cX6_init 72 = .ok (.iastore, 1) := by decide +kernel
theorem dX6_init_73 : decode cX6_init 73 = .ok (.aload_n 0, 1) := by decide +kernel
theorem dX6_init_74 : decode cX6_init 74 = .ok (.iload_n 3, 1) := by decide +kernel
theorem dX6_init_75 : decode cX6_init 75 = .ok (.invokestatic 28, 3) := by decide +kernel
theorem dX6_init_78 : decode cX6_init 78 = .ok (.putfield 32, 3) := by decide +kernel
theorem dX6_init_81 : decode cX6_init 81 = .ok (.return_, 1) := by decide +kernel
theorem dX6_between_0 : decode cX6_between 0 = .ok (.iload_n 0, 1) := by decide +kernel
theorem dX6_between_1 : decode cX6_between 1 = .ok (.ifCond .ge 7, 3) := by decide +kernel
theorem dX6_between_4 : decode cX6_between 4 = .ok (.iconst 0, 1) := by decide +kernel
theorem dX6_between_5 : decode cX6_between 5 = .ok (.goto 17, 3) := by decide +kernel
theorem dX6_between_8 : decode cX6_between 8 = .ok (.iload_n 0, 1) := by decide +kernel
theorem dX6_between_9 : decode cX6_between 9 = .ok (.sipush 400, 3) := by decide +kernel
theorem dX6_between_12 : decode cX6_between 12 = .ok (.if_icmp .le 9, 3) := by decide +kernel
theorem dX6_between_15 : decode cX6_between 15 = .ok (.sipush 400, 3) := by decide +kernel
theorem dX6_between_18 : decode cX6_between 18 = .ok (.goto 4, 3) := by decide +kernel
theorem dX6_between_21 : decode cX6_between 21 = .ok (.iload_n 0, 1) := by decide +kernel
theorem dX6_between_22 : decode cX6_between 22 = .ok (.ireturn, 1) := by decide +kernel
theorem dX6_thrown_0 : decode cX6_thrown 0 = .ok (.aload_n 0, 1) := by decide +kernel
theorem dX6_thrown_1 : decode cX6_thrown 1 = .ok (.getfield 36, 3) := by decide +kernel
theorem dX6_thrown_4 : decode cX6_thrown 4 = .ok (.ireturn, 1) := by decide +kernel
theorem dX6_refuses_0 : decode cX6_refuses 0 = .ok (.aload_n 0, 1) := by decide +kernel
theorem dX6_refuses_1 : decode cX6_refuses 1 = .ok (.iload_n 1, 1) := by decide +kernel
theorem dX6_refuses_2 : decode cX6_refuses 2 = .ok (.putfield 36, 3) := by decide +kernel
theorem dX6_refuses_5 : decode cX6_refuses 5 = .ok (.iload_n 1, 1) := by decide +kernel
theorem dX6_refuses_6 : decode cX6_refuses 6 = .ok (.ifCond .le 7, 3) := by decide +kernel
theorem dX6_refuses_9 : decode cX6_refuses 9 = .ok (.iconst 1, 1) := by decide +kernel
theorem dX6_refuses_10 : decode cX6_refuses 10 = .ok (.goto 4, 3) := by decide +kernel
theorem dX6_refuses_13 : decode cX6_refuses 13 = .ok (.iconst 0, 1) := by decide +kernel
theorem dX6_refuses_14 : decode cX6_refuses 14 = .ok (.ireturn, 1) := by decide +kernel
theorem dX6_key_0 : decode cX6_key 0 = .ok (.aload_n 0, 1) := by decide +kernel
theorem dX6_key_1 : decode cX6_key 1 = .ok (.getfield 13, 3) := by decide +kernel
theorem dX6_key_4 : decode cX6_key 4 = .ok (.sipush 400, 3) := by decide +kernel
theorem dX6_key_7 : decode cX6_key 7 = .ok (.iload_n 1, 1) := by decide +kernel
theorem dX6_key_8 : decode cX6_key 8 = .ok (.imul, 1) := by decide +kernel
theorem dX6_key_9 : decode cX6_key 9 = .ok (.aload_n 0, 1) := by decide +kernel
theorem dX6_key_10 : decode cX6_key 10 = .ok (.getfield 19, 3) := by decide +kernel
theorem dX6_key_13 : decode cX6_key 13 = .ok (.sipush 400, 3) := by decide +kernel
theorem dX6_key_16 : decode cX6_key 16 = .ok (.iload_n 1, 1) := by decide +kernel
theorem dX6_key_17 : decode cX6_key 17 = .ok (.imul, 1) := by decide +kernel
theorem dX6_key_18 : decode cX6_key 18 = .ok (.iload_n 2, 1) := by decide +kernel
theorem dX6_key_19 : decode cX6_key 19 = .ok (.iadd, 1) := by decide +kernel
theorem dX6_key_20 : decode cX6_key 20 = .ok (.iaload, 1) := by decide +kernel
theorem dX6_key_21 : decode cX6_key 21 = .ok (.iadd, 1) := by decide +kernel
theorem dX6_key_22 : decode cX6_key 22 = .ok (.iaload, 1) := by decide +kernel
theorem dX6_key_23 : decode cX6_key 23 = .ok (.ireturn, 1) := by decide +kernel
theorem dX6_value_0 : decode cX6_value 0 = .ok (.aload_n 0, 1) := by decide +kernel
theorem dX6_value_1 : decode cX6_value 1 = .ok (.getfield 16, 3) := by decide +kernel
theorem dX6_value_4 : decode cX6_value 4 = .ok (.sipush 400, 3) := by decide +kernel
theorem dX6_value_7 : decode cX6_value 7 = .ok (.iload_n 1, 1) := by decide +kernel
theorem dX6_value_8 : decode cX6_value 8 = .ok (.imul, 1) := by decide +kernel
theorem dX6_value_9 : decode cX6_value 9 = .ok (.aload_n 0, 1) := by decide +kernel
theorem dX6_value_10 : decode cX6_value 10 = .ok (.getfield 19, 3) := by decide +kernel
theorem dX6_value_13 : decode cX6_value 13 = .ok (.sipush 400, 3) := by decide +kernel
theorem dX6_value_16 : decode cX6_value 16 = .ok (.iload_n 1, 1) := by decide +kernel
theorem dX6_value_17 : decode cX6_value 17 = .ok (.imul, 1) := by decide +kernel
theorem dX6_value_18 : decode cX6_value 18 = .ok (.iload_n 2, 1) := by decide +kernel
theorem dX6_value_19 : decode cX6_value 19 = .ok (.iadd, 1) := by decide +kernel
theorem dX6_value_20 : decode cX6_value 20 = .ok (.iaload, 1) := by decide +kernel
theorem dX6_value_21 : decode cX6_value 21 = .ok (.iadd, 1) := by decide +kernel
theorem dX6_value_22 : decode cX6_value 22 = .ok (.iaload, 1) := by decide +kernel
theorem dX6_value_23 : decode cX6_value 23 = .ok (.ireturn, 1) := by decide +kernel
theorem dX6_begins_0 : decode cX6_begins 0 = .ok (.iconst 0, 1) := by decide +kernel
theorem dX6_begins_1 : decode cX6_begins 1 = .ok (.istore_n 1, 1) := by decide +kernel
theorem dX6_begins_2 : decode cX6_begins 2 = .ok (.iload_n 1, 1) := by decide +kernel
theorem dX6_begins_3 : decode cX6_begins 3 = .ok (.bipush 12, 2) := by decide +kernel
theorem dX6_begins_5 : decode cX6_begins 5 = .ok (.if_icmp .ge 16, 3) := by decide +kernel
theorem dX6_begins_8 : decode cX6_begins 8 = .ok (.aload_n 0, 1) := by decide +kernel
theorem dX6_begins_9 : decode cX6_begins 9 = .ok (.getfield 25, 3) := by decide +kernel
theorem dX6_begins_12 : decode cX6_begins 12 = .ok (.iload_n 1, 1) := by decide +kernel
theorem dX6_begins_13 : decode cX6_begins 13 = .ok (.iconst 0, 1) := by decide +kernel
theorem dX6_begins_14 : decode cX6_begins 14 = .ok (.iastore, 1) := by decide +kernel
theorem dX6_begins_15 : decode cX6_begins 15 = .ok (.iinc 1 1, 3) := by decide +kernel
theorem dX6_begins_18 : decode cX6_begins 18 = .ok (.goto (-16), 3) := by decide +kernel
theorem dX6_begins_21 : decode cX6_begins 21 = .ok (.return_, 1) := by decide +kernel
theorem dX6_add_0 : decode cX6_add 0 = .ok (.iload_n 1, 1) := by decide +kernel
theorem dX6_add_1 : decode cX6_add 1 = .ok (.ifCond .eq 7, 3) := by decide +kernel
theorem dX6_add_4 : decode cX6_add 4 = .ok (.iconst 0, 1) := by decide +kernel
theorem dX6_add_5 : decode cX6_add 5 = .ok (.goto 4, 3) := by decide +kernel
theorem dX6_add_8 : decode cX6_add 8 = .ok (.iconst 1, 1) := by decide +kernel
theorem dX6_add_9 : decode cX6_add 9 = .ok (.istore 4, 2) := by decide +kernel
theorem dX6_add_11 : decode cX6_add 11 = .ok (.aload_n 0, 1) := by decide +kernel
theorem dX6_add_12 : decode cX6_add 12 = .ok (.aload_n 0, 1) := by decide +kernel
theorem dX6_add_13 : decode cX6_add 13 = .ok (.getfield 22, 3) := by decide +kernel
theorem dX6_add_16 : decode cX6_add 16 = .ok (.iload 4, 2) := by decide +kernel
theorem dX6_add_18 : decode cX6_add 18 = .ok (.iaload, 1) := by decide +kernel
theorem dX6_add_19 : decode cX6_add 19 = .ok (.aload_n 0, 1) := by decide +kernel
theorem dX6_add_20 : decode cX6_add 20 = .ok (.getfield 7, 3) := by decide +kernel
theorem dX6_add_23 : decode cX6_add 23 = .ok (.iload 4, 2) := by decide +kernel
theorem dX6_add_25 : decode cX6_add 25 = .ok (.iaload, 1) := by decide +kernel
theorem dX6_add_26 : decode cX6_add 26 = .ok (.if_icmp .ne 7, 3) := by decide +kernel
theorem dX6_add_29 : decode cX6_add 29 = .ok (.iconst 1, 1) := by decide +kernel
theorem dX6_add_30 : decode cX6_add 30 = .ok (.goto 4, 3) := by decide +kernel
theorem dX6_add_33 : decode cX6_add 33 = .ok (.iconst 0, 1) := by decide +kernel
theorem dX6_add_34 : decode cX6_add 34 = .ok (.invokevirtual 39, 3) := by decide +kernel
theorem dX6_add_37 : decode cX6_add 37 = .ok (.ifCond .eq 5, 3) := by decide +kernel
theorem dX6_add_40 : decode cX6_add 40 = .ok (.iconst 0, 1) := by decide +kernel
theorem dX6_add_41 : decode cX6_add 41 = .ok (.ireturn, 1) := by decide +kernel
theorem dX6_add_42 : decode cX6_add 42 = .ok (.aload_n 0, 1) := by decide +kernel
theorem dX6_add_43 : decode cX6_add 43 = .ok (.getfield 22, 3) := by decide +kernel
theorem dX6_add_46 : decode cX6_add 46 = .ok (.iload 4, 2) := by decide +kernel
theorem dX6_add_48 : decode cX6_add 48 = .ok (.iaload, 1) := by decide +kernel
theorem dX6_add_49 : decode cX6_add 49 = .ok (.istore 5, 2) := by decide +kernel
theorem dX6_add_51 : decode cX6_add 51 = .ok (.aload_n 0, 1) := by decide +kernel
theorem dX6_add_52 : decode cX6_add 52 = .ok (.getfield 13, 3) := by decide +kernel
theorem dX6_add_55 : decode cX6_add 55 = .ok (.sipush 400, 3) := by decide +kernel
theorem dX6_add_58 : decode cX6_add 58 = .ok (.iload 4, 2) := by decide +kernel
theorem dX6_add_60 : decode cX6_add 60 = .ok (.imul, 1) := by decide +kernel
theorem dX6_add_61 : decode cX6_add 61 = .ok (.iload 5, 2) := by decide +kernel
theorem dX6_add_63 : decode cX6_add 63 = .ok (.iadd, 1) := by decide +kernel
theorem dX6_add_64 : decode cX6_add 64 = .ok (.iload_n 2, 1) := by decide +kernel
theorem dX6_add_65 : decode cX6_add 65 = .ok (.iastore, 1) := by decide +kernel
theorem dX6_add_66 : decode cX6_add 66 = .ok (.aload_n 0, 1) := by decide +kernel
theorem dX6_add_67 : decode cX6_add 67 = .ok (.getfield 16, 3) := by decide +kernel
theorem dX6_add_70 : decode cX6_add 70 = .ok (.sipush 400, 3) := by decide +kernel
theorem dX6_add_73 : decode cX6_add 73 = .ok (.iload 4, 2) := by decide +kernel
theorem dX6_add_75 : decode cX6_add 75 = .ok (.imul, 1) := by decide +kernel
theorem dX6_add_76 : decode cX6_add 76 = .ok (.iload 5, 2) := by decide +kernel
theorem dX6_add_78 : decode cX6_add 78 = .ok (.iadd, 1) := by decide +kernel
theorem dX6_add_79 : decode cX6_add 79 = .ok (.iload_n 3, 1) := by decide +kernel
theorem dX6_add_80 : decode cX6_add 80 = .ok (.iastore, 1) := by decide +kernel
theorem dX6_add_81 : decode cX6_add 81 = .ok (.aload_n 0, 1) := by decide +kernel
theorem dX6_add_82 : decode cX6_add 82 = .ok (.getfield 22, 3) := by decide +kernel
theorem dX6_add_85 : decode cX6_add 85 = .ok (.iload 4, 2) := by decide +kernel
theorem dX6_add_87 : decode cX6_add 87 = .ok (.dup2, 1) := by decide +kernel
theorem dX6_add_88 : decode cX6_add 88 = .ok (.iaload, 1) := by decide +kernel
theorem dX6_add_89 : decode cX6_add 89 = .ok (.iconst 1, 1) := by decide +kernel
theorem dX6_add_90 : decode cX6_add 90 = .ok (.iadd, 1) := by decide +kernel
theorem dX6_add_91 : decode cX6_add 91 = .ok (.iastore, 1) := by decide +kernel
theorem dX6_add_92 : decode cX6_add 92 = .ok (.aload_n 0, 1) := by decide +kernel
theorem dX6_add_93 : decode cX6_add 93 = .ok (.iconst 0, 1) := by decide +kernel
theorem dX6_add_94 : decode cX6_add 94 = .ok (.putfield 43, 3) := by decide +kernel
theorem dX6_add_97 : decode cX6_add 97 = .ok (.aload_n 0, 1) := by decide +kernel
theorem dX6_add_98 : decode cX6_add 98 = .ok (.iconst 0, 1) := by decide +kernel
theorem dX6_add_99 : decode cX6_add 99 = .ok (.putfield 47, 3) := by decide +kernel
theorem dX6_add_102 : decode cX6_add 102 = .ok (.iload 5, 2) := by decide +kernel
theorem dX6_add_104 : decode cX6_add 104 = .ok (.ireturn, 1) := by decide +kernel
theorem dX6_prepare_0 : decode cX6_prepare 0 = .ok (.aload_n 0, 1) := by decide +kernel
theorem dX6_prepare_1 : decode cX6_prepare 1 = .ok (.iconst 0, 1) := by decide +kernel
theorem dX6_prepare_2 : decode cX6_prepare 2 = .ok (.putfield 36, 3) := by decide +kernel
theorem dX6_prepare_5 : decode cX6_prepare 5 = .ok (.iconst 0, 1) := by decide +kernel
theorem dX6_prepare_6 : decode cX6_prepare 6 = .ok (.istore_n 1, 1) := by decide +kernel
theorem dX6_prepare_7 : decode cX6_prepare 7 = .ok (.iload_n 1, 1) := by decide +kernel
theorem dX6_prepare_8 : decode cX6_prepare 8 = .ok (.iconst 2, 1) := by decide +kernel
theorem dX6_prepare_9 : decode cX6_prepare 9 = .ok (.if_icmp .ge 118, 3) := by decide +kernel
theorem dX6_prepare_12 : decode cX6_prepare 12 = .ok (.iconst 0, 1) := by decide +kernel
theorem dX6_prepare_13 : decode cX6_prepare 13 = .ok (.istore_n 2, 1) := by decide +kernel
theorem dX6_prepare_14 : decode cX6_prepare 14 = .ok (.iload_n 2, 1) := by decide +kernel
theorem dX6_prepare_15 : decode cX6_prepare 15 = .ok (.aload_n 0, 1) := by decide +kernel
theorem dX6_prepare_16 : decode cX6_prepare 16 = .ok (.getfield 22, 3) := by decide +kernel
theorem dX6_prepare_19 : decode cX6_prepare 19 = .ok (.iload_n 1, 1) := by decide +kernel
theorem dX6_prepare_20 : decode cX6_prepare 20 = .ok (.iaload, 1) := by decide +kernel
theorem dX6_prepare_21 : decode cX6_prepare 21 = .ok (.if_icmp .ge 100, 3) := by decide +kernel
theorem dX6_prepare_24 : decode cX6_prepare 24 = .ok (.iload_n 2, 1) := by decide +kernel
theorem dX6_prepare_25 : decode cX6_prepare 25 = .ok (.istore_n 3, 1) := by decide +kernel
theorem dX6_prepare_26 : decode cX6_prepare 26 = .ok (.iload_n 3, 1) := by decide +kernel
theorem dX6_prepare_27 : decode cX6_prepare 27 = .ok (.ifCond .le 75, 3) := by decide +kernel
theorem dX6_prepare_30 : decode cX6_prepare 30 = .ok (.aload_n 0, 1) := by decide +kernel
theorem dX6_prepare_31 : decode cX6_prepare 31 = .ok (.getfield 13, 3) := by decide +kernel
theorem dX6_prepare_34 : decode cX6_prepare 34 = .ok (.sipush 400, 3) := by decide +kernel
theorem dX6_prepare_37 : decode cX6_prepare 37 = .ok (.iload_n 1, 1) := by decide +kernel
theorem dX6_prepare_38 : decode cX6_prepare 38 = .ok (.imul, 1) := by decide +kernel
theorem dX6_prepare_39 : decode cX6_prepare 39 = .ok (.aload_n 0, 1) := by decide +kernel
theorem dX6_prepare_40 : decode cX6_prepare 40 = .ok (.getfield 19, 3) := by decide +kernel
theorem dX6_prepare_43 : decode cX6_prepare 43 = .ok (.sipush 400, 3) := by decide +kernel
theorem dX6_prepare_46 : decode cX6_prepare 46 = .ok (.iload_n 1, 1) := by decide +kernel
theorem dX6_prepare_47 : decode cX6_prepare 47 = .ok (.imul, 1) := by decide +kernel
theorem dX6_prepare_48 : decode cX6_prepare 48 = .ok (.iload_n 3, 1) := by decide +kernel
theorem dX6_prepare_49 : decode cX6_prepare 49 = .ok (.iadd, 1) := by decide +kernel
theorem dX6_prepare_50 : decode cX6_prepare 50 = .ok (.iconst 1, 1) := by decide +kernel
theorem dX6_prepare_51 : decode cX6_prepare 51 = .ok (.isub, 1) := by decide +kernel
theorem dX6_prepare_52 : decode cX6_prepare 52 = .ok (.iaload, 1) := by decide +kernel
theorem dX6_prepare_53 : decode cX6_prepare 53 = .ok (.iadd, 1) := by decide +kernel
theorem dX6_prepare_54 : decode cX6_prepare 54 = .ok (.iaload, 1) := by decide +kernel
theorem dX6_prepare_55 : decode cX6_prepare 55 = .ok (.aload_n 0, 1) := by decide +kernel
theorem dX6_prepare_56 : decode cX6_prepare 56 = .ok (.getfield 13, 3) := by decide +kernel
theorem dX6_prepare_59 : decode cX6_prepare 59 = .ok (.sipush 400, 3) := by decide +kernel
theorem dX6_prepare_62 : decode cX6_prepare 62 = .ok (.iload_n 1, 1) := by decide +kernel
theorem dX6_prepare_63 : decode cX6_prepare 63 = .ok (.imul, 1) := by decide +kernel
theorem dX6_prepare_64 : decode cX6_prepare 64 = .ok (.iload_n 2, 1) := by decide +kernel
theorem dX6_prepare_65 : decode cX6_prepare 65 = .ok (.iadd, 1) := by decide +kernel
theorem dX6_prepare_66 : decode cX6_prepare 66 = .ok (.iaload, 1) := by decide +kernel
theorem dX6_prepare_67 : decode cX6_prepare 67 = .ok (.if_icmp .le 35, 3) := by decide +kernel
theorem dX6_prepare_70 : decode cX6_prepare 70 = .ok (.aload_n 0, 1) := by decide +kernel
theorem dX6_prepare_71 : decode cX6_prepare 71 = .ok (.getfield 19, 3) := by decide +kernel
theorem dX6_prepare_74 : decode cX6_prepare 74 = .ok (.sipush 400, 3) := by decide +kernel
theorem dX6_prepare_77 : decode cX6_prepare 77 = .ok (.iload_n 1, 1) := by decide +kernel
theorem dX6_prepare_78 : decode cX6_prepare 78 = .ok (.imul, 1) := by decide +kernel
theorem dX6_prepare_79 : decode cX6_prepare 79 = .ok (.iload_n 3, 1) := by decide +kernel
theorem dX6_prepare_80 : decode cX6_prepare 80 = .ok (.iadd, 1) := by decide +kernel
theorem dX6_prepare_81 : decode cX6_prepare 81 = .ok (.aload_n 0, 1) := by decide +kernel
theorem dX6_prepare_82 : decode cX6_prepare 82 = .ok (.getfield 19, 3) := by decide +kernel
theorem dX6_prepare_85 : decode cX6_prepare 85 = .ok (.sipush 400, 3) := by decide +kernel
theorem dX6_prepare_88 : decode cX6_prepare 88 = .ok (.iload_n 1, 1) := by decide +kernel
theorem dX6_prepare_89 : decode cX6_prepare 89 = .ok (.imul, 1) := by decide +kernel
theorem dX6_prepare_90 : decode cX6_prepare 90 = .ok (.iload_n 3, 1) := by decide +kernel
theorem dX6_prepare_91 : decode cX6_prepare 91 = .ok (.iadd, 1) := by decide +kernel
theorem dX6_prepare_92 : decode cX6_prepare 92 = .ok (.iconst 1, 1) := by decide +kernel
theorem dX6_prepare_93 : decode cX6_prepare 93 = .ok (.isub, 1) := by decide +kernel
theorem dX6_prepare_94 : decode cX6_prepare 94 = .ok (.iaload, 1) := by decide +kernel
theorem dX6_prepare_95 : decode cX6_prepare 95 = .ok (.iastore, 1) := by decide +kernel
theorem dX6_prepare_96 : decode cX6_prepare 96 = .ok (.iinc 3 (-1), 3) := by decide +kernel
theorem dX6_prepare_99 : decode cX6_prepare 99 = .ok (.goto (-73), 3) := by decide +kernel
theorem dX6_prepare_102 : decode cX6_prepare 102 = .ok (.aload_n 0, 1) := by decide +kernel
theorem dX6_prepare_103 : decode cX6_prepare 103 = .ok (.getfield 19, 3) := by decide +kernel
theorem dX6_prepare_106 : decode cX6_prepare 106 = .ok (.sipush 400, 3) := by decide +kernel
theorem dX6_prepare_109 : decode cX6_prepare 109 = .ok (.iload_n 1, 1) := by decide +kernel
theorem dX6_prepare_110 : decode cX6_prepare 110 = .ok (.imul, 1) := by decide +kernel
theorem dX6_prepare_111 : decode cX6_prepare 111 = .ok (.iload_n 3, 1) := by decide +kernel
theorem dX6_prepare_112 : decode cX6_prepare 112 = .ok (.iadd, 1) := by decide +kernel
theorem dX6_prepare_113 : decode cX6_prepare 113 = .ok (.iload_n 2, 1) := by decide +kernel
theorem dX6_prepare_114 : decode cX6_prepare 114 = .ok (.iastore, 1) := by decide +kernel
theorem dX6_prepare_115 : decode cX6_prepare 115 = .ok (.iinc 2 1, 3) := by decide +kernel
theorem dX6_prepare_118 : decode cX6_prepare 118 = .ok (.goto (-104), 3) := by decide +kernel
theorem dX6_prepare_121 : decode cX6_prepare 121 = .ok (.iinc 1 1, 3) := by decide +kernel
theorem dX6_prepare_124 : decode cX6_prepare 124 = .ok (.goto (-117), 3) := by decide +kernel
theorem dX6_prepare_127 : decode cX6_prepare 127 = .ok (.aload_n 0, 1) := by decide +kernel
theorem dX6_prepare_128 : decode cX6_prepare 128 = .ok (.invokevirtual 50, 3) := by decide +kernel
theorem dX6_prepare_131 : decode cX6_prepare 131 = .ok (.aload_n 0, 1) := by decide +kernel
theorem dX6_prepare_132 : decode cX6_prepare 132 = .ok (.lconst 0, 1) := by decide +kernel
theorem dX6_prepare_133 : decode cX6_prepare 133 = .ok (.putfield 53, 3) := by decide +kernel
theorem dX6_prepare_136 : decode cX6_prepare 136 = .ok (.aload_n 0, 1) := by decide +kernel
theorem dX6_prepare_137 : decode cX6_prepare 137 = .ok (.iconst 0, 1) := by decide +kernel
theorem dX6_prepare_138 : decode cX6_prepare 138 = .ok (.putfield 57, 3) := by decide +kernel
theorem dX6_prepare_141 : decode cX6_prepare 141 = .ok (.aload_n 0, 1) := by decide +kernel
theorem dX6_prepare_142 : decode cX6_prepare 142 = .ok (.iconst 0, 1) := by decide +kernel
theorem dX6_prepare_143 : decode cX6_prepare 143 = .ok (.putfield 47, 3) := by decide +kernel
theorem dX6_prepare_146 : decode cX6_prepare 146 = .ok (.aload_n 0, 1) := by decide +kernel
theorem dX6_prepare_147 : decode cX6_prepare 147 = .ok (.iconst 1, 1) := by decide +kernel
theorem dX6_prepare_148 : decode cX6_prepare 148 = .ok (.putfield 43, 3) := by decide +kernel
theorem dX6_prepare_151 : decode cX6_prepare 151 = .ok (.return_, 1) := by decide +kernel
theorem dX6_kind_0 : decode cX6_kind 0 = .ok (.aload_n 0, 1) := by decide +kernel
theorem dX6_kind_1 : decode cX6_kind 1 = .ok (.iload_n 1, 1) := by decide +kernel
theorem dX6_kind_2 : decode cX6_kind 2 = .ok (.ifCond .lt 8, 3) := by decide +kernel
theorem dX6_kind_5 : decode cX6_kind 5 = .ok (.iload_n 1, 1) := by decide +kernel
theorem dX6_kind_6 : decode cX6_kind 6 = .ok (.iconst 3, 1) := by decide +kernel
theorem dX6_kind_7 : decode cX6_kind 7 = .ok (.if_icmp .le 7, 3) := by decide +kernel
theorem dX6_kind_10 : decode cX6_kind 10 = .ok (.iconst 1, 1) := by decide +kernel
theorem dX6_kind_11 : decode cX6_kind 11 = .ok (.goto 4, 3) := by decide +kernel
theorem dX6_kind_14 : decode cX6_kind 14 = .ok (.iconst 0, 1) := by decide +kernel
theorem dX6_kind_15 : decode cX6_kind 15 = .ok (.invokevirtual 39, 3) := by decide +kernel
theorem dX6_kind_18 : decode cX6_kind 18 = .ok (.ifCond .eq 4, 3) := by decide +kernel
theorem dX6_kind_21 : decode cX6_kind 21 = .ok (.return_, 1) := by decide +kernel
theorem dX6_kind_22 : decode cX6_kind 22 = .ok (.aload_n 0, 1) := by decide +kernel
theorem dX6_kind_23 : decode cX6_kind 23 = .ok (.iload_n 1, 1) := by decide +kernel
theorem dX6_kind_24 : decode cX6_kind 24 = .ok (.putfield 60, 3) := by decide +kernel
theorem dX6_kind_27 : decode cX6_kind 27 = .ok (.aload_n 0, 1) := by decide +kernel
theorem dX6_kind_28 : decode cX6_kind 28 = .ok (.invokevirtual 50, 3) := by decide +kernel
theorem dX6_kind_31 : decode cX6_kind 31 = .ok (.aload_n 0, 1) := by decide +kernel
theorem dX6_kind_32 : decode cX6_kind 32 = .ok (.lconst 0, 1) := by decide +kernel
theorem dX6_kind_33 : decode cX6_kind 33 = .ok (.putfield 53, 3) := by decide +kernel
theorem dX6_kind_36 : decode cX6_kind 36 = .ok (.aload_n 0, 1) := by decide +kernel
theorem dX6_kind_37 : decode cX6_kind 37 = .ok (.iconst 0, 1) := by decide +kernel
theorem dX6_kind_38 : decode cX6_kind 38 = .ok (.putfield 57, 3) := by decide +kernel
theorem dX6_kind_41 : decode cX6_kind 41 = .ok (.return_, 1) := by decide +kernel
theorem dX6_tells_0 : decode cX6_tells 0 = .ok (.iload_n 1, 1) := by decide +kernel
theorem dX6_tells_1 : decode cX6_tells 1 = .ok (.ifCond .eq 14, 3) := by decide +kernel
theorem dX6_tells_4 : decode cX6_tells 4 = .ok (.iload_n 0, 1) := by decide +kernel
theorem dX6_tells_5 : decode cX6_tells 5 = .ok (.iload_n 1, 1) := by decide +kernel
theorem dX6_tells_6 : decode cX6_tells 6 = .ok (.iconst 1, 1) := by decide +kernel
theorem dX6_tells_7 : decode cX6_tells 7 = .ok (.isub, 1) := by decide +kernel
theorem dX6_tells_8 : decode cX6_tells 8 = .ok (.ishr, 1) := by decide +kernel
theorem dX6_tells_9 : decode cX6_tells 9 = .ok (.iconst 1, 1) := by decide +kernel
theorem dX6_tells_10 : decode cX6_tells 10 = .ok (.iand, 1) := by decide +kernel
theorem dX6_tells_11 : decode cX6_tells 11 = .ok (.iconst 1, 1) := by decide +kernel
theorem dX6_tells_12 : decode cX6_tells 12 = .ok (.if_icmp .ne 7, 3) := by decide +kernel
theorem dX6_tells_15 : decode cX6_tells 15 = .ok (.iconst 1, 1) := by decide +kernel
theorem dX6_tells_16 : decode cX6_tells 16 = .ok (.goto 4, 3) := by decide +kernel
theorem dX6_tells_19 : decode cX6_tells 19 = .ok (.iconst 0, 1) := by decide +kernel
theorem dX6_tells_20 : decode cX6_tells 20 = .ok (.ireturn, 1) := by decide +kernel
theorem dX6_goes_0 : decode cX6_goes 0 = .ok (.aload_n 0, 1) := by decide +kernel
theorem dX6_goes_1 : decode cX6_goes 1 = .ok (.getfield 25, 3) := by decide +kernel
theorem dX6_goes_4 : decode cX6_goes 4 = .ok (.iconst 0, 1) := by decide +kernel
theorem dX6_goes_5 : decode cX6_goes 5 = .ok (.iload_n 1, 1) := by decide +kernel
theorem dX6_goes_6 : decode cX6_goes 6 = .ok (.iadd, 1) := by decide +kernel
theorem dX6_goes_7 : decode cX6_goes 7 = .ok (.iaload, 1) := by decide +kernel
theorem dX6_goes_8 : decode cX6_goes 8 = .ok (.istore_n 2, 1) := by decide +kernel
theorem dX6_goes_9 : decode cX6_goes 9 = .ok (.iload_n 2, 1) := by decide +kernel
theorem dX6_goes_10 : decode cX6_goes 10 = .ok (.iconst 1, 1) := by decide +kernel
theorem dX6_goes_11 : decode cX6_goes 11 = .ok (.iadd, 1) := by decide +kernel
theorem dX6_goes_12 : decode cX6_goes 12 = .ok (.istore_n 3, 1) := by decide +kernel
theorem dX6_goes_13 : decode cX6_goes 13 = .ok (.aload_n 0, 1) := by decide +kernel
theorem dX6_goes_14 : decode cX6_goes 14 = .ok (.dup, 1) := by decide +kernel
theorem dX6_goes_15 : decode cX6_goes 15 = .ok (.getfield 53, 3) := by decide +kernel
theorem dX6_goes_18 : decode cX6_goes 18 = .ok (.lconst 1, 1) := by decide +kernel
theorem dX6_goes_19 : decode cX6_goes 19 = .ok (.ladd, 1) := by decide +kernel
theorem dX6_goes_20 : decode cX6_goes 20 = .ok (.putfield 53, 3) := by decide +kernel
theorem dX6_goes_23 : decode cX6_goes 23 = .ok (.iload_n 3, 1) := by decide +kernel
theorem dX6_goes_24 : decode cX6_goes 24 = .ok (.aload_n 0, 1) := by decide +kernel
theorem dX6_goes_25 : decode cX6_goes 25 = .ok (.getfield 22, 3) := by decide +kernel
theorem dX6_goes_28 : decode cX6_goes 28 = .ok (.iload_n 1, 1) := by decide +kernel
theorem dX6_goes_29 : decode cX6_goes 29 = .ok (.iaload, 1) := by decide +kernel
theorem dX6_goes_30 : decode cX6_goes 30 = .ok (.if_icmp .ge 34, 3) := by decide +kernel
theorem dX6_goes_33 : decode cX6_goes 33 = .ok (.aload_n 0, 1) := by decide +kernel
theorem dX6_goes_34 : decode cX6_goes 34 = .ok (.iload_n 1, 1) := by decide +kernel
theorem dX6_goes_35 : decode cX6_goes 35 = .ok (.iload_n 3, 1) := by decide +kernel
theorem dX6_goes_36 : decode cX6_goes 36 = .ok (.invokevirtual 63, 3) := by decide +kernel
theorem dX6_goes_39 : decode cX6_goes 39 = .ok (.aload_n 0, 1) := by decide +kernel
theorem dX6_goes_40 : decode cX6_goes 40 = .ok (.iload_n 1, 1) := by decide +kernel
theorem dX6_goes_41 : decode cX6_goes 41 = .ok (.iload_n 2, 1) := by decide +kernel
theorem dX6_goes_42 : decode cX6_goes 42 = .ok (.invokevirtual 63, 3) := by decide +kernel
theorem dX6_goes_45 : decode cX6_goes 45 = .ok (.if_icmp .ne 19, 3) := by decide +kernel
theorem dX6_goes_48 : decode cX6_goes 48 = .ok (.iinc 3 1, 3) := by decide +kernel
theorem dX6_goes_51 : decode cX6_goes 51 = .ok (.aload_n 0, 1) := by decide +kernel
theorem dX6_goes_52 : decode cX6_goes 52 = .ok (.dup, 1) := by decide +kernel
theorem dX6_goes_53 : decode cX6_goes 53 = .ok (.getfield 53, 3) := by decide +kernel
theorem dX6_goes_56 : decode cX6_goes 56 = .ok (.lconst 1, 1) := by decide +kernel
theorem dX6_goes_57 : decode cX6_goes 57 = .ok (.ladd, 1) := by decide +kernel
theorem dX6_goes_58 : decode cX6_goes 58 = .ok (.putfield 53, 3) := by decide +kernel
theorem dX6_goes_61 : decode cX6_goes 61 = .ok (.goto (-38), 3) := by decide +kernel
theorem dX6_goes_64 : decode cX6_goes 64 = .ok (.aload_n 0, 1) := by decide +kernel
theorem dX6_goes_65 : decode cX6_goes 65 = .ok (.dup, 1) := by decide +kernel
theorem dX6_goes_66 : decode cX6_goes 66 = .ok (.getfield 53, 3) := by decide +kernel
theorem dX6_goes_69 : decode cX6_goes 69 = .ok (.iload_n 3, 1) := by decide +kernel
theorem dX6_goes_70 : decode cX6_goes 70 = .ok (.aload_n 0, 1) := by decide +kernel
theorem dX6_goes_71 : decode cX6_goes 71 = .ok (.getfield 22, 3) := by decide +kernel
theorem dX6_goes_74 : decode cX6_goes 74 = .ok (.iload_n 1, 1) := by decide +kernel
theorem dX6_goes_75 : decode cX6_goes 75 = .ok (.iaload, 1) := by decide +kernel
theorem dX6_goes_76 : decode cX6_goes 76 = .ok (.if_icmp .ge 7, 3) := by decide +kernel
theorem dX6_goes_79 : decode cX6_goes 79 = .ok (.lconst 1, 1) := by decide +kernel
theorem dX6_goes_80 : decode cX6_goes 80 = .ok (.goto 4, 3) := by decide +kernel
theorem dX6_goes_83 : decode cX6_goes 83 = .ok (.lconst 0, 1) := by decide +kernel
theorem dX6_goes_84 : decode cX6_goes 84 = .ok (.ladd, 1) := by decide +kernel
theorem dX6_goes_85 : decode cX6_goes 85 = .ok (.putfield 53, 3) := by decide +kernel
theorem dX6_goes_88 : decode cX6_goes 88 = .ok (.aload_n 0, 1) := by decide +kernel
theorem dX6_goes_89 : decode cX6_goes 89 = .ok (.getfield 25, 3) := by decide +kernel
theorem dX6_goes_92 : decode cX6_goes 92 = .ok (.iconst 2, 1) := by decide +kernel
theorem dX6_goes_93 : decode cX6_goes 93 = .ok (.iload_n 1, 1) := by decide +kernel
theorem dX6_goes_94 : decode cX6_goes 94 = .ok (.iadd, 1) := by decide +kernel
theorem dX6_goes_95 : decode cX6_goes 95 = .ok (.iload_n 2, 1) := by decide +kernel
theorem dX6_goes_96 : decode cX6_goes 96 = .ok (.iastore, 1) := by decide +kernel
theorem dX6_goes_97 : decode cX6_goes 97 = .ok (.aload_n 0, 1) := by decide +kernel
theorem dX6_goes_98 : decode cX6_goes 98 = .ok (.getfield 25, 3) := by decide +kernel
theorem dX6_goes_101 : decode cX6_goes 101 = .ok (.iconst 4, 1) := by decide +kernel
theorem dX6_goes_102 : decode cX6_goes 102 = .ok (.iload_n 1, 1) := by decide +kernel
theorem dX6_goes_103 : decode cX6_goes 103 = .ok (.iadd, 1) := by decide +kernel
theorem dX6_goes_104 : decode cX6_goes 104 = .ok (.iload_n 3, 1) := by decide +kernel
theorem dX6_goes_105 : decode cX6_goes 105 = .ok (.iastore, 1) := by decide +kernel
theorem dX6_goes_106 : decode cX6_goes 106 = .ok (.aload_n 0, 1) := by decide +kernel
theorem dX6_goes_107 : decode cX6_goes 107 = .ok (.getfield 25, 3) := by decide +kernel
theorem dX6_goes_110 : decode cX6_goes 110 = .ok (.bipush 6, 2) := by decide +kernel
theorem dX6_goes_112 : decode cX6_goes 112 = .ok (.iload_n 1, 1) := by decide +kernel
theorem dX6_goes_113 : decode cX6_goes 113 = .ok (.iadd, 1) := by decide +kernel
theorem dX6_goes_114 : decode cX6_goes 114 = .ok (.iload_n 2, 1) := by decide +kernel
theorem dX6_goes_115 : decode cX6_goes 115 = .ok (.iastore, 1) := by decide +kernel
theorem dX6_goes_116 : decode cX6_goes 116 = .ok (.aload_n 0, 1) := by decide +kernel
theorem dX6_goes_117 : decode cX6_goes 117 = .ok (.getfield 25, 3) := by decide +kernel
theorem dX6_goes_120 : decode cX6_goes 120 = .ok (.iconst 0, 1) := by decide +kernel
theorem dX6_goes_121 : decode cX6_goes 121 = .ok (.iload_n 1, 1) := by decide +kernel
theorem dX6_goes_122 : decode cX6_goes 122 = .ok (.iadd, 1) := by decide +kernel
theorem dX6_goes_123 : decode cX6_goes 123 = .ok (.iload_n 3, 1) := by decide +kernel
theorem dX6_goes_124 : decode cX6_goes 124 = .ok (.iastore, 1) := by decide +kernel
theorem dX6_goes_125 : decode cX6_goes 125 = .ok (.return_, 1) := by decide +kernel
theorem dX6_steps_0 : decode cX6_steps 0 = .ok (.aload_n 0, 1) := by decide +kernel
theorem dX6_steps_1 : decode cX6_steps 1 = .ok (.getfield 25, 3) := by decide +kernel
theorem dX6_steps_4 : decode cX6_steps 4 = .ok (.bipush 8, 2) := by decide +kernel
theorem dX6_steps_6 : decode cX6_steps 6 = .ok (.iaload, 1) := by decide +kernel
theorem dX6_steps_7 : decode cX6_steps 7 = .ok (.istore_n 1, 1) := by decide +kernel
theorem dX6_steps_8 : decode cX6_steps 8 = .ok (.iload_n 1, 1) := by decide +kernel
theorem dX6_steps_9 : decode cX6_steps 9 = .ok (.ifCond .eq 48, 3) := by decide +kernel
theorem dX6_steps_12 : decode cX6_steps 12 = .ok (.aload_n 0, 1) := by decide +kernel
theorem dX6_steps_13 : decode cX6_steps 13 = .ok (.getfield 25, 3) := by decide +kernel
theorem dX6_steps_16 : decode cX6_steps 16 = .ok (.bipush 6, 2) := by decide +kernel
theorem dX6_steps_18 : decode cX6_steps 18 = .ok (.iload_n 1, 1) := by decide +kernel
theorem dX6_steps_19 : decode cX6_steps 19 = .ok (.iadd, 1) := by decide +kernel
theorem dX6_steps_20 : decode cX6_steps 20 = .ok (.iconst 1, 1) := by decide +kernel
theorem dX6_steps_21 : decode cX6_steps 21 = .ok (.isub, 1) := by decide +kernel
theorem dX6_steps_22 : decode cX6_steps 22 = .ok (.dup2, 1) := by decide +kernel
theorem dX6_steps_23 : decode cX6_steps 23 = .ok (.iaload, 1) := by decide +kernel
theorem dX6_steps_24 : decode cX6_steps 24 = .ok (.iconst 1, 1) := by decide +kernel
theorem dX6_steps_25 : decode cX6_steps 25 = .ok (.iadd, 1) := by decide +kernel
theorem dX6_steps_26 : decode cX6_steps 26 = .ok (.iastore, 1) := by decide +kernel
theorem dX6_steps_27 : decode cX6_steps 27 = .ok (.aload_n 0, 1) := by decide +kernel
theorem dX6_steps_28 : decode cX6_steps 28 = .ok (.getfield 25, 3) := by decide +kernel
theorem dX6_steps_31 : decode cX6_steps 31 = .ok (.bipush 6, 2) := by decide +kernel
theorem dX6_steps_33 : decode cX6_steps 33 = .ok (.iload_n 1, 1) := by decide +kernel
theorem dX6_steps_34 : decode cX6_steps 34 = .ok (.iadd, 1) := by decide +kernel
theorem dX6_steps_35 : decode cX6_steps 35 = .ok (.iconst 1, 1) := by decide +kernel
theorem dX6_steps_36 : decode cX6_steps 36 = .ok (.isub, 1) := by decide +kernel
theorem dX6_steps_37 : decode cX6_steps 37 = .ok (.iaload, 1) := by decide +kernel
theorem dX6_steps_38 : decode cX6_steps 38 = .ok (.aload_n 0, 1) := by decide +kernel
theorem dX6_steps_39 : decode cX6_steps 39 = .ok (.getfield 25, 3) := by decide +kernel
theorem dX6_steps_42 : decode cX6_steps 42 = .ok (.iconst 4, 1) := by decide +kernel
theorem dX6_steps_43 : decode cX6_steps 43 = .ok (.iload_n 1, 1) := by decide +kernel
theorem dX6_steps_44 : decode cX6_steps 44 = .ok (.iadd, 1) := by decide +kernel
theorem dX6_steps_45 : decode cX6_steps 45 = .ok (.iconst 1, 1) := by decide +kernel
theorem dX6_steps_46 : decode cX6_steps 46 = .ok (.isub, 1) := by decide +kernel
theorem dX6_steps_47 : decode cX6_steps 47 = .ok (.iaload, 1) := by decide +kernel
theorem dX6_steps_48 : decode cX6_steps 48 = .ok (.if_icmp .ge 7, 3) := by decide +kernel
theorem dX6_steps_51 : decode cX6_steps 51 = .ok (.iconst 1, 1) := by decide +kernel
theorem dX6_steps_52 : decode cX6_steps 52 = .ok (.goto 4, 3) := by decide +kernel
theorem dX6_steps_55 : decode cX6_steps 55 = .ok (.iconst 0, 1) := by decide +kernel
theorem dX6_steps_56 : decode cX6_steps 56 = .ok (.ireturn, 1) := by decide +kernel
theorem dX6_steps_57 : decode cX6_steps 57 = .ok (.aload_n 0, 1) := by decide +kernel
theorem dX6_steps_58 : decode cX6_steps 58 = .ok (.getfield 25, 3) := by decide +kernel
theorem dX6_steps_61 : decode cX6_steps 61 = .ok (.bipush 7, 2) := by decide +kernel
theorem dX6_steps_63 : decode cX6_steps 63 = .ok (.dup2, 1) := by decide +kernel
theorem dX6_steps_64 : decode cX6_steps 64 = .ok (.iaload, 1) := by decide +kernel
theorem dX6_steps_65 : decode cX6_steps 65 = .ok (.iconst 1, 1) := by decide +kernel
theorem dX6_steps_66 : decode cX6_steps 66 = .ok (.iadd, 1) := by decide +kernel
theorem dX6_steps_67 : decode cX6_steps 67 = .ok (.iastore, 1) := by decide +kernel
theorem dX6_steps_68 : decode cX6_steps 68 = .ok (.aload_n 0, 1) := by decide +kernel
theorem dX6_steps_69 : decode cX6_steps 69 = .ok (.getfield 25, 3) := by decide +kernel
theorem dX6_steps_72 : decode cX6_steps 72 = .ok (.bipush 7, 2) := by decide +kernel
theorem dX6_steps_74 : decode cX6_steps 74 = .ok (.iaload, 1) := by decide +kernel
theorem dX6_steps_75 : decode cX6_steps 75 = .ok (.aload_n 0, 1) := by decide +kernel
theorem dX6_steps_76 : decode cX6_steps 76 = .ok (.getfield 25, 3) := by decide +kernel
theorem dX6_steps_79 : decode cX6_steps 79 = .ok (.iconst 5, 1) := by decide +kernel
theorem dX6_steps_80 : decode cX6_steps 80 = .ok (.iaload, 1) := by decide +kernel
theorem dX6_steps_81 : decode cX6_steps 81 = .ok (.if_icmp .ne 27, 3) := by decide +kernel
theorem dX6_steps_84 : decode cX6_steps 84 = .ok (.aload_n 0, 1) := by decide +kernel
theorem dX6_steps_85 : decode cX6_steps 85 = .ok (.getfield 25, 3) := by decide +kernel
theorem dX6_steps_88 : decode cX6_steps 88 = .ok (.bipush 7, 2) := by decide +kernel
theorem dX6_steps_90 : decode cX6_steps 90 = .ok (.aload_n 0, 1) := by decide +kernel
theorem dX6_steps_91 : decode cX6_steps 91 = .ok (.getfield 25, 3) := by decide +kernel
theorem dX6_steps_94 : decode cX6_steps 94 = .ok (.iconst 3, 1) := by decide +kernel
theorem dX6_steps_95 : decode cX6_steps 95 = .ok (.iaload, 1) := by decide +kernel
theorem dX6_steps_96 : decode cX6_steps 96 = .ok (.iastore, 1) := by decide +kernel
theorem dX6_steps_97 : decode cX6_steps 97 = .ok (.aload_n 0, 1) := by decide +kernel
theorem dX6_steps_98 : decode cX6_steps 98 = .ok (.getfield 25, 3) := by decide +kernel
theorem dX6_steps_101 : decode cX6_steps 101 = .ok (.bipush 6, 2) := by decide +kernel
theorem dX6_steps_103 : decode cX6_steps 103 = .ok (.dup2, 1) := by decide +kernel
theorem dX6_steps_104 : decode cX6_steps 104 = .ok (.iaload, 1) := by decide +kernel
theorem dX6_steps_105 : decode cX6_steps 105 = .ok (.iconst 1, 1) := by decide +kernel
theorem dX6_steps_106 : decode cX6_steps 106 = .ok (.iadd, 1) := by decide +kernel
theorem dX6_steps_107 : decode cX6_steps 107 = .ok (.iastore, 1) := by decide +kernel
theorem dX6_steps_108 : decode cX6_steps 108 = .ok (.aload_n 0, 1) := by decide +kernel
theorem dX6_steps_109 : decode cX6_steps 109 = .ok (.getfield 25, 3) := by decide +kernel
theorem dX6_steps_112 : decode cX6_steps 112 = .ok (.bipush 6, 2) := by decide +kernel
theorem dX6_steps_114 : decode cX6_steps 114 = .ok (.iaload, 1) := by decide +kernel
theorem dX6_steps_115 : decode cX6_steps 115 = .ok (.aload_n 0, 1) := by decide +kernel
theorem dX6_steps_116 : decode cX6_steps 116 = .ok (.getfield 25, 3) := by decide +kernel
theorem dX6_steps_119 : decode cX6_steps 119 = .ok (.iconst 4, 1) := by decide +kernel
theorem dX6_steps_120 : decode cX6_steps 120 = .ok (.iaload, 1) := by decide +kernel
theorem dX6_steps_121 : decode cX6_steps 121 = .ok (.if_icmp .ge 7, 3) := by decide +kernel
theorem dX6_steps_124 : decode cX6_steps 124 = .ok (.iconst 1, 1) := by decide +kernel
theorem dX6_steps_125 : decode cX6_steps 125 = .ok (.goto 4, 3) := by decide +kernel
theorem dX6_steps_128 : decode cX6_steps 128 = .ok (.iconst 0, 1) := by decide +kernel
theorem dX6_steps_129 : decode cX6_steps 129 = .ok (.ireturn, 1) := by decide +kernel
theorem dX6_next_0 : decode cX6_next 0 = .ok (.aload_n 0, 1) := by decide +kernel
theorem dX6_next_1 : decode cX6_next 1 = .ok (.aload_n 0, 1) := by decide +kernel
theorem dX6_next_2 : decode cX6_next 2 = .ok (.getfield 43, 3) := by decide +kernel
theorem dX6_next_5 : decode cX6_next 5 = .ok (.ifCond .eq 7, 3) := by decide +kernel
theorem dX6_next_8 : decode cX6_next 8 = .ok (.iconst 0, 1) := by decide +kernel
theorem dX6_next_9 : decode cX6_next 9 = .ok (.goto 4, 3) := by decide +kernel
theorem dX6_next_12 : decode cX6_next 12 = .ok (.iconst 1, 1) := by decide +kernel
theorem dX6_next_13 : decode cX6_next 13 = .ok (.invokevirtual 39, 3) := by decide +kernel
theorem dX6_next_16 : decode cX6_next 16 = .ok (.ifCond .eq 5, 3) := by decide +kernel
theorem dX6_next_19 : decode cX6_next 19 = .ok (.iconst 0, 1) := by decide +kernel
theorem dX6_next_20 : decode cX6_next 20 = .ok (.ireturn, 1) := by decide +kernel
theorem dX6_next_21 : decode cX6_next 21 = .ok (.aload_n 0, 1) := by decide +kernel
theorem dX6_next_22 : decode cX6_next 22 = .ok (.getfield 25, 3) := by decide +kernel
theorem dX6_next_25 : decode cX6_next 25 = .ok (.bipush 9, 2) := by decide +kernel
theorem dX6_next_27 : decode cX6_next 27 = .ok (.iaload, 1) := by decide +kernel
theorem dX6_next_28 : decode cX6_next 28 = .ok (.iconst 1, 1) := by decide +kernel
theorem dX6_next_29 : decode cX6_next 29 = .ok (.if_icmp .ne 23, 3) := by decide +kernel
theorem dX6_next_32 : decode cX6_next 32 = .ok (.aload_n 0, 1) := by decide +kernel
theorem dX6_next_33 : decode cX6_next 33 = .ok (.invokevirtual 67, 3) := by decide +kernel
theorem dX6_next_36 : decode cX6_next 36 = .ok (.ifCond .eq 16, 3) := by decide +kernel
theorem dX6_next_39 : decode cX6_next 39 = .ok (.aload_n 0, 1) := by decide +kernel
theorem dX6_next_40 : decode cX6_next 40 = .ok (.getfield 25, 3) := by decide +kernel
theorem dX6_next_43 : decode cX6_next 43 = .ok (.bipush 10, 2) := by decide +kernel
theorem dX6_next_45 : decode cX6_next 45 = .ok (.dup2, 1) := by decide +kernel
theorem dX6_next_46 : decode cX6_next 46 = .ok (.iaload, 1) := by decide +kernel
theorem dX6_next_47 : decode cX6_next 47 = .ok (.iconst 1, 1) := by decide +kernel
theorem dX6_next_48 : decode cX6_next 48 = .ok (.iadd, 1) := by decide +kernel
theorem dX6_next_49 : decode cX6_next 49 = .ok (.iastore, 1) := by decide +kernel
theorem dX6_next_50 : decode cX6_next 50 = .ok (.iconst 1, 1) := by decide +kernel
theorem dX6_next_51 : decode cX6_next 51 = .ok (.ireturn, 1) := by decide +kernel
theorem dX6_next_52 : decode cX6_next 52 = .ok (.aload_n 0, 1) := by decide +kernel
theorem dX6_next_53 : decode cX6_next 53 = .ok (.getfield 25, 3) := by decide +kernel
theorem dX6_next_56 : decode cX6_next 56 = .ok (.bipush 9, 2) := by decide +kernel
theorem dX6_next_58 : decode cX6_next 58 = .ok (.iconst 0, 1) := by decide +kernel
theorem dX6_next_59 : decode cX6_next 59 = .ok (.iastore, 1) := by decide +kernel
theorem dX6_next_60 : decode cX6_next 60 = .ok (.aload_n 0, 1) := by decide +kernel
theorem dX6_next_61 : decode cX6_next 61 = .ok (.getfield 25, 3) := by decide +kernel
theorem dX6_next_64 : decode cX6_next 64 = .ok (.iconst 0, 1) := by decide +kernel
theorem dX6_next_65 : decode cX6_next 65 = .ok (.iaload, 1) := by decide +kernel
theorem dX6_next_66 : decode cX6_next 66 = .ok (.aload_n 0, 1) := by decide +kernel
theorem dX6_next_67 : decode cX6_next 67 = .ok (.getfield 22, 3) := by decide +kernel
theorem dX6_next_70 : decode cX6_next 70 = .ok (.iconst 0, 1) := by decide +kernel
theorem dX6_next_71 : decode cX6_next 71 = .ok (.iaload, 1) := by decide +kernel
theorem dX6_next_72 : decode cX6_next 72 = .ok (.if_icmp .lt 18, 3) := by decide +kernel
theorem dX6_next_75 : decode cX6_next 75 = .ok (.aload_n 0, 1) := by decide +kernel
theorem dX6_next_76 : decode cX6_next 76 = .ok (.getfield 25, 3) := by decide +kernel
theorem dX6_next_79 : decode cX6_next 79 = .ok (.iconst 1, 1) := by decide +kernel
theorem dX6_next_80 : decode cX6_next 80 = .ok (.iaload, 1) := by decide +kernel
theorem dX6_next_81 : decode cX6_next 81 = .ok (.aload_n 0, 1) := by decide +kernel
theorem dX6_next_82 : decode cX6_next 82 = .ok (.getfield 22, 3) := by decide +kernel
theorem dX6_next_85 : decode cX6_next 85 = .ok (.iconst 1, 1) := by decide +kernel
theorem dX6_next_86 : decode cX6_next 86 = .ok (.iaload, 1) := by decide +kernel
theorem dX6_next_87 : decode cX6_next 87 = .ok (.if_icmp .ge 201, 3) := by decide +kernel
theorem dX6_next_90 : decode cX6_next 90 = .ok (.aload_n 0, 1) := by decide +kernel
theorem dX6_next_91 : decode cX6_next 91 = .ok (.getfield 25, 3) := by decide +kernel
theorem dX6_next_94 : decode cX6_next 94 = .ok (.iconst 0, 1) := by decide +kernel
theorem dX6_next_95 : decode cX6_next 95 = .ok (.iaload, 1) := by decide +kernel
theorem dX6_next_96 : decode cX6_next 96 = .ok (.aload_n 0, 1) := by decide +kernel
theorem dX6_next_97 : decode cX6_next 97 = .ok (.getfield 22, 3) := by decide +kernel
theorem dX6_next_100 : decode cX6_next 100 = .ok (.iconst 0, 1) := by decide +kernel
theorem dX6_next_101 : decode cX6_next 101 = .ok (.iaload, 1) := by decide +kernel
theorem dX6_next_102 : decode cX6_next 102 = .ok (.if_icmp .ge 7, 3) := by decide +kernel
theorem dX6_next_105 : decode cX6_next 105 = .ok (.iconst 1, 1) := by decide +kernel
theorem dX6_next_106 : decode cX6_next 106 = .ok (.goto 4, 3) := by decide +kernel
theorem dX6_next_109 : decode cX6_next 109 = .ok (.iconst 0, 1) := by decide +kernel
theorem dX6_next_110 : decode cX6_next 110 = .ok (.istore_n 1, 1) := by decide +kernel
theorem dX6_next_111 : decode cX6_next 111 = .ok (.aload_n 0, 1) := by decide +kernel
theorem dX6_next_112 : decode cX6_next 112 = .ok (.getfield 25, 3) := by decide +kernel
theorem dX6_next_115 : decode cX6_next 115 = .ok (.iconst 1, 1) := by decide +kernel
theorem dX6_next_116 : decode cX6_next 116 = .ok (.iaload, 1) := by decide +kernel
theorem dX6_next_117 : decode cX6_next 117 = .ok (.aload_n 0, 1) := by decide +kernel
theorem dX6_next_118 : decode cX6_next 118 = .ok (.getfield 22, 3) := by decide +kernel
theorem dX6_next_121 : decode cX6_next 121 = .ok (.iconst 1, 1) := by decide +kernel
theorem dX6_next_122 : decode cX6_next 122 = .ok (.iaload, 1) := by decide +kernel
theorem dX6_next_123 : decode cX6_next 123 = .ok (.if_icmp .ge 7, 3) := by decide +kernel
theorem dX6_next_126 : decode cX6_next 126 = .ok (.iconst 1, 1) := by decide +kernel
theorem dX6_next_127 : decode cX6_next 127 = .ok (.goto 4, 3) := by decide +kernel
theorem dX6_next_130 : decode cX6_next 130 = .ok (.iconst 0, 1) := by decide +kernel
theorem dX6_next_131 : decode cX6_next 131 = .ok (.istore_n 2, 1) := by decide +kernel
theorem dX6_next_132 : decode cX6_next 132 = .ok (.iload_n 1, 1) := by decide +kernel
theorem dX6_next_133 : decode cX6_next 133 = .ok (.ifCond .eq 68, 3) := by decide +kernel
theorem dX6_next_136 : decode cX6_next 136 = .ok (.iload_n 2, 1) := by decide +kernel
theorem dX6_next_137 : decode cX6_next 137 = .ok (.ifCond .eq 64, 3) := by decide +kernel
theorem dX6_next_140 : decode cX6_next 140 = .ok (.aload_n 0, 1) := by decide +kernel
theorem dX6_next_141 : decode cX6_next 141 = .ok (.iconst 0, 1) := by decide +kernel
theorem dX6_next_142 : decode cX6_next 142 = .ok (.aload_n 0, 1) := by decide +kernel
theorem dX6_next_143 : decode cX6_next 143 = .ok (.getfield 25, 3) := by decide +kernel
theorem dX6_next_146 : decode cX6_next 146 = .ok (.iconst 0, 1) := by decide +kernel
theorem dX6_next_147 : decode cX6_next 147 = .ok (.iaload, 1) := by decide +kernel
theorem dX6_next_148 : decode cX6_next 148 = .ok (.invokevirtual 63, 3) := by decide +kernel
theorem dX6_next_151 : decode cX6_next 151 = .ok (.istore_n 3, 1) := by decide +kernel
theorem dX6_next_152 : decode cX6_next 152 = .ok (.aload_n 0, 1) := by decide +kernel
theorem dX6_next_153 : decode cX6_next 153 = .ok (.iconst 1, 1) := by decide +kernel
theorem dX6_next_154 : decode cX6_next 154 = .ok (.aload_n 0, 1) := by decide +kernel
theorem dX6_next_155 : decode cX6_next 155 = .ok (.getfield 25, 3) := by decide +kernel
theorem dX6_next_158 : decode cX6_next 158 = .ok (.iconst 1, 1) := by decide +kernel
theorem dX6_next_159 : decode cX6_next 159 = .ok (.iaload, 1) := by decide +kernel
theorem dX6_next_160 : decode cX6_next 160 = .ok (.invokevirtual 63, 3) := by decide +kernel
theorem dX6_next_163 : decode cX6_next 163 = .ok (.istore 4, 2) := by decide +kernel
theorem dX6_next_165 : decode cX6_next 165 = .ok (.aload_n 0, 1) := by decide +kernel
theorem dX6_next_166 : decode cX6_next 166 = .ok (.dup, 1) := by decide +kernel
theorem dX6_next_167 : decode cX6_next 167 = .ok (.getfield 53, 3) := by decide +kernel
theorem dX6_next_170 : decode cX6_next 170 = .ok (.ldc2_w 71, 3) := by decide +kernel
theorem dX6_next_173 : decode cX6_next 173 = .ok (.ladd, 1) := by decide +kernel
theorem dX6_next_174 : decode cX6_next 174 = .ok (.putfield 53, 3) := by decide +kernel
theorem dX6_next_177 : decode cX6_next 177 = .ok (.iload_n 3, 1) := by decide +kernel
theorem dX6_next_178 : decode cX6_next 178 = .ok (.iload 4, 2) := by decide +kernel
theorem dX6_next_180 : decode cX6_next 180 = .ok (.if_icmp .gt 7, 3) := by decide +kernel
theorem dX6_next_183 : decode cX6_next 183 = .ok (.iconst 1, 1) := by decide +kernel
theorem dX6_next_184 : decode cX6_next 184 = .ok (.goto 4, 3) := by decide +kernel
theorem dX6_next_187 : decode cX6_next 187 = .ok (.iconst 0, 1) := by decide +kernel
theorem dX6_next_188 : decode cX6_next 188 = .ok (.istore_n 1, 1) := by decide +kernel
theorem dX6_next_189 : decode cX6_next 189 = .ok (.iload 4, 2) := by decide +kernel
theorem dX6_next_191 : decode cX6_next 191 = .ok (.iload_n 3, 1) := by decide +kernel
theorem dX6_next_192 : decode cX6_next 192 = .ok (.if_icmp .gt 7, 3) := by decide +kernel
theorem dX6_next_195 : decode cX6_next 195 = .ok (.iconst 1, 1) := by decide +kernel
theorem dX6_next_196 : decode cX6_next 196 = .ok (.goto 4, 3) := by decide +kernel
theorem dX6_next_199 : decode cX6_next 199 = .ok (.iconst 0, 1) := by decide +kernel
theorem dX6_next_200 : decode cX6_next 200 = .ok (.istore_n 2, 1) := by decide +kernel
theorem dX6_next_201 : decode cX6_next 201 = .ok (.iload_n 1, 1) := by decide +kernel
theorem dX6_next_202 : decode cX6_next 202 = .ok (.ifCond .eq 8, 3) := by decide +kernel
theorem dX6_next_205 : decode cX6_next 205 = .ok (.aload_n 0, 1) := by decide +kernel
theorem dX6_next_206 : decode cX6_next 206 = .ok (.iconst 0, 1) := by decide +kernel
theorem dX6_next_207 : decode cX6_next 207 = .ok (.invokevirtual 73, 3) := by decide +kernel
theorem dX6_next_210 : decode cX6_next 210 = .ok (.iload_n 2, 1) := by decide +kernel
theorem dX6_next_211 : decode cX6_next 211 = .ok (.ifCond .eq 8, 3) := by decide +kernel
theorem dX6_next_214 : decode cX6_next 214 = .ok (.aload_n 0, 1) := by decide +kernel
theorem dX6_next_215 : decode cX6_next 215 = .ok (.iconst 1, 1) := by decide +kernel
theorem dX6_next_216 : decode cX6_next 216 = .ok (.invokevirtual 73, 3) := by decide +kernel
theorem dX6_next_219 : decode cX6_next 219 = .ok (.aload_n 0, 1) := by decide +kernel
theorem dX6_next_220 : decode cX6_next 220 = .ok (.getfield 25, 3) := by decide +kernel
theorem dX6_next_223 : decode cX6_next 223 = .ok (.bipush 8, 2) := by decide +kernel
theorem dX6_next_225 : decode cX6_next 225 = .ok (.iload_n 1, 1) := by decide +kernel
theorem dX6_next_226 : decode cX6_next 226 = .ok (.ifCond .eq 11, 3) := by decide +kernel
theorem dX6_next_229 : decode cX6_next 229 = .ok (.iload_n 2, 1) := by decide +kernel
theorem dX6_next_230 : decode cX6_next 230 = .ok (.ifCond .eq 7, 3) := by decide +kernel
theorem dX6_next_233 : decode cX6_next 233 = .ok (.iconst 0, 1) := by decide +kernel
theorem dX6_next_234 : decode cX6_next 234 = .ok (.goto 12, 3) := by decide +kernel
theorem dX6_next_237 : decode cX6_next 237 = .ok (.iload_n 1, 1) := by decide +kernel
theorem dX6_next_238 : decode cX6_next 238 = .ok (.ifCond .eq 7, 3) := by decide +kernel
theorem dX6_next_241 : decode cX6_next 241 = .ok (.iconst 1, 1) := by decide +kernel
theorem dX6_next_242 : decode cX6_next 242 = .ok (.goto 4, 3) := by decide +kernel
theorem dX6_next_245 : decode cX6_next 245 = .ok (.iconst 2, 1) := by decide +kernel
theorem dX6_next_246 : decode cX6_next 246 = .ok (.iastore, 1) := by decide +kernel
theorem dX6_next_247 : decode cX6_next 247 = .ok (.aload_n 0, 1) := by decide +kernel
theorem dX6_next_248 : decode cX6_next 248 = .ok (.getfield 60, 3) := by decide +kernel
theorem dX6_next_251 : decode cX6_next 251 = .ok (.aload_n 0, 1) := by decide +kernel
theorem dX6_next_252 : decode cX6_next 252 = .ok (.getfield 25, 3) := by decide +kernel
theorem dX6_next_255 : decode cX6_next 255 = .ok (.bipush 8, 2) := by decide +kernel
theorem dX6_next_257 : decode cX6_next 257 = .ok (.iaload, 1) := by decide +kernel
theorem dX6_next_258 : decode cX6_next 258 = .ok (.invokestatic 77, 3) := by decide +kernel
theorem dX6_next_261 : decode cX6_next 261 = .ok (.ifCond .eq 24, 3) := by decide +kernel
theorem dX6_next_264 : decode cX6_next 264 = .ok (.aload_n 0, 1) := by decide +kernel
theorem dX6_next_265 : decode cX6_next 265 = .ok (.getfield 25, 3) := by decide +kernel
theorem dX6_next_268 : decode cX6_next 268 = .ok (.bipush 9, 2) := by decide +kernel
theorem dX6_next_270 : decode cX6_next 270 = .ok (.iconst 1, 1) := by decide +kernel
theorem dX6_next_271 : decode cX6_next 271 = .ok (.iastore, 1) := by decide +kernel
theorem dX6_next_272 : decode cX6_next 272 = .ok (.aload_n 0, 1) := by decide +kernel
theorem dX6_next_273 : decode cX6_next 273 = .ok (.getfield 25, 3) := by decide +kernel
theorem dX6_next_276 : decode cX6_next 276 = .ok (.bipush 10, 2) := by decide +kernel
theorem dX6_next_278 : decode cX6_next 278 = .ok (.dup2, 1) := by decide +kernel
theorem dX6_next_279 : decode cX6_next 279 = .ok (.iaload, 1) := by decide +kernel
theorem dX6_next_280 : decode cX6_next 280 = .ok (.iconst 1, 1) := by decide +kernel
theorem dX6_next_281 : decode cX6_next 281 = .ok (.iadd, 1) := by decide +kernel
theorem dX6_next_282 : decode cX6_next 282 = .ok (.iastore, 1) := by decide +kernel
theorem dX6_next_283 : decode cX6_next 283 = .ok (.iconst 1, 1) := by decide +kernel
theorem dX6_next_284 : decode cX6_next 284 = .ok (.ireturn, 1) := by decide +kernel
theorem dX6_next_285 : decode cX6_next 285 = .ok (.goto (-225), 3) := by decide +kernel
theorem dX6_next_288 : decode cX6_next 288 = .ok (.iconst 0, 1) := by decide +kernel
theorem dX6_next_289 : decode cX6_next 289 = .ok (.ireturn, 1) := by decide +kernel
theorem dX6_pair_0 : decode cX6_pair 0 = .ok (.aload_n 0, 1) := by decide +kernel
theorem dX6_pair_1 : decode cX6_pair 1 = .ok (.iload_n 1, 1) := by decide +kernel
theorem dX6_pair_2 : decode cX6_pair 2 = .ok (.ifCond .lt 8, 3) := by decide +kernel
theorem dX6_pair_5 : decode cX6_pair 5 = .ok (.iload_n 1, 1) := by decide +kernel
theorem dX6_pair_6 : decode cX6_pair 6 = .ok (.iconst 4, 1) := by decide +kernel
theorem dX6_pair_7 : decode cX6_pair 7 = .ok (.if_icmp .le 7, 3) := by decide +kernel
theorem dX6_pair_10 : decode cX6_pair 10 = .ok (.iconst 1, 1) := by decide +kernel
theorem dX6_pair_11 : decode cX6_pair 11 = .ok (.goto 4, 3) := by decide +kernel
theorem dX6_pair_14 : decode cX6_pair 14 = .ok (.iconst 0, 1) := by decide +kernel
theorem dX6_pair_15 : decode cX6_pair 15 = .ok (.invokevirtual 39, 3) := by decide +kernel
theorem dX6_pair_18 : decode cX6_pair 18 = .ok (.ifCond .eq 5, 3) := by decide +kernel
theorem dX6_pair_21 : decode cX6_pair 21 = .ok (.iconst 0, 1) := by decide +kernel
theorem dX6_pair_22 : decode cX6_pair 22 = .ok (.ireturn, 1) := by decide +kernel
theorem dX6_pair_23 : decode cX6_pair 23 = .ok (.aload_n 0, 1) := by decide +kernel
theorem dX6_pair_24 : decode cX6_pair 24 = .ok (.getfield 43, 3) := by decide +kernel
theorem dX6_pair_27 : decode cX6_pair 27 = .ok (.ifCond .eq 18, 3) := by decide +kernel
theorem dX6_pair_30 : decode cX6_pair 30 = .ok (.aload_n 0, 1) := by decide +kernel
theorem dX6_pair_31 : decode cX6_pair 31 = .ok (.getfield 25, 3) := by decide +kernel
theorem dX6_pair_34 : decode cX6_pair 34 = .ok (.bipush 9, 2) := by decide +kernel
theorem dX6_pair_36 : decode cX6_pair 36 = .ok (.iaload, 1) := by decide +kernel
theorem dX6_pair_37 : decode cX6_pair 37 = .ok (.iconst 1, 1) := by decide +kernel
theorem dX6_pair_38 : decode cX6_pair 38 = .ok (.if_icmp .ne 7, 3) := by decide +kernel
theorem dX6_pair_41 : decode cX6_pair 41 = .ok (.iconst 1, 1) := by decide +kernel
theorem dX6_pair_42 : decode cX6_pair 42 = .ok (.goto 4, 3) := by decide +kernel
theorem dX6_pair_45 : decode cX6_pair 45 = .ok (.iconst 0, 1) := by decide +kernel
theorem dX6_pair_46 : decode cX6_pair 46 = .ok (.istore_n 2, 1) := by decide +kernel
theorem dX6_pair_47 : decode cX6_pair 47 = .ok (.iload_n 1, 1) := by decide +kernel
theorem dX6_pair_48 : decode cX6_pair 48 = .ok (.iconst 1, 1) := by decide +kernel
theorem dX6_pair_49 : decode cX6_pair 49 = .ok (.if_icmp .eq 8, 3) := by decide +kernel
theorem dX6_pair_52 : decode cX6_pair 52 = .ok (.iload_n 1, 1) := by decide +kernel
theorem dX6_pair_53 : decode cX6_pair 53 = .ok (.iconst 3, 1) := by decide +kernel
theorem dX6_pair_54 : decode cX6_pair 54 = .ok (.if_icmp .ne 7, 3) := by decide +kernel
theorem dX6_pair_57 : decode cX6_pair 57 = .ok (.iconst 0, 1) := by decide +kernel
theorem dX6_pair_58 : decode cX6_pair 58 = .ok (.goto 4, 3) := by decide +kernel
theorem dX6_pair_61 : decode cX6_pair 61 = .ok (.iconst 1, 1) := by decide +kernel
theorem dX6_pair_62 : decode cX6_pair 62 = .ok (.istore_n 3, 1) := by decide +kernel
theorem dX6_pair_63 : decode cX6_pair 63 = .ok (.iload_n 1, 1) := by decide +kernel
theorem dX6_pair_64 : decode cX6_pair 64 = .ok (.ifCond .ne 50, 3) := by decide +kernel
theorem dX6_pair_67 : decode cX6_pair 67 = .ok (.iload_n 2, 1) := by decide +kernel
theorem dX6_pair_68 : decode cX6_pair 68 = .ok (.ifCond .ne 7, 3) := by decide +kernel
theorem dX6_pair_71 : decode cX6_pair 71 = .ok (.iconst 0, 1) := by decide +kernel
theorem dX6_pair_72 : decode cX6_pair 72 = .ok (.goto 41, 3) := by decide +kernel
theorem dX6_pair_75 : decode cX6_pair 75 = .ok (.aload_n 0, 1) := by decide +kernel
theorem dX6_pair_76 : decode cX6_pair 76 = .ok (.getfield 25, 3) := by decide +kernel
theorem dX6_pair_79 : decode cX6_pair 79 = .ok (.bipush 8, 2) := by decide +kernel
theorem dX6_pair_81 : decode cX6_pair 81 = .ok (.iaload, 1) := by decide +kernel
theorem dX6_pair_82 : decode cX6_pair 82 = .ok (.iconst 2, 1) := by decide +kernel
theorem dX6_pair_83 : decode cX6_pair 83 = .ok (.if_icmp .ne 18, 3) := by decide +kernel
theorem dX6_pair_86 : decode cX6_pair 86 = .ok (.aload_n 0, 1) := by decide +kernel
theorem dX6_pair_87 : decode cX6_pair 87 = .ok (.iconst 1, 1) := by decide +kernel
theorem dX6_pair_88 : decode cX6_pair 88 = .ok (.aload_n 0, 1) := by decide +kernel
theorem dX6_pair_89 : decode cX6_pair 89 = .ok (.getfield 25, 3) := by decide +kernel
theorem dX6_pair_92 : decode cX6_pair 92 = .ok (.bipush 7, 2) := by decide +kernel
theorem dX6_pair_94 : decode cX6_pair 94 = .ok (.iaload, 1) := by decide +kernel
theorem dX6_pair_95 : decode cX6_pair 95 = .ok (.invokevirtual 63, 3) := by decide +kernel
theorem dX6_pair_98 : decode cX6_pair 98 = .ok (.goto 15, 3) := by decide +kernel
theorem dX6_pair_101 : decode cX6_pair 101 = .ok (.aload_n 0, 1) := by decide +kernel
theorem dX6_pair_102 : decode cX6_pair 102 = .ok (.iconst 0, 1) := by decide +kernel
theorem dX6_pair_103 : decode cX6_pair 103 = .ok (.aload_n 0, 1) := by decide +kernel
theorem dX6_pair_104 : decode cX6_pair 104 = .ok (.getfield 25, 3) := by decide +kernel
theorem dX6_pair_107 : decode cX6_pair 107 = .ok (.bipush 6, 2) := by decide +kernel
theorem dX6_pair_109 : decode cX6_pair 109 = .ok (.iaload, 1) := by decide +kernel
theorem dX6_pair_110 : decode cX6_pair 110 = .ok (.invokevirtual 63, 3) := by decide +kernel
theorem dX6_pair_113 : decode cX6_pair 113 = .ok (.ireturn, 1) := by decide +kernel
theorem dX6_pair_114 : decode cX6_pair 114 = .ok (.iload_n 2, 1) := by decide +kernel
theorem dX6_pair_115 : decode cX6_pair 115 = .ok (.ifCond .eq 20, 3) := by decide +kernel
theorem dX6_pair_118 : decode cX6_pair 118 = .ok (.aload_n 0, 1) := by decide +kernel
theorem dX6_pair_119 : decode cX6_pair 119 = .ok (.getfield 25, 3) := by decide +kernel
theorem dX6_pair_122 : decode cX6_pair 122 = .ok (.bipush 8, 2) := by decide +kernel
theorem dX6_pair_124 : decode cX6_pair 124 = .ok (.iaload, 1) := by decide +kernel
theorem dX6_pair_125 : decode cX6_pair 125 = .ok (.iconst 2, 1) := by decide +kernel
theorem dX6_pair_126 : decode cX6_pair 126 = .ok (.iload_n 3, 1) := by decide +kernel
theorem dX6_pair_127 : decode cX6_pair 127 = .ok (.isub, 1) := by decide +kernel
theorem dX6_pair_128 : decode cX6_pair 128 = .ok (.if_icmp .eq 7, 3) := by decide +kernel
theorem dX6_pair_131 : decode cX6_pair 131 = .ok (.iconst 1, 1) := by decide +kernel
theorem dX6_pair_132 : decode cX6_pair 132 = .ok (.goto 4, 3) := by decide +kernel
theorem dX6_pair_135 : decode cX6_pair 135 = .ok (.iconst 0, 1) := by decide +kernel
theorem dX6_pair_136 : decode cX6_pair 136 = .ok (.istore 4, 2) := by decide +kernel
theorem dX6_pair_138 : decode cX6_pair 138 = .ok (.iload_n 1, 1) := by decide +kernel
theorem dX6_pair_139 : decode cX6_pair 139 = .ok (.iconst 3, 1) := by decide +kernel
theorem dX6_pair_140 : decode cX6_pair 140 = .ok (.if_icmp .ge 29, 3) := by decide +kernel
theorem dX6_pair_143 : decode cX6_pair 143 = .ok (.iload 4, 2) := by decide +kernel
theorem dX6_pair_145 : decode cX6_pair 145 = .ok (.ifCond .eq 20, 3) := by decide +kernel
theorem dX6_pair_148 : decode cX6_pair 148 = .ok (.aload_n 0, 1) := by decide +kernel
theorem dX6_pair_149 : decode cX6_pair 149 = .ok (.iload_n 3, 1) := by decide +kernel
theorem dX6_pair_150 : decode cX6_pair 150 = .ok (.aload_n 0, 1) := by decide +kernel
theorem dX6_pair_151 : decode cX6_pair 151 = .ok (.getfield 25, 3) := by decide +kernel
theorem dX6_pair_154 : decode cX6_pair 154 = .ok (.bipush 6, 2) := by decide +kernel
theorem dX6_pair_156 : decode cX6_pair 156 = .ok (.iload_n 3, 1) := by decide +kernel
theorem dX6_pair_157 : decode cX6_pair 157 = .ok (.iadd, 1) := by decide +kernel
theorem dX6_pair_158 : decode cX6_pair 158 = .ok (.iaload, 1) := by decide +kernel
theorem dX6_pair_159 : decode cX6_pair 159 = .ok (.invokevirtual 81, 3) := by decide +kernel
theorem dX6_pair_162 : decode cX6_pair 162 = .ok (.goto 36, 3) := by decide +kernel
theorem dX6_pair_165 : decode cX6_pair 165 = .ok (.iconst 0, 1) := by decide +kernel
theorem dX6_pair_166 : decode cX6_pair 166 = .ok (.goto 32, 3) := by decide +kernel
theorem dX6_pair_169 : decode cX6_pair 169 = .ok (.iload 4, 2) := by decide +kernel
theorem dX6_pair_171 : decode cX6_pair 171 = .ok (.ifCond .eq 26, 3) := by decide +kernel
theorem dX6_pair_174 : decode cX6_pair 174 = .ok (.aload_n 0, 1) := by decide +kernel
theorem dX6_pair_175 : decode cX6_pair 175 = .ok (.getfield 19, 3) := by decide +kernel
theorem dX6_pair_178 : decode cX6_pair 178 = .ok (.sipush 400, 3) := by decide +kernel
theorem dX6_pair_181 : decode cX6_pair 181 = .ok (.iload_n 3, 1) := by decide +kernel
theorem dX6_pair_182 : decode cX6_pair 182 = .ok (.imul, 1) := by decide +kernel
theorem dX6_pair_183 : decode cX6_pair 183 = .ok (.aload_n 0, 1) := by decide +kernel
theorem dX6_pair_184 : decode cX6_pair 184 = .ok (.getfield 25, 3) := by decide +kernel
theorem dX6_pair_187 : decode cX6_pair 187 = .ok (.bipush 6, 2) := by decide +kernel
theorem dX6_pair_189 : decode cX6_pair 189 = .ok (.iload_n 3, 1) := by decide +kernel
theorem dX6_pair_190 : decode cX6_pair 190 = .ok (.iadd, 1) := by decide +kernel
theorem dX6_pair_191 : decode cX6_pair 191 = .ok (.iaload, 1) := by decide +kernel
theorem dX6_pair_192 : decode cX6_pair 192 = .ok (.iadd, 1) := by decide +kernel
theorem dX6_pair_193 : decode cX6_pair 193 = .ok (.iaload, 1) := by decide +kernel
theorem dX6_pair_194 : decode cX6_pair 194 = .ok (.goto 4, 3) := by decide +kernel
theorem dX6_pair_197 : decode cX6_pair 197 = .ok (.iconst (-1), 1) := by decide +kernel
theorem dX6_pair_198 : decode cX6_pair 198 = .ok (.ireturn, 1) := by decide +kernel
theorem dX6_mark_0 : decode cX6_mark 0 = .ok (.aload_n 0, 1) := by decide +kernel
theorem dX6_mark_1 : decode cX6_mark 1 = .ok (.aload_n 0, 1) := by decide +kernel
theorem dX6_mark_2 : decode cX6_mark 2 = .ok (.getfield 43, 3) := by decide +kernel
theorem dX6_mark_5 : decode cX6_mark 5 = .ok (.ifCond .eq 7, 3) := by decide +kernel
theorem dX6_mark_8 : decode cX6_mark 8 = .ok (.iconst 0, 1) := by decide +kernel
theorem dX6_mark_9 : decode cX6_mark 9 = .ok (.goto 4, 3) := by decide +kernel
theorem dX6_mark_12 : decode cX6_mark 12 = .ok (.iconst 1, 1) := by decide +kernel
theorem dX6_mark_13 : decode cX6_mark 13 = .ok (.invokevirtual 39, 3) := by decide +kernel
theorem dX6_mark_16 : decode cX6_mark 16 = .ok (.ifCond .eq 5, 3) := by decide +kernel
theorem dX6_mark_19 : decode cX6_mark 19 = .ok (.iconst 0, 1) := by decide +kernel
theorem dX6_mark_20 : decode cX6_mark 20 = .ok (.ireturn, 1) := by decide +kernel
theorem dX6_mark_21 : decode cX6_mark 21 = .ok (.iconst 0, 1) := by decide +kernel
theorem dX6_mark_22 : decode cX6_mark 22 = .ok (.istore_n 1, 1) := by decide +kernel
theorem dX6_mark_23 : decode cX6_mark 23 = .ok (.iload_n 1, 1) := by decide +kernel
theorem dX6_mark_24 : decode cX6_mark 24 = .ok (.bipush 12, 2) := by decide +kernel
theorem dX6_mark_26 : decode cX6_mark 26 = .ok (.if_icmp .ge 24, 3) := by decide +kernel
theorem dX6_mark_29 : decode cX6_mark 29 = .ok (.aload_n 0, 1) := by decide +kernel
theorem dX6_mark_30 : decode cX6_mark 30 = .ok (.getfield 25, 3) := by decide +kernel
theorem dX6_mark_33 : decode cX6_mark 33 = .ok (.bipush 12, 2) := by decide +kernel
theorem dX6_mark_35 : decode cX6_mark 35 = .ok (.iload_n 1, 1) := by decide +kernel
theorem dX6_mark_36 : decode cX6_mark 36 = .ok (.iadd, 1) := by decide +kernel
theorem dX6_mark_37 : decode cX6_mark 37 = .ok (.aload_n 0, 1) := by decide +kernel
theorem dX6_mark_38 : decode cX6_mark 38 = .ok (.getfield 25, 3) := by decide +kernel
theorem dX6_mark_41 : decode cX6_mark 41 = .ok (.iload_n 1, 1) := by decide +kernel
theorem dX6_mark_42 : decode cX6_mark 42 = .ok (.iaload, 1) := by decide +kernel
theorem dX6_mark_43 : decode cX6_mark 43 = .ok (.iastore, 1) := by decide +kernel
theorem dX6_mark_44 : decode cX6_mark 44 = .ok (.iinc 1 1, 3) := by decide +kernel
theorem dX6_mark_47 : decode cX6_mark 47 = .ok (.goto (-24), 3) := by decide +kernel
theorem dX6_mark_50 : decode cX6_mark 50 = .ok (.aload_n 0, 1) := by decide +kernel
theorem dX6_mark_51 : decode cX6_mark 51 = .ok (.iconst 1, 1) := by decide +kernel
theorem dX6_mark_52 : decode cX6_mark 52 = .ok (.putfield 57, 3) := by decide +kernel
theorem dX6_mark_55 : decode cX6_mark 55 = .ok (.aload_n 0, 1) := by decide +kernel
theorem dX6_mark_56 : decode cX6_mark 56 = .ok (.getfield 25, 3) := by decide +kernel
theorem dX6_mark_59 : decode cX6_mark 59 = .ok (.bipush 10, 2) := by decide +kernel
theorem dX6_mark_61 : decode cX6_mark 61 = .ok (.iaload, 1) := by decide +kernel
theorem dX6_mark_62 : decode cX6_mark 62 = .ok (.ireturn, 1) := by decide +kernel
theorem dX6_back_0 : decode cX6_back 0 = .ok (.aload_n 0, 1) := by decide +kernel
theorem dX6_back_1 : decode cX6_back 1 = .ok (.aload_n 0, 1) := by decide +kernel
theorem dX6_back_2 : decode cX6_back 2 = .ok (.getfield 43, 3) := by decide +kernel
theorem dX6_back_5 : decode cX6_back 5 = .ok (.ifCond .eq 14, 3) := by decide +kernel
theorem dX6_back_8 : decode cX6_back 8 = .ok (.aload_n 0, 1) := by decide +kernel
theorem dX6_back_9 : decode cX6_back 9 = .ok (.getfield 57, 3) := by decide +kernel
theorem dX6_back_12 : decode cX6_back 12 = .ok (.ifCond .eq 7, 3) := by decide +kernel
theorem dX6_back_15 : decode cX6_back 15 = .ok (.iconst 0, 1) := by decide +kernel
theorem dX6_back_16 : decode cX6_back 16 = .ok (.goto 4, 3) := by decide +kernel
theorem dX6_back_19 : decode cX6_back 19 = .ok (.iconst 1, 1) := by decide +kernel
theorem dX6_back_20 : decode cX6_back 20 = .ok (.invokevirtual 39, 3) := by decide +kernel
theorem dX6_back_23 : decode cX6_back 23 = .ok (.ifCond .eq 5, 3) := by decide +kernel
theorem dX6_back_26 : decode cX6_back 26 = .ok (.iconst 0, 1) := by decide +kernel
theorem dX6_back_27 : decode cX6_back 27 = .ok (.ireturn, 1) := by decide +kernel
theorem dX6_back_28 : decode cX6_back 28 = .ok (.iconst 0, 1) := by decide +kernel
theorem dX6_back_29 : decode cX6_back 29 = .ok (.istore_n 1, 1) := by decide +kernel
theorem dX6_back_30 : decode cX6_back 30 = .ok (.iload_n 1, 1) := by decide +kernel
theorem dX6_back_31 : decode cX6_back 31 = .ok (.bipush 12, 2) := by decide +kernel
theorem dX6_back_33 : decode cX6_back 33 = .ok (.if_icmp .ge 24, 3) := by decide +kernel
theorem dX6_back_36 : decode cX6_back 36 = .ok (.aload_n 0, 1) := by decide +kernel
theorem dX6_back_37 : decode cX6_back 37 = .ok (.getfield 25, 3) := by decide +kernel
theorem dX6_back_40 : decode cX6_back 40 = .ok (.iload_n 1, 1) := by decide +kernel
theorem dX6_back_41 : decode cX6_back 41 = .ok (.aload_n 0, 1) := by decide +kernel
theorem dX6_back_42 : decode cX6_back 42 = .ok (.getfield 25, 3) := by decide +kernel
theorem dX6_back_45 : decode cX6_back 45 = .ok (.bipush 12, 2) := by decide +kernel
theorem dX6_back_47 : decode cX6_back 47 = .ok (.iload_n 1, 1) := by decide +kernel
theorem dX6_back_48 : decode cX6_back 48 = .ok (.iadd, 1) := by decide +kernel
theorem dX6_back_49 : decode cX6_back 49 = .ok (.iaload, 1) := by decide +kernel
theorem dX6_back_50 : decode cX6_back 50 = .ok (.iastore, 1) := by decide +kernel
theorem dX6_back_51 : decode cX6_back 51 = .ok (.iinc 1 1, 3) := by decide +kernel
theorem dX6_back_54 : decode cX6_back 54 = .ok (.goto (-24), 3) := by decide +kernel
theorem dX6_back_57 : decode cX6_back 57 = .ok (.aload_n 0, 1) := by decide +kernel
theorem dX6_back_58 : decode cX6_back 58 = .ok (.getfield 25, 3) := by decide +kernel
theorem dX6_back_61 : decode cX6_back 61 = .ok (.bipush 10, 2) := by decide +kernel
theorem dX6_back_63 : decode cX6_back 63 = .ok (.iaload, 1) := by decide +kernel
theorem dX6_back_64 : decode cX6_back 64 = .ok (.ireturn, 1) := by decide +kernel
theorem dX6_rowsOf_0 : decode cX6_rowsOf 0 = .ok (.iconst 0, 1) := by decide +kernel
theorem dX6_rowsOf_1 : decode cX6_rowsOf 1 = .ok (.istore_n 3, 1) := by decide +kernel
theorem dX6_rowsOf_2 : decode cX6_rowsOf 2 = .ok (.iconst 0, 1) := by decide +kernel
theorem dX6_rowsOf_3 : decode cX6_rowsOf 3 = .ok (.istore 4, 2) := by decide +kernel
theorem dX6_rowsOf_5 : decode cX6_rowsOf 5 = .ok (.iload 4, 2) := by decide +kernel
theorem dX6_rowsOf_7 : decode cX6_rowsOf 7 = .ok (.aload_n 0, 1) := by decide +kernel
theorem dX6_rowsOf_8 : decode cX6_rowsOf 8 = .ok (.getfield 22, 3) := by decide +kernel
theorem dX6_rowsOf_11 : decode cX6_rowsOf 11 = .ok (.iload_n 1, 1) := by decide +kernel
theorem dX6_rowsOf_12 : decode cX6_rowsOf 12 = .ok (.iaload, 1) := by decide +kernel
theorem dX6_rowsOf_13 : decode cX6_rowsOf 13 = .ok (.if_icmp .ge 34, 3) := by decide +kernel
theorem dX6_rowsOf_16 : decode cX6_rowsOf 16 = .ok (.iload_n 3, 1) := by decide +kernel
theorem dX6_rowsOf_17 : decode cX6_rowsOf 17 = .ok (.aload_n 0, 1) := by decide +kernel
theorem dX6_rowsOf_18 : decode cX6_rowsOf 18 = .ok (.getfield 13, 3) := by decide +kernel
theorem dX6_rowsOf_21 : decode cX6_rowsOf 21 = .ok (.sipush 400, 3) := by decide +kernel
theorem dX6_rowsOf_24 : decode cX6_rowsOf 24 = .ok (.iload_n 1, 1) := by decide +kernel
theorem dX6_rowsOf_25 : decode cX6_rowsOf 25 = .ok (.imul, 1) := by decide +kernel
theorem dX6_rowsOf_26 : decode cX6_rowsOf 26 = .ok (.iload 4, 2) := by decide +kernel
theorem dX6_rowsOf_28 : decode cX6_rowsOf 28 = .ok (.iadd, 1) := by decide +kernel
theorem dX6_rowsOf_29 : decode cX6_rowsOf 29 = .ok (.iaload, 1) := by decide +kernel
theorem dX6_rowsOf_30 : decode cX6_rowsOf 30 = .ok (.iload_n 2, 1) := by decide +kernel
theorem dX6_rowsOf_31 : decode cX6_rowsOf 31 = .ok (.if_icmp .ne 7, 3) := by decide +kernel
theorem dX6_rowsOf_34 : decode cX6_rowsOf 34 = .ok (.iconst 1, 1) := by decide +kernel
theorem dX6_rowsOf_35 : decode cX6_rowsOf 35 = .ok (.goto 4, 3) := by decide +kernel
theorem dX6_rowsOf_38 : decode cX6_rowsOf 38 = .ok (.iconst 0, 1) := by decide +kernel
theorem dX6_rowsOf_39 : decode cX6_rowsOf 39 = .ok (.iadd, 1) := by decide +kernel
theorem dX6_rowsOf_40 : decode cX6_rowsOf 40 = .ok (.istore_n 3, 1) := by decide +kernel
theorem dX6_rowsOf_41 : decode cX6_rowsOf 41 = .ok (.iinc 4 1, 3) := by decide +kernel
theorem dX6_rowsOf_44 : decode cX6_rowsOf 44 = .ok (.goto (-39), 3) := by decide +kernel
theorem dX6_rowsOf_47 : decode cX6_rowsOf 47 = .ok (.iload_n 3, 1) := by decide +kernel
theorem dX6_rowsOf_48 : decode cX6_rowsOf 48 = .ok (.ireturn, 1) := by decide +kernel
theorem dX6_pairs_0 : decode cX6_pairs 0 = .ok (.lconst 0, 1) := by decide +kernel
theorem dX6_pairs_1 : decode cX6_pairs 1 = .ok (.lstore 5, 2) := by decide +kernel
theorem dX6_pairs_3 : decode cX6_pairs 3 = .ok (.iconst 0, 1) := by decide +kernel
theorem dX6_pairs_4 : decode cX6_pairs 4 = .ok (.istore 7, 2) := by decide +kernel
theorem dX6_pairs_6 : decode cX6_pairs 6 = .ok (.iload 7, 2) := by decide +kernel
theorem dX6_pairs_8 : decode cX6_pairs 8 = .ok (.iconst 2, 1) := by decide +kernel
theorem dX6_pairs_9 : decode cX6_pairs 9 = .ok (.if_icmp .ge 116, 3) := by decide +kernel
theorem dX6_pairs_12 : decode cX6_pairs 12 = .ok (.iconst 0, 1) := by decide +kernel
theorem dX6_pairs_13 : decode cX6_pairs 13 = .ok (.istore 8, 2) := by decide +kernel
theorem dX6_pairs_15 : decode cX6_pairs 15 = .ok (.iload 8, 2) := by decide +kernel
theorem dX6_pairs_17 : decode cX6_pairs 17 = .ok (.aload_n 0, 1) := by decide +kernel
theorem dX6_pairs_18 : decode cX6_pairs 18 = .ok (.getfield 22, 3) := by decide +kernel
theorem dX6_pairs_21 : decode cX6_pairs 21 = .ok (.iload 7, 2) := by decide +kernel
theorem dX6_pairs_23 : decode cX6_pairs 23 = .ok (.iaload, 1) := by decide +kernel
theorem dX6_pairs_24 : decode cX6_pairs 24 = .ok (.if_icmp .ge 95, 3) := by decide +kernel
theorem dX6_pairs_27 : decode cX6_pairs 27 = .ok (.aload_n 0, 1) := by decide +kernel
theorem dX6_pairs_28 : decode cX6_pairs 28 = .ok (.getfield 13, 3) := by decide +kernel
theorem dX6_pairs_31 : decode cX6_pairs 31 = .ok (.sipush 400, 3) := by decide +kernel
theorem dX6_pairs_34 : decode cX6_pairs 34 = .ok (.iload 7, 2) := by decide +kernel
theorem dX6_pairs_36 : decode cX6_pairs 36 = .ok (.imul, 1) := by decide +kernel
theorem dX6_pairs_37 : decode cX6_pairs 37 = .ok (.iload 8, 2) := by decide +kernel
theorem dX6_pairs_39 : decode cX6_pairs 39 = .ok (.iadd, 1) := by decide +kernel
theorem dX6_pairs_40 : decode cX6_pairs 40 = .ok (.iaload, 1) := by decide +kernel
theorem dX6_pairs_41 : decode cX6_pairs 41 = .ok (.istore 9, 2) := by decide +kernel
theorem dX6_pairs_43 : decode cX6_pairs 43 = .ok (.iload 9, 2) := by decide +kernel
theorem dX6_pairs_45 : decode cX6_pairs 45 = .ok (.i2l, 1) := by decide +kernel
theorem dX6_pairs_46 : decode cX6_pairs 46 = .ok (.lload_n 3, 1) := by decide +kernel
theorem dX6_pairs_47 : decode cX6_pairs 47 = .ok (.lcmp, 1) := by decide +kernel
theorem dX6_pairs_48 : decode cX6_pairs 48 = .ok (.ifCond .ge 7, 3) := by decide +kernel
theorem dX6_pairs_51 : decode cX6_pairs 51 = .ok (.iconst 1, 1) := by decide +kernel
theorem dX6_pairs_52 : decode cX6_pairs 52 = .ok (.goto 4, 3) := by decide +kernel
theorem dX6_pairs_55 : decode cX6_pairs 55 = .ok (.iconst 0, 1) := by decide +kernel
theorem dX6_pairs_56 : decode cX6_pairs 56 = .ok (.iload_n 2, 1) := by decide +kernel
theorem dX6_pairs_57 : decode cX6_pairs 57 = .ok (.if_icmp .ne 56, 3) := by decide +kernel
theorem dX6_pairs_60 : decode cX6_pairs 60 = .ok (.aload_n 0, 1) := by decide +kernel
theorem dX6_pairs_61 : decode cX6_pairs 61 = .ok (.iconst 1, 1) := by decide +kernel
theorem dX6_pairs_62 : decode cX6_pairs 62 = .ok (.iload 7, 2) := by decide +kernel
theorem dX6_pairs_64 : decode cX6_pairs 64 = .ok (.isub, 1) := by decide +kernel
theorem dX6_pairs_65 : decode cX6_pairs 65 = .ok (.iload 9, 2) := by decide +kernel
theorem dX6_pairs_67 : decode cX6_pairs 67 = .ok (.invokevirtual 84, 3) := by decide +kernel
theorem dX6_pairs_70 : decode cX6_pairs 70 = .ok (.istore 10, 2) := by decide +kernel
theorem dX6_pairs_72 : decode cX6_pairs 72 = .ok (.lload 5, 2) := by decide +kernel
theorem dX6_pairs_74 : decode cX6_pairs 74 = .ok (.iload 10, 2) := by decide +kernel
theorem dX6_pairs_76 : decode cX6_pairs 76 = .ok (.ifCond .ne 22, 3) := by decide +kernel
theorem dX6_pairs_79 : decode cX6_pairs 79 = .ok (.iload_n 1, 1) := by decide +kernel
theorem dX6_pairs_80 : decode cX6_pairs 80 = .ok (.iload 7, 2) := by decide +kernel
theorem dX6_pairs_82 : decode cX6_pairs 82 = .ok (.iconst 1, 1) := by decide +kernel
theorem dX6_pairs_83 : decode cX6_pairs 83 = .ok (.iadd, 1) := by decide +kernel
theorem dX6_pairs_84 : decode cX6_pairs 84 = .ok (.invokestatic 77, 3) := by decide +kernel
theorem dX6_pairs_87 : decode cX6_pairs 87 = .ok (.ifCond .eq 7, 3) := by decide +kernel
theorem dX6_pairs_90 : decode cX6_pairs 90 = .ok (.lconst 1, 1) := by decide +kernel
theorem dX6_pairs_91 : decode cX6_pairs 91 = .ok (.goto 19, 3) := by decide +kernel
theorem dX6_pairs_94 : decode cX6_pairs 94 = .ok (.lconst 0, 1) := by decide +kernel
theorem dX6_pairs_95 : decode cX6_pairs 95 = .ok (.goto 15, 3) := by decide +kernel
theorem dX6_pairs_98 : decode cX6_pairs 98 = .ok (.iload 7, 2) := by decide +kernel
theorem dX6_pairs_100 : decode cX6_pairs 100 = .ok (.ifCond .ne 9, 3) := by decide +kernel
theorem dX6_pairs_103 : decode cX6_pairs 103 = .ok (.iload 10, 2) := by decide +kernel
theorem dX6_pairs_105 : decode cX6_pairs 105 = .ok (.i2l, 1) := by decide +kernel
theorem dX6_pairs_106 : decode cX6_pairs 106 = .ok (.goto 4, 3) := by decide +kernel
theorem dX6_pairs_109 : decode cX6_pairs 109 = .ok (.lconst 0, 1) := by decide +kernel
theorem dX6_pairs_110 : decode cX6_pairs 110 = .ok (.ladd, 1) := by decide +kernel
theorem dX6_pairs_111 : decode cX6_pairs 111 = .ok (.lstore 5, 2) := by decide +kernel
theorem dX6_pairs_113 : decode cX6_pairs 113 = .ok (.iinc 8 1, 3) := by decide +kernel
theorem dX6_pairs_116 : decode cX6_pairs 116 = .ok (.goto (-101), 3) := by decide +kernel
theorem dX6_pairs_119 : decode cX6_pairs 119 = .ok (.iinc 7 1, 3) := by decide +kernel
theorem dX6_pairs_122 : decode cX6_pairs 122 = .ok (.goto (-116), 3) := by decide +kernel
theorem dX6_pairs_125 : decode cX6_pairs 125 = .ok (.lload 5, 2) := by decide +kernel
theorem dX6_pairs_127 : decode cX6_pairs 127 = .ok (.lreturn, 1) := by decide +kernel
theorem dX6_seek_0 : decode cX6_seek 0 = .ok (.aload_n 0, 1) := by decide +kernel
theorem dX6_seek_1 : decode cX6_seek 1 = .ok (.aload_n 0, 1) := by decide +kernel
theorem dX6_seek_2 : decode cX6_seek 2 = .ok (.getfield 43, 3) := by decide +kernel
theorem dX6_seek_5 : decode cX6_seek 5 = .ok (.ifCond .eq 7, 3) := by decide +kernel
theorem dX6_seek_8 : decode cX6_seek 8 = .ok (.iconst 0, 1) := by decide +kernel
theorem dX6_seek_9 : decode cX6_seek 9 = .ok (.goto 4, 3) := by decide +kernel
theorem dX6_seek_12 : decode cX6_seek 12 = .ok (.iconst 1, 1) := by decide +kernel
theorem dX6_seek_13 : decode cX6_seek 13 = .ok (.invokevirtual 39, 3) := by decide +kernel
theorem dX6_seek_16 : decode cX6_seek 16 = .ok (.ifCond .eq 5, 3) := by decide +kernel
theorem dX6_seek_19 : decode cX6_seek 19 = .ok (.iconst 0, 1) := by decide +kernel
theorem dX6_seek_20 : decode cX6_seek 20 = .ok (.ireturn, 1) := by decide +kernel
theorem dX6_seek_21 : decode cX6_seek 21 = .ok (.aload_n 0, 1) := by decide +kernel
theorem dX6_seek_22 : decode cX6_seek 22 = .ok (.invokevirtual 50, 3) := by decide +kernel
theorem dX6_seek_25 : decode cX6_seek 25 = .ok (.iconst 0, 1) := by decide +kernel
theorem dX6_seek_26 : decode cX6_seek 26 = .ok (.istore_n 2, 1) := by decide +kernel
theorem dX6_seek_27 : decode cX6_seek 27 = .ok (.iload_n 2, 1) := by decide +kernel
theorem dX6_seek_28 : decode cX6_seek 28 = .ok (.iconst 2, 1) := by decide +kernel
theorem dX6_seek_29 : decode cX6_seek 29 = .ok (.if_icmp .ge 78, 3) := by decide +kernel
theorem dX6_seek_32 : decode cX6_seek 32 = .ok (.iconst 0, 1) := by decide +kernel
theorem dX6_seek_33 : decode cX6_seek 33 = .ok (.istore_n 3, 1) := by decide +kernel
theorem dX6_seek_34 : decode cX6_seek 34 = .ok (.aload_n 0, 1) := by decide +kernel
theorem dX6_seek_35 : decode cX6_seek 35 = .ok (.getfield 22, 3) := by decide +kernel
theorem dX6_seek_38 : decode cX6_seek 38 = .ok (.iload_n 2, 1) := by decide +kernel
theorem dX6_seek_39 : decode cX6_seek 39 = .ok (.iaload, 1) := by decide +kernel
theorem dX6_seek_40 : decode cX6_seek 40 = .ok (.istore 4, 2) := by decide +kernel
theorem dX6_seek_42 : decode cX6_seek 42 = .ok (.iload_n 3, 1) := by decide +kernel
theorem dX6_seek_43 : decode cX6_seek 43 = .ok (.iload 4, 2) := by decide +kernel
theorem dX6_seek_45 : decode cX6_seek 45 = .ok (.if_icmp .ge 47, 3) := by decide +kernel
theorem dX6_seek_48 : decode cX6_seek 48 = .ok (.iload_n 3, 1) := by decide +kernel
theorem dX6_seek_49 : decode cX6_seek 49 = .ok (.iload 4, 2) := by decide +kernel
theorem dX6_seek_51 : decode cX6_seek 51 = .ok (.iadd, 1) := by decide +kernel
theorem dX6_seek_52 : decode cX6_seek 52 = .ok (.iconst 2, 1) := by decide +kernel
theorem dX6_seek_53 : decode cX6_seek 53 = .ok (.idiv, 1) := by decide +kernel
theorem dX6_seek_54 : decode cX6_seek 54 = .ok (.istore 5, 2) := by decide +kernel
theorem dX6_seek_56 : decode cX6_seek 56 = .ok (.aload_n 0, 1) := by decide +kernel
theorem dX6_seek_57 : decode cX6_seek 57 = .ok (.dup, 1) := by decide +kernel
theorem dX6_seek_58 : decode cX6_seek 58 = .ok (.getfield 53, 3) := by decide +kernel
theorem dX6_seek_61 : decode cX6_seek 61 = .ok (.lconst 1, 1) := by decide +kernel
theorem dX6_seek_62 : decode cX6_seek 62 = .ok (.ladd, 1) := by decide +kernel
theorem dX6_seek_63 : decode cX6_seek 63 = .ok (.putfield 53, 3) := by decide +kernel
theorem dX6_seek_66 : decode cX6_seek 66 = .ok (.aload_n 0, 1) := by decide +kernel
theorem dX6_seek_67 : decode cX6_seek 67 = .ok (.iload_n 2, 1) := by decide +kernel
theorem dX6_seek_68 : decode cX6_seek 68 = .ok (.iload 5, 2) := by decide +kernel
theorem dX6_seek_70 : decode cX6_seek 70 = .ok (.invokevirtual 63, 3) := by decide +kernel
theorem dX6_seek_73 : decode cX6_seek 73 = .ok (.iload_n 1, 1) := by decide +kernel
theorem dX6_seek_74 : decode cX6_seek 74 = .ok (.if_icmp .ge 11, 3) := by decide +kernel
theorem dX6_seek_77 : decode cX6_seek 77 = .ok (.iload 5, 2) := by decide +kernel
theorem dX6_seek_79 : decode cX6_seek 79 = .ok (.iconst 1, 1) := by decide +kernel
theorem dX6_seek_80 : decode cX6_seek 80 = .ok (.iadd, 1) := by decide +kernel
theorem dX6_seek_81 : decode cX6_seek 81 = .ok (.istore_n 3, 1) := by decide +kernel
theorem dX6_seek_82 : decode cX6_seek 82 = .ok (.goto 7, 3) := by decide +kernel
theorem dX6_seek_85 : decode cX6_seek 85 = .ok (.iload 5, 2) := by decide +kernel
theorem dX6_seek_87 : decode cX6_seek 87 = .ok (.istore 4, 2) := by decide +kernel
theorem dX6_seek_89 : decode cX6_seek 89 = .ok (.goto (-47), 3) := by decide +kernel
theorem dX6_seek_92 : decode cX6_seek 92 = .ok (.aload_n 0, 1) := by decide +kernel
theorem dX6_seek_93 : decode cX6_seek 93 = .ok (.getfield 25, 3) := by decide +kernel
theorem dX6_seek_96 : decode cX6_seek 96 = .ok (.iconst 0, 1) := by decide +kernel
theorem dX6_seek_97 : decode cX6_seek 97 = .ok (.iload_n 2, 1) := by decide +kernel
theorem dX6_seek_98 : decode cX6_seek 98 = .ok (.iadd, 1) := by decide +kernel
theorem dX6_seek_99 : decode cX6_seek 99 = .ok (.iload_n 3, 1) := by decide +kernel
theorem dX6_seek_100 : decode cX6_seek 100 = .ok (.iastore, 1) := by decide +kernel
theorem dX6_seek_101 : decode cX6_seek 101 = .ok (.iinc 2 1, 3) := by decide +kernel
theorem dX6_seek_104 : decode cX6_seek 104 = .ok (.goto (-77), 3) := by decide +kernel
theorem dX6_seek_107 : decode cX6_seek 107 = .ok (.aload_n 0, 1) := by decide +kernel
theorem dX6_seek_108 : decode cX6_seek 108 = .ok (.getfield 25, 3) := by decide +kernel
theorem dX6_seek_111 : decode cX6_seek 111 = .ok (.bipush 10, 2) := by decide +kernel
theorem dX6_seek_113 : decode cX6_seek 113 = .ok (.aload_n 0, 1) := by decide +kernel
theorem dX6_seek_114 : decode cX6_seek 114 = .ok (.aload_n 0, 1) := by decide +kernel
theorem dX6_seek_115 : decode cX6_seek 115 = .ok (.getfield 60, 3) := by decide +kernel
theorem dX6_seek_118 : decode cX6_seek 118 = .ok (.iconst 1, 1) := by decide +kernel
theorem dX6_seek_119 : decode cX6_seek 119 = .ok (.iload_n 1, 1) := by decide +kernel
theorem dX6_seek_120 : decode cX6_seek 120 = .ok (.i2l, 1) := by decide +kernel
theorem dX6_seek_121 : decode cX6_seek 121 = .ok (.invokevirtual 87, 3) := by decide +kernel
theorem dX6_seek_124 : decode cX6_seek 124 = .ok (.l2i, 1) := by decide +kernel
theorem dX6_seek_125 : decode cX6_seek 125 = .ok (.iastore, 1) := by decide +kernel
theorem dX6_seek_126 : decode cX6_seek 126 = .ok (.aload_n 0, 1) := by decide +kernel
theorem dX6_seek_127 : decode cX6_seek 127 = .ok (.aload_n 0, 1) := by decide +kernel
theorem dX6_seek_128 : decode cX6_seek 128 = .ok (.getfield 60, 3) := by decide +kernel
theorem dX6_seek_131 : decode cX6_seek 131 = .ok (.iconst 0, 1) := by decide +kernel
theorem dX6_seek_132 : decode cX6_seek 132 = .ok (.iload_n 1, 1) := by decide +kernel
theorem dX6_seek_133 : decode cX6_seek 133 = .ok (.i2l, 1) := by decide +kernel
theorem dX6_seek_134 : decode cX6_seek 134 = .ok (.invokevirtual 87, 3) := by decide +kernel
theorem dX6_seek_137 : decode cX6_seek 137 = .ok (.lconst 0, 1) := by decide +kernel
theorem dX6_seek_138 : decode cX6_seek 138 = .ok (.lcmp, 1) := by decide +kernel
theorem dX6_seek_139 : decode cX6_seek 139 = .ok (.ifCond .le 7, 3) := by decide +kernel
theorem dX6_seek_142 : decode cX6_seek 142 = .ok (.iconst 1, 1) := by decide +kernel
theorem dX6_seek_143 : decode cX6_seek 143 = .ok (.goto 4, 3) := by decide +kernel
theorem dX6_seek_146 : decode cX6_seek 146 = .ok (.iconst 0, 1) := by decide +kernel
theorem dX6_seek_147 : decode cX6_seek 147 = .ok (.ireturn, 1) := by decide +kernel
theorem dX6_rewind_0 : decode cX6_rewind 0 = .ok (.aload_n 0, 1) := by decide +kernel
theorem dX6_rewind_1 : decode cX6_rewind 1 = .ok (.aload_n 0, 1) := by decide +kernel
theorem dX6_rewind_2 : decode cX6_rewind 2 = .ok (.getfield 43, 3) := by decide +kernel
theorem dX6_rewind_5 : decode cX6_rewind 5 = .ok (.ifCond .eq 7, 3) := by decide +kernel
theorem dX6_rewind_8 : decode cX6_rewind 8 = .ok (.iconst 0, 1) := by decide +kernel
theorem dX6_rewind_9 : decode cX6_rewind 9 = .ok (.goto 4, 3) := by decide +kernel
theorem dX6_rewind_12 : decode cX6_rewind 12 = .ok (.iconst 1, 1) := by decide +kernel
theorem dX6_rewind_13 : decode cX6_rewind 13 = .ok (.invokevirtual 39, 3) := by decide +kernel
theorem dX6_rewind_16 : decode cX6_rewind 16 = .ok (.ifCond .eq 4, 3) := by decide +kernel
theorem dX6_rewind_19 : decode cX6_rewind 19 = .ok (.return_, 1) := by decide +kernel
theorem dX6_rewind_20 : decode cX6_rewind 20 = .ok (.aload_n 0, 1) := by decide +kernel
theorem dX6_rewind_21 : decode cX6_rewind 21 = .ok (.invokevirtual 50, 3) := by decide +kernel
theorem dX6_rewind_24 : decode cX6_rewind 24 = .ok (.aload_n 0, 1) := by decide +kernel
theorem dX6_rewind_25 : decode cX6_rewind 25 = .ok (.lconst 0, 1) := by decide +kernel
theorem dX6_rewind_26 : decode cX6_rewind 26 = .ok (.putfield 53, 3) := by decide +kernel
theorem dX6_rewind_29 : decode cX6_rewind 29 = .ok (.return_, 1) := by decide +kernel
theorem dX6_count_0 : decode cX6_count 0 = .ok (.aload_n 0, 1) := by decide +kernel
theorem dX6_count_1 : decode cX6_count 1 = .ok (.iload_n 1, 1) := by decide +kernel
theorem dX6_count_2 : decode cX6_count 2 = .ok (.ifCond .lt 8, 3) := by decide +kernel
theorem dX6_count_5 : decode cX6_count 5 = .ok (.iload_n 1, 1) := by decide +kernel
theorem dX6_count_6 : decode cX6_count 6 = .ok (.iconst 3, 1) := by decide +kernel
theorem dX6_count_7 : decode cX6_count 7 = .ok (.if_icmp .le 7, 3) := by decide +kernel
theorem dX6_count_10 : decode cX6_count 10 = .ok (.iconst 1, 1) := by decide +kernel
theorem dX6_count_11 : decode cX6_count 11 = .ok (.goto 15, 3) := by decide +kernel
theorem dX6_count_14 : decode cX6_count 14 = .ok (.aload_n 0, 1) := by decide +kernel
theorem dX6_count_15 : decode cX6_count 15 = .ok (.getfield 43, 3) := by decide +kernel
theorem dX6_count_18 : decode cX6_count 18 = .ok (.ifCond .eq 7, 3) := by decide +kernel
theorem dX6_count_21 : decode cX6_count 21 = .ok (.iconst 0, 1) := by decide +kernel
theorem dX6_count_22 : decode cX6_count 22 = .ok (.goto 4, 3) := by decide +kernel
theorem dX6_count_25 : decode cX6_count 25 = .ok (.iconst 2, 1) := by decide +kernel
theorem dX6_count_26 : decode cX6_count 26 = .ok (.invokevirtual 39, 3) := by decide +kernel
theorem dX6_count_29 : decode cX6_count 29 = .ok (.ifCond .eq 5, 3) := by decide +kernel
theorem dX6_count_32 : decode cX6_count 32 = .ok (.lconst 0, 1) := by decide +kernel
theorem dX6_count_33 : decode cX6_count 33 = .ok (.lreturn, 1) := by decide +kernel
theorem dX6_count_34 : decode cX6_count 34 = .ok (.aload_n 0, 1) := by decide +kernel
theorem dX6_count_35 : decode cX6_count 35 = .ok (.iload_n 1, 1) := by decide +kernel
theorem dX6_count_36 : decode cX6_count 36 = .ok (.iconst 1, 1) := by decide +kernel
theorem dX6_count_37 : decode cX6_count 37 = .ok (.ldc2_w 91, 3) := by decide +kernel
theorem dX6_count_40 : decode cX6_count 40 = .ok (.invokevirtual 87, 3) := by decide +kernel
theorem dX6_count_43 : decode cX6_count 43 = .ok (.lreturn, 1) := by decide +kernel
theorem dX6_rows_0 : decode cX6_rows 0 = .ok (.aload_n 0, 1) := by decide +kernel
theorem dX6_rows_1 : decode cX6_rows 1 = .ok (.aload_n 0, 1) := by decide +kernel
theorem dX6_rows_2 : decode cX6_rows 2 = .ok (.getfield 43, 3) := by decide +kernel
theorem dX6_rows_5 : decode cX6_rows 5 = .ok (.ifCond .eq 7, 3) := by decide +kernel
theorem dX6_rows_8 : decode cX6_rows 8 = .ok (.iconst 0, 1) := by decide +kernel
theorem dX6_rows_9 : decode cX6_rows 9 = .ok (.goto 4, 3) := by decide +kernel
theorem dX6_rows_12 : decode cX6_rows 12 = .ok (.iconst 1, 1) := by decide +kernel
theorem dX6_rows_13 : decode cX6_rows 13 = .ok (.invokevirtual 39, 3) := by decide +kernel
theorem dX6_rows_16 : decode cX6_rows 16 = .ok (.ifCond .eq 5, 3) := by decide +kernel
theorem dX6_rows_19 : decode cX6_rows 19 = .ok (.iconst 0, 1) := by decide +kernel
theorem dX6_rows_20 : decode cX6_rows 20 = .ok (.ireturn, 1) := by decide +kernel
theorem dX6_rows_21 : decode cX6_rows 21 = .ok (.iload_n 1, 1) := by decide +kernel
theorem dX6_rows_22 : decode cX6_rows 22 = .ok (.ifCond .eq 7, 3) := by decide +kernel
theorem dX6_rows_25 : decode cX6_rows 25 = .ok (.iconst 0, 1) := by decide +kernel
theorem dX6_rows_26 : decode cX6_rows 26 = .ok (.goto 4, 3) := by decide +kernel
theorem dX6_rows_29 : decode cX6_rows 29 = .ok (.iconst 1, 1) := by decide +kernel
theorem dX6_rows_30 : decode cX6_rows 30 = .ok (.istore_n 3, 1) := by decide +kernel
theorem dX6_rows_31 : decode cX6_rows 31 = .ok (.iconst 0, 1) := by decide +kernel
theorem dX6_rows_32 : decode cX6_rows 32 = .ok (.istore 4, 2) := by decide +kernel
theorem dX6_rows_34 : decode cX6_rows 34 = .ok (.iconst 0, 1) := by decide +kernel
theorem dX6_rows_35 : decode cX6_rows 35 = .ok (.istore 5, 2) := by decide +kernel
theorem dX6_rows_37 : decode cX6_rows 37 = .ok (.iload 5, 2) := by decide +kernel
theorem dX6_rows_39 : decode cX6_rows 39 = .ok (.aload_n 0, 1) := by decide +kernel
theorem dX6_rows_40 : decode cX6_rows 40 = .ok (.getfield 22, 3) := by decide +kernel
theorem dX6_rows_43 : decode cX6_rows 43 = .ok (.iload_n 3, 1) := by decide +kernel
theorem dX6_rows_44 : decode cX6_rows 44 = .ok (.iaload, 1) := by decide +kernel
theorem dX6_rows_45 : decode cX6_rows 45 = .ok (.if_icmp .ge 51, 3) := by decide +kernel
theorem dX6_rows_48 : decode cX6_rows 48 = .ok (.iload 4, 2) := by decide +kernel
theorem dX6_rows_50 : decode cX6_rows 50 = .ok (.aload_n 0, 1) := by decide +kernel
theorem dX6_rows_51 : decode cX6_rows 51 = .ok (.iconst 1, 1) := by decide +kernel
theorem dX6_rows_52 : decode cX6_rows 52 = .ok (.iload_n 3, 1) := by decide +kernel
theorem dX6_rows_53 : decode cX6_rows 53 = .ok (.isub, 1) := by decide +kernel
theorem dX6_rows_54 : decode cX6_rows 54 = .ok (.aload_n 0, 1) := by decide +kernel
theorem dX6_rows_55 : decode cX6_rows 55 = .ok (.getfield 13, 3) := by decide +kernel
theorem dX6_rows_58 : decode cX6_rows 58 = .ok (.sipush 400, 3) := by decide +kernel
theorem dX6_rows_61 : decode cX6_rows 61 = .ok (.iload_n 3, 1) := by decide +kernel
theorem dX6_rows_62 : decode cX6_rows 62 = .ok (.imul, 1) := by decide +kernel
theorem dX6_rows_63 : decode cX6_rows 63 = .ok (.iload 5, 2) := by decide +kernel
theorem dX6_rows_65 : decode cX6_rows 65 = .ok (.iadd, 1) := by decide +kernel
theorem dX6_rows_66 : decode cX6_rows 66 = .ok (.iaload, 1) := by decide +kernel
theorem dX6_rows_67 : decode cX6_rows 67 = .ok (.invokevirtual 84, 3) := by decide +kernel
theorem dX6_rows_70 : decode cX6_rows 70 = .ok (.ifCond .le 7, 3) := by decide +kernel
theorem dX6_rows_73 : decode cX6_rows 73 = .ok (.iconst 1, 1) := by decide +kernel
theorem dX6_rows_74 : decode cX6_rows 74 = .ok (.goto 4, 3) := by decide +kernel
theorem dX6_rows_77 : decode cX6_rows 77 = .ok (.iconst 0, 1) := by decide +kernel
theorem dX6_rows_78 : decode cX6_rows 78 = .ok (.iload_n 2, 1) := by decide +kernel
theorem dX6_rows_79 : decode cX6_rows 79 = .ok (.if_icmp .ne 7, 3) := by decide +kernel
theorem dX6_rows_82 : decode cX6_rows 82 = .ok (.iconst 1, 1) := by decide +kernel
theorem dX6_rows_83 : decode cX6_rows 83 = .ok (.goto 4, 3) := by decide +kernel
theorem dX6_rows_86 : decode cX6_rows 86 = .ok (.iconst 0, 1) := by decide +kernel
theorem dX6_rows_87 : decode cX6_rows 87 = .ok (.iadd, 1) := by decide +kernel
theorem dX6_rows_88 : decode cX6_rows 88 = .ok (.istore 4, 2) := by decide +kernel
theorem dX6_rows_90 : decode cX6_rows 90 = .ok (.iinc 5 1, 3) := by decide +kernel
theorem dX6_rows_93 : decode cX6_rows 93 = .ok (.goto (-56), 3) := by decide +kernel
theorem dX6_rows_96 : decode cX6_rows 96 = .ok (.iload 4, 2) := by decide +kernel
theorem dX6_rows_98 : decode cX6_rows 98 = .ok (.ireturn, 1) := by decide +kernel
theorem dX6_groupAt_0 : decode cX6_groupAt 0 = .ok (.iconst 0, 1) := by decide +kernel
theorem dX6_groupAt_1 : decode cX6_groupAt 1 = .ok (.istore_n 2, 1) := by decide +kernel
theorem dX6_groupAt_2 : decode cX6_groupAt 2 = .ok (.iconst 0, 1) := by decide +kernel
theorem dX6_groupAt_3 : decode cX6_groupAt 3 = .ok (.istore_n 3, 1) := by decide +kernel
theorem dX6_groupAt_4 : decode cX6_groupAt 4 = .ok (.iload_n 3, 1) := by decide +kernel
theorem dX6_groupAt_5 : decode cX6_groupAt 5 = .ok (.aload_n 0, 1) := by decide +kernel
theorem dX6_groupAt_6 : decode cX6_groupAt 6 = .ok (.getfield 22, 3) := by decide +kernel
theorem dX6_groupAt_9 : decode cX6_groupAt 9 = .ok (.iconst 0, 1) := by decide +kernel
theorem dX6_groupAt_10 : decode cX6_groupAt 10 = .ok (.iaload, 1) := by decide +kernel
theorem dX6_groupAt_11 : decode cX6_groupAt 11 = .ok (.if_icmp .ge 66, 3) := by decide +kernel
theorem dX6_groupAt_14 : decode cX6_groupAt 14 = .ok (.iload_n 3, 1) := by decide +kernel
theorem dX6_groupAt_15 : decode cX6_groupAt 15 = .ok (.ifCond .eq 20, 3) := by decide +kernel
theorem dX6_groupAt_18 : decode cX6_groupAt 18 = .ok (.aload_n 0, 1) := by decide +kernel
theorem dX6_groupAt_19 : decode cX6_groupAt 19 = .ok (.iconst 0, 1) := by decide +kernel
theorem dX6_groupAt_20 : decode cX6_groupAt 20 = .ok (.iload_n 3, 1) := by decide +kernel
theorem dX6_groupAt_21 : decode cX6_groupAt 21 = .ok (.invokevirtual 63, 3) := by decide +kernel
theorem dX6_groupAt_24 : decode cX6_groupAt 24 = .ok (.aload_n 0, 1) := by decide +kernel
theorem dX6_groupAt_25 : decode cX6_groupAt 25 = .ok (.iconst 0, 1) := by decide +kernel
theorem dX6_groupAt_26 : decode cX6_groupAt 26 = .ok (.iload_n 3, 1) := by decide +kernel
theorem dX6_groupAt_27 : decode cX6_groupAt 27 = .ok (.iconst 1, 1) := by decide +kernel
theorem dX6_groupAt_28 : decode cX6_groupAt 28 = .ok (.isub, 1) := by decide +kernel
theorem dX6_groupAt_29 : decode cX6_groupAt 29 = .ok (.invokevirtual 63, 3) := by decide +kernel
theorem dX6_groupAt_32 : decode cX6_groupAt 32 = .ok (.if_icmp .eq 7, 3) := by decide +kernel
theorem dX6_groupAt_35 : decode cX6_groupAt 35 = .ok (.iconst 1, 1) := by decide +kernel
theorem dX6_groupAt_36 : decode cX6_groupAt 36 = .ok (.goto 4, 3) := by decide +kernel
theorem dX6_groupAt_39 : decode cX6_groupAt 39 = .ok (.iconst 0, 1) := by decide +kernel
theorem dX6_groupAt_40 : decode cX6_groupAt 40 = .ok (.istore 4, 2) := by decide +kernel
theorem dX6_groupAt_42 : decode cX6_groupAt 42 = .ok (.iload 4, 2) := by decide +kernel
theorem dX6_groupAt_44 : decode cX6_groupAt 44 = .ok (.ifCond .eq 27, 3) := by decide +kernel
theorem dX6_groupAt_47 : decode cX6_groupAt 47 = .ok (.aload_n 0, 1) := by decide +kernel
theorem dX6_groupAt_48 : decode cX6_groupAt 48 = .ok (.iconst 1, 1) := by decide +kernel
theorem dX6_groupAt_49 : decode cX6_groupAt 49 = .ok (.aload_n 0, 1) := by decide +kernel
theorem dX6_groupAt_50 : decode cX6_groupAt 50 = .ok (.iconst 0, 1) := by decide +kernel
theorem dX6_groupAt_51 : decode cX6_groupAt 51 = .ok (.iload_n 3, 1) := by decide +kernel
theorem dX6_groupAt_52 : decode cX6_groupAt 52 = .ok (.invokevirtual 63, 3) := by decide +kernel
theorem dX6_groupAt_55 : decode cX6_groupAt 55 = .ok (.invokevirtual 84, 3) := by decide +kernel
theorem dX6_groupAt_58 : decode cX6_groupAt 58 = .ok (.ifCond .le 13, 3) := by decide +kernel
theorem dX6_groupAt_61 : decode cX6_groupAt 61 = .ok (.iload_n 2, 1) := by decide +kernel
theorem dX6_groupAt_62 : decode cX6_groupAt 62 = .ok (.iload_n 1, 1) := by decide +kernel
theorem dX6_groupAt_63 : decode cX6_groupAt 63 = .ok (.if_icmp .ne 5, 3) := by decide +kernel
theorem dX6_groupAt_66 : decode cX6_groupAt 66 = .ok (.iload_n 3, 1) := by decide +kernel
theorem dX6_groupAt_67 : decode cX6_groupAt 67 = .ok (.ireturn, 1) := by decide +kernel
theorem dX6_groupAt_68 : decode cX6_groupAt 68 = .ok (.iinc 2 1, 3) := by decide +kernel
theorem dX6_groupAt_71 : decode cX6_groupAt 71 = .ok (.iinc 3 1, 3) := by decide +kernel
theorem dX6_groupAt_74 : decode cX6_groupAt 74 = .ok (.goto (-70), 3) := by decide +kernel
theorem dX6_groupAt_77 : decode cX6_groupAt 77 = .ok (.iload_n 2, 1) := by decide +kernel
theorem dX6_groupAt_78 : decode cX6_groupAt 78 = .ok (.ireturn, 1) := by decide +kernel
theorem dX6_groups_0 : decode cX6_groups 0 = .ok (.aload_n 0, 1) := by decide +kernel
theorem dX6_groups_1 : decode cX6_groups 1 = .ok (.aload_n 0, 1) := by decide +kernel
theorem dX6_groups_2 : decode cX6_groups 2 = .ok (.getfield 43, 3) := by decide +kernel
theorem dX6_groups_5 : decode cX6_groups 5 = .ok (.ifCond .eq 7, 3) := by decide +kernel
theorem dX6_groups_8 : decode cX6_groups 8 = .ok (.iconst 0, 1) := by decide +kernel
theorem dX6_groups_9 : decode cX6_groups 9 = .ok (.goto 4, 3) := by decide +kernel
theorem dX6_groups_12 : decode cX6_groups 12 = .ok (.iconst 1, 1) := by decide +kernel
theorem dX6_groups_13 : decode cX6_groups 13 = .ok (.invokevirtual 39, 3) := by decide +kernel
theorem dX6_groups_16 : decode cX6_groups 16 = .ok (.ifCond .eq 5, 3) := by decide +kernel
theorem dX6_groups_19 : decode cX6_groups 19 = .ok (.iconst 0, 1) := by decide +kernel
theorem dX6_groups_20 : decode cX6_groups 20 = .ok (.ireturn, 1) := by decide +kernel
theorem dX6_groups_21 : decode cX6_groups 21 = .ok (.aload_n 0, 1) := by decide +kernel
theorem dX6_groups_22 : decode cX6_groups 22 = .ok (.iconst (-1), 1) := by decide +kernel
theorem dX6_groups_23 : decode cX6_groups 23 = .ok (.invokevirtual 93, 3) := by decide +kernel
theorem dX6_groups_26 : decode cX6_groups 26 = .ok (.istore_n 1, 1) := by decide +kernel
theorem dX6_groups_27 : decode cX6_groups 27 = .ok (.aload_n 0, 1) := by decide +kernel
theorem dX6_groups_28 : decode cX6_groups 28 = .ok (.iload_n 1, 1) := by decide +kernel
theorem dX6_groups_29 : decode cX6_groups 29 = .ok (.aload_n 0, 1) := by decide +kernel
theorem dX6_groups_30 : decode cX6_groups 30 = .ok (.getfield 32, 3) := by decide +kernel
theorem dX6_groups_33 : decode cX6_groups 33 = .ok (.if_icmp .gt 7, 3) := by decide +kernel
theorem dX6_groups_36 : decode cX6_groups 36 = .ok (.iconst 1, 1) := by decide +kernel
theorem dX6_groups_37 : decode cX6_groups 37 = .ok (.goto 4, 3) := by decide +kernel
theorem dX6_groups_40 : decode cX6_groups 40 = .ok (.iconst 0, 1) := by decide +kernel
theorem dX6_groups_41 : decode cX6_groups 41 = .ok (.putfield 47, 3) := by decide +kernel
theorem dX6_groups_44 : decode cX6_groups 44 = .ok (.aload_n 0, 1) := by decide +kernel
theorem dX6_groups_45 : decode cX6_groups 45 = .ok (.aload_n 0, 1) := by decide +kernel
theorem dX6_groups_46 : decode cX6_groups 46 = .ok (.getfield 47, 3) := by decide +kernel
theorem dX6_groups_49 : decode cX6_groups 49 = .ok (.ifCond .eq 7, 3) := by decide +kernel
theorem dX6_groups_52 : decode cX6_groups 52 = .ok (.iconst 0, 1) := by decide +kernel
theorem dX6_groups_53 : decode cX6_groups 53 = .ok (.goto 4, 3) := by decide +kernel
theorem dX6_groups_56 : decode cX6_groups 56 = .ok (.iconst 2, 1) := by decide +kernel
theorem dX6_groups_57 : decode cX6_groups 57 = .ok (.invokevirtual 39, 3) := by decide +kernel
theorem dX6_groups_60 : decode cX6_groups 60 = .ok (.ifCond .eq 7, 3) := by decide +kernel
theorem dX6_groups_63 : decode cX6_groups 63 = .ok (.iconst 0, 1) := by decide +kernel
theorem dX6_groups_64 : decode cX6_groups 64 = .ok (.goto 4, 3) := by decide +kernel
theorem dX6_groups_67 : decode cX6_groups 67 = .ok (.iload_n 1, 1) := by decide +kernel
theorem dX6_groups_68 : decode cX6_groups 68 = .ok (.ireturn, 1) := by decide +kernel
theorem dX6_group_0 : decode cX6_group 0 = .ok (.aload_n 0, 1) := by decide +kernel
theorem dX6_group_1 : decode cX6_group 1 = .ok (.getfield 43, 3) := by decide +kernel
theorem dX6_group_4 : decode cX6_group 4 = .ok (.ifCond .eq 14, 3) := by decide +kernel
theorem dX6_group_7 : decode cX6_group 7 = .ok (.aload_n 0, 1) := by decide +kernel
theorem dX6_group_8 : decode cX6_group 8 = .ok (.getfield 47, 3) := by decide +kernel
theorem dX6_group_11 : decode cX6_group 11 = .ok (.ifCond .eq 7, 3) := by decide +kernel
theorem dX6_group_14 : decode cX6_group 14 = .ok (.iconst 1, 1) := by decide +kernel
theorem dX6_group_15 : decode cX6_group 15 = .ok (.goto 4, 3) := by decide +kernel
theorem dX6_group_18 : decode cX6_group 18 = .ok (.iconst 0, 1) := by decide +kernel
theorem dX6_group_19 : decode cX6_group 19 = .ok (.istore_n 3, 1) := by decide +kernel
theorem dX6_group_20 : decode cX6_group 20 = .ok (.aload_n 0, 1) := by decide +kernel
theorem dX6_group_21 : decode cX6_group 21 = .ok (.iload_n 1, 1) := by decide +kernel
theorem dX6_group_22 : decode cX6_group 22 = .ok (.ifCond .lt 25, 3) := by decide +kernel
theorem dX6_group_25 : decode cX6_group 25 = .ok (.iload_n 2, 1) := by decide +kernel
theorem dX6_group_26 : decode cX6_group 26 = .ok (.ifCond .lt 21, 3) := by decide +kernel
theorem dX6_group_29 : decode cX6_group 29 = .ok (.iload_n 2, 1) := by decide +kernel
theorem dX6_group_30 : decode cX6_group 30 = .ok (.iconst 4, 1) := by decide +kernel
theorem dX6_group_31 : decode cX6_group 31 = .ok (.if_icmp .gt 16, 3) := by decide +kernel
theorem dX6_group_34 : decode cX6_group 34 = .ok (.iload_n 3, 1) := by decide +kernel
theorem dX6_group_35 : decode cX6_group 35 = .ok (.ifCond .eq 16, 3) := by decide +kernel
theorem dX6_group_38 : decode cX6_group 38 = .ok (.iload_n 1, 1) := by decide +kernel
theorem dX6_group_39 : decode cX6_group 39 = .ok (.aload_n 0, 1) := by decide +kernel
theorem dX6_group_40 : decode cX6_group 40 = .ok (.iconst (-1), 1) := by decide +kernel
theorem dX6_group_41 : decode cX6_group 41 = .ok (.invokevirtual 93, 3) := by decide +kernel
theorem dX6_group_44 : decode cX6_group 44 = .ok (.if_icmp .lt 7, 3) := by decide +kernel
theorem dX6_group_47 : decode cX6_group 47 = .ok (.iconst 1, 1) := by decide +kernel
theorem dX6_group_48 : decode cX6_group 48 = .ok (.goto 12, 3) := by decide +kernel
theorem dX6_group_51 : decode cX6_group 51 = .ok (.iload_n 3, 1) := by decide +kernel
theorem dX6_group_52 : decode cX6_group 52 = .ok (.ifCond .eq 7, 3) := by decide +kernel
theorem dX6_group_55 : decode cX6_group 55 = .ok (.iconst 0, 1) := by decide +kernel
theorem dX6_group_56 : decode cX6_group 56 = .ok (.goto 4, 3) := by decide +kernel
theorem dX6_group_59 : decode cX6_group 59 = .ok (.iconst 2, 1) := by decide +kernel
theorem dX6_group_60 : decode cX6_group 60 = .ok (.invokevirtual 39, 3) := by decide +kernel
theorem dX6_group_63 : decode cX6_group 63 = .ok (.ifCond .eq 5, 3) := by decide +kernel
theorem dX6_group_66 : decode cX6_group 66 = .ok (.lconst 0, 1) := by decide +kernel
theorem dX6_group_67 : decode cX6_group 67 = .ok (.lreturn, 1) := by decide +kernel
theorem dX6_group_68 : decode cX6_group 68 = .ok (.aload_n 0, 1) := by decide +kernel
theorem dX6_group_69 : decode cX6_group 69 = .ok (.iconst 0, 1) := by decide +kernel
theorem dX6_group_70 : decode cX6_group 70 = .ok (.aload_n 0, 1) := by decide +kernel
theorem dX6_group_71 : decode cX6_group 71 = .ok (.iload_n 1, 1) := by decide +kernel
theorem dX6_group_72 : decode cX6_group 72 = .ok (.invokevirtual 93, 3) := by decide +kernel
theorem dX6_group_75 : decode cX6_group 75 = .ok (.invokevirtual 63, 3) := by decide +kernel
theorem dX6_group_78 : decode cX6_group 78 = .ok (.istore 4, 2) := by decide +kernel
theorem dX6_group_80 : decode cX6_group 80 = .ok (.lconst 0, 1) := by decide +kernel
theorem dX6_group_81 : decode cX6_group 81 = .ok (.lstore 5, 2) := by decide +kernel
theorem dX6_group_83 : decode cX6_group 83 = .ok (.lconst 0, 1) := by decide +kernel
theorem dX6_group_84 : decode cX6_group 84 = .ok (.lstore 7, 2) := by decide +kernel
theorem dX6_group_86 : decode cX6_group 86 = .ok (.aload_n 0, 1) := by decide +kernel
theorem dX6_group_87 : decode cX6_group 87 = .ok (.ldc2_w 96, 3) := by decide +kernel
theorem dX6_group_90 : decode cX6_group 90 = .ok (.putfield 98, 3) := by decide +kernel
theorem dX6_group_93 : decode cX6_group 93 = .ok (.aload_n 0, 1) := by decide +kernel
theorem dX6_group_94 : decode cX6_group 94 = .ok (.ldc2_w 101, 3) := by decide +kernel
theorem dX6_group_97 : decode cX6_group 97 = .ok (.putfield 103, 3) := by decide +kernel
theorem dX6_group_100 : decode cX6_group 100 = .ok (.iconst 0, 1) := by decide +kernel
theorem dX6_group_101 : decode cX6_group 101 = .ok (.istore 9, 2) := by decide +kernel
theorem dX6_group_103 : decode cX6_group 103 = .ok (.iload 9, 2) := by decide +kernel
theorem dX6_group_105 : decode cX6_group 105 = .ok (.aload_n 0, 1) := by decide +kernel
theorem dX6_group_106 : decode cX6_group 106 = .ok (.getfield 22, 3) := by decide +kernel
theorem dX6_group_109 : decode cX6_group 109 = .ok (.iconst 0, 1) := by decide +kernel
theorem dX6_group_110 : decode cX6_group 110 = .ok (.iaload, 1) := by decide +kernel
theorem dX6_group_111 : decode cX6_group 111 = .ok (.if_icmp .ge 139, 3) := by decide +kernel
theorem dX6_group_114 : decode cX6_group 114 = .ok (.iconst 0, 1) := by decide +kernel
theorem dX6_group_115 : decode cX6_group 115 = .ok (.istore 10, 2) := by decide +kernel
theorem dX6_group_117 : decode cX6_group 117 = .ok (.iload 10, 2) := by decide +kernel
theorem dX6_group_119 : decode cX6_group 119 = .ok (.aload_n 0, 1) := by decide +kernel
theorem dX6_group_120 : decode cX6_group 120 = .ok (.getfield 22, 3) := by decide +kernel
theorem dX6_group_123 : decode cX6_group 123 = .ok (.iconst 1, 1) := by decide +kernel
theorem dX6_group_124 : decode cX6_group 124 = .ok (.iaload, 1) := by decide +kernel
theorem dX6_group_125 : decode cX6_group 125 = .ok (.if_icmp .ge 119, 3) := by decide +kernel
theorem dX6_group_128 : decode cX6_group 128 = .ok (.aload_n 0, 1) := by decide +kernel
theorem dX6_group_129 : decode cX6_group 129 = .ok (.getfield 13, 3) := by decide +kernel
theorem dX6_group_132 : decode cX6_group 132 = .ok (.iload 9, 2) := by decide +kernel
theorem dX6_group_134 : decode cX6_group 134 = .ok (.iaload, 1) := by decide +kernel
theorem dX6_group_135 : decode cX6_group 135 = .ok (.iload 4, 2) := by decide +kernel
theorem dX6_group_137 : decode cX6_group 137 = .ok (.if_icmp .ne 107, 3) := by decide +kernel
theorem dX6_group_140 : decode cX6_group 140 = .ok (.aload_n 0, 1) := by decide +kernel
theorem dX6_group_141 : decode cX6_group 141 = .ok (.getfield 13, 3) := by decide +kernel
theorem dX6_group_144 : decode cX6_group 144 = .ok (.sipush 400, 3) := by decide +kernel
theorem dX6_group_147 : decode cX6_group 147 = .ok (.iload 10, 2) := by decide +kernel
theorem dX6_group_149 : decode cX6_group 149 = .ok (.iadd, 1) := by decide +kernel
theorem dX6_group_150 : decode cX6_group 150 = .ok (.iaload, 1) := by decide +kernel
theorem dX6_group_151 : decode cX6_group 151 = .ok (.iload 4, 2) := by decide +kernel
theorem dX6_group_153 : decode cX6_group 153 = .ok (.if_icmp .ne 85, 3) := by decide +kernel
theorem dX6_group_156 : decode cX6_group 156 = .ok (.aload_n 0, 1) := by decide +kernel
theorem dX6_group_157 : decode cX6_group 157 = .ok (.getfield 16, 3) := by decide +kernel
theorem dX6_group_160 : decode cX6_group 160 = .ok (.iload 9, 2) := by decide +kernel
theorem dX6_group_162 : decode cX6_group 162 = .ok (.iaload, 1) := by decide +kernel
theorem dX6_group_163 : decode cX6_group 163 = .ok (.i2l, 1) := by decide +kernel
theorem dX6_group_164 : decode cX6_group 164 = .ok (.aload_n 0, 1) := by decide +kernel
theorem dX6_group_165 : decode cX6_group 165 = .ok (.getfield 16, 3) := by decide +kernel
theorem dX6_group_168 : decode cX6_group 168 = .ok (.sipush 400, 3) := by decide +kernel
theorem dX6_group_171 : decode cX6_group 171 = .ok (.iload 10, 2) := by decide +kernel
theorem dX6_group_173 : decode cX6_group 173 = .ok (.iadd, 1) := by decide +kernel
theorem dX6_group_174 : decode cX6_group 174 = .ok (.iaload, 1) := by decide +kernel
theorem dX6_group_175 : decode cX6_group 175 = .ok (.i2l, 1) := by decide +kernel
theorem dX6_group_176 : decode cX6_group 176 = .ok (.lmul, 1) := by decide +kernel
theorem dX6_group_177 : decode cX6_group 177 = .ok (.lstore 11, 2) := by decide +kernel
theorem dX6_group_179 : decode cX6_group 179 = .ok (.lload 5, 2) := by decide +kernel
theorem dX6_group_181 : decode cX6_group 181 = .ok (.lload 11, 2) := by decide +kernel
theorem dX6_group_183 : decode cX6_group 183 = .ok (.ladd, 1) := by decide +kernel
theorem dX6_group_184 : decode cX6_group 184 = .ok (.lstore 5, 2) := by decide +kernel
theorem dX6_group_186 : decode cX6_group 186 = .ok (.lload 7, 2) := by decide +kernel
theorem dX6_group_188 : decode cX6_group 188 = .ok (.lconst 1, 1) := by decide +kernel
theorem dX6_group_189 : decode cX6_group 189 = .ok (.ladd, 1) := by decide +kernel
theorem dX6_group_190 : decode cX6_group 190 = .ok (.lstore 7, 2) := by decide +kernel
theorem dX6_group_192 : decode cX6_group 192 = .ok (.aload_n 0, 1) := by decide +kernel
theorem dX6_group_193 : decode cX6_group 193 = .ok (.lload 11, 2) := by decide +kernel
theorem dX6_group_195 : decode cX6_group 195 = .ok (.aload_n 0, 1) := by decide +kernel
theorem dX6_group_196 : decode cX6_group 196 = .ok (.getfield 98, 3) := by decide +kernel
theorem dX6_group_199 : decode cX6_group 199 = .ok (.lcmp, 1) := by decide +kernel
theorem dX6_group_200 : decode cX6_group 200 = .ok (.ifCond .ge 8, 3) := by decide +kernel
theorem dX6_group_203 : decode cX6_group 203 = .ok (.lload 11, 2) := by decide +kernel
theorem dX6_group_205 : decode cX6_group 205 = .ok (.goto 7, 3) := by decide +kernel
theorem dX6_group_208 : decode cX6_group 208 = .ok (.aload_n 0, 1) := by decide +kernel
theorem dX6_group_209 : decode cX6_group 209 = .ok (.getfield 98, 3) := by decide +kernel
theorem dX6_group_212 : decode cX6_group 212 = .ok (.putfield 98, 3) := by decide +kernel
theorem dX6_group_215 : decode cX6_group 215 = .ok (.aload_n 0, 1) := by decide +kernel
theorem dX6_group_216 : decode cX6_group 216 = .ok (.lload 11, 2) := by decide +kernel
theorem dX6_group_218 : decode cX6_group 218 = .ok (.aload_n 0, 1) := by decide +kernel
theorem dX6_group_219 : decode cX6_group 219 = .ok (.getfield 103, 3) := by decide +kernel
theorem dX6_group_222 : decode cX6_group 222 = .ok (.lcmp, 1) := by decide +kernel
theorem dX6_group_223 : decode cX6_group 223 = .ok (.ifCond .le 8, 3) := by decide +kernel
theorem dX6_group_226 : decode cX6_group 226 = .ok (.lload 11, 2) := by decide +kernel
theorem dX6_group_228 : decode cX6_group 228 = .ok (.goto 7, 3) := by decide +kernel
theorem dX6_group_231 : decode cX6_group 231 = .ok (.aload_n 0, 1) := by decide +kernel
theorem dX6_group_232 : decode cX6_group 232 = .ok (.getfield 103, 3) := by decide +kernel
theorem dX6_group_235 : decode cX6_group 235 = .ok (.putfield 103, 3) := by decide +kernel
theorem dX6_group_238 : decode cX6_group 238 = .ok (.iinc 10 1, 3) := by decide +kernel
theorem dX6_group_241 : decode cX6_group 241 = .ok (.goto (-124), 3) := by decide +kernel
theorem dX6_group_244 : decode cX6_group 244 = .ok (.iinc 9 1, 3) := by decide +kernel
theorem dX6_group_247 : decode cX6_group 247 = .ok (.goto (-144), 3) := by decide +kernel
theorem dX6_group_250 : decode cX6_group 250 = .ok (.iload_n 2, 1) := by decide +kernel
theorem dX6_group_251 : decode cX6_group 251 = .ok (.ifCond .ne 9, 3) := by decide +kernel
theorem dX6_group_254 : decode cX6_group 254 = .ok (.iload 4, 2) := by decide +kernel
theorem dX6_group_256 : decode cX6_group 256 = .ok (.i2l, 1) := by decide +kernel
theorem dX6_group_257 : decode cX6_group 257 = .ok (.goto 39, 3) := by decide +kernel
theorem dX6_group_260 : decode cX6_group 260 = .ok (.iload_n 2, 1) := by decide +kernel
theorem dX6_group_261 : decode cX6_group 261 = .ok (.iconst 1, 1) := by decide +kernel
theorem dX6_group_262 : decode cX6_group 262 = .ok (.if_icmp .ne 8, 3) := by decide +kernel
theorem dX6_group_265 : decode cX6_group 265 = .ok (.lload 7, 2) := by decide +kernel
theorem dX6_group_267 : decode cX6_group 267 = .ok (.goto 29, 3) := by decide +kernel
theorem dX6_group_270 : decode cX6_group 270 = .ok (.iload_n 2, 1) := by decide +kernel
theorem dX6_group_271 : decode cX6_group 271 = .ok (.iconst 2, 1) := by decide +kernel
theorem dX6_group_272 : decode cX6_group 272 = .ok (.if_icmp .ne 8, 3) := by decide +kernel
theorem dX6_group_275 : decode cX6_group 275 = .ok (.lload 5, 2) := by decide +kernel
theorem dX6_group_277 : decode cX6_group 277 = .ok (.goto 19, 3) := by decide +kernel
theorem dX6_group_280 : decode cX6_group 280 = .ok (.iload_n 2, 1) := by decide +kernel
theorem dX6_group_281 : decode cX6_group 281 = .ok (.iconst 3, 1) := by decide +kernel
theorem dX6_group_282 : decode cX6_group 282 = .ok (.if_icmp .ne 10, 3) := by decide +kernel
theorem dX6_group_285 : decode cX6_group 285 = .ok (.aload_n 0, 1) := by decide +kernel
theorem dX6_group_286 : decode cX6_group 286 = .ok (.getfield 98, 3) := by decide +kernel
theorem dX6_group_289 : decode cX6_group 289 = .ok (.goto 7, 3) := by decide +kernel
theorem dX6_group_292 : decode cX6_group 292 = .ok (.aload_n 0, 1) := by decide +kernel
theorem dX6_group_293 : decode cX6_group 293 = .ok (.getfield 103, 3) := by decide +kernel
theorem dX6_group_296 : decode cX6_group 296 = .ok (.lreturn, 1) := by decide +kernel
theorem dX6_sorted_0 : decode cX6_sorted 0 = .ok (.iload_n 1, 1) := by decide +kernel
theorem dX6_sorted_1 : decode cX6_sorted 1 = .ok (.ifCond .eq 7, 3) := by decide +kernel
theorem dX6_sorted_4 : decode cX6_sorted 4 = .ok (.iconst 0, 1) := by decide +kernel
theorem dX6_sorted_5 : decode cX6_sorted 5 = .ok (.goto 4, 3) := by decide +kernel
theorem dX6_sorted_8 : decode cX6_sorted 8 = .ok (.iconst 1, 1) := by decide +kernel
theorem dX6_sorted_9 : decode cX6_sorted 9 = .ok (.istore 4, 2) := by decide +kernel
theorem dX6_sorted_11 : decode cX6_sorted 11 = .ok (.aload_n 0, 1) := by decide +kernel
theorem dX6_sorted_12 : decode cX6_sorted 12 = .ok (.iload_n 2, 1) := by decide +kernel
theorem dX6_sorted_13 : decode cX6_sorted 13 = .ok (.ifCond .lt 23, 3) := by decide +kernel
theorem dX6_sorted_16 : decode cX6_sorted 16 = .ok (.iload_n 2, 1) := by decide +kernel
theorem dX6_sorted_17 : decode cX6_sorted 17 = .ok (.aload_n 0, 1) := by decide +kernel
theorem dX6_sorted_18 : decode cX6_sorted 18 = .ok (.getfield 22, 3) := by decide +kernel
theorem dX6_sorted_21 : decode cX6_sorted 21 = .ok (.iload 4, 2) := by decide +kernel
theorem dX6_sorted_23 : decode cX6_sorted 23 = .ok (.iaload, 1) := by decide +kernel
theorem dX6_sorted_24 : decode cX6_sorted 24 = .ok (.if_icmp .ge 12, 3) := by decide +kernel
theorem dX6_sorted_27 : decode cX6_sorted 27 = .ok (.iload_n 3, 1) := by decide +kernel
theorem dX6_sorted_28 : decode cX6_sorted 28 = .ok (.ifCond .lt 8, 3) := by decide +kernel
theorem dX6_sorted_31 : decode cX6_sorted 31 = .ok (.iload_n 3, 1) := by decide +kernel
theorem dX6_sorted_32 : decode cX6_sorted 32 = .ok (.iconst 2, 1) := by decide +kernel
theorem dX6_sorted_33 : decode cX6_sorted 33 = .ok (.if_icmp .le 7, 3) := by decide +kernel
theorem dX6_sorted_36 : decode cX6_sorted 36 = .ok (.iconst 1, 1) := by decide +kernel
theorem dX6_sorted_37 : decode cX6_sorted 37 = .ok (.goto 15, 3) := by decide +kernel
theorem dX6_sorted_40 : decode cX6_sorted 40 = .ok (.aload_n 0, 1) := by decide +kernel
theorem dX6_sorted_41 : decode cX6_sorted 41 = .ok (.getfield 43, 3) := by decide +kernel
theorem dX6_sorted_44 : decode cX6_sorted 44 = .ok (.ifCond .eq 7, 3) := by decide +kernel
theorem dX6_sorted_47 : decode cX6_sorted 47 = .ok (.iconst 0, 1) := by decide +kernel
theorem dX6_sorted_48 : decode cX6_sorted 48 = .ok (.goto 4, 3) := by decide +kernel
theorem dX6_sorted_51 : decode cX6_sorted 51 = .ok (.iconst 2, 1) := by decide +kernel
theorem dX6_sorted_52 : decode cX6_sorted 52 = .ok (.invokevirtual 39, 3) := by decide +kernel
theorem dX6_sorted_55 : decode cX6_sorted 55 = .ok (.ifCond .eq 5, 3) := by decide +kernel
theorem dX6_sorted_58 : decode cX6_sorted 58 = .ok (.iconst 0, 1) := by decide +kernel
theorem dX6_sorted_59 : decode cX6_sorted 59 = .ok (.ireturn, 1) := by decide +kernel
theorem dX6_sorted_60 : decode cX6_sorted 60 = .ok (.iload_n 3, 1) := by decide +kernel
theorem dX6_sorted_61 : decode cX6_sorted 61 = .ok (.ifCond .ne 13, 3) := by decide +kernel
theorem dX6_sorted_64 : decode cX6_sorted 64 = .ok (.aload_n 0, 1) := by decide +kernel
theorem dX6_sorted_65 : decode cX6_sorted 65 = .ok (.iload 4, 2) := by decide +kernel
theorem dX6_sorted_67 : decode cX6_sorted 67 = .ok (.iload_n 2, 1) := by decide +kernel
theorem dX6_sorted_68 : decode cX6_sorted 68 = .ok (.invokevirtual 63, 3) := by decide +kernel
theorem dX6_sorted_71 : decode cX6_sorted 71 = .ok (.goto 31, 3) := by decide +kernel
theorem dX6_sorted_74 : decode cX6_sorted 74 = .ok (.iload_n 3, 1) := by decide +kernel
theorem dX6_sorted_75 : decode cX6_sorted 75 = .ok (.iconst 1, 1) := by decide +kernel
theorem dX6_sorted_76 : decode cX6_sorted 76 = .ok (.if_icmp .ne 13, 3) := by decide +kernel
theorem dX6_sorted_79 : decode cX6_sorted 79 = .ok (.aload_n 0, 1) := by decide +kernel
theorem dX6_sorted_80 : decode cX6_sorted 80 = .ok (.iload 4, 2) := by decide +kernel
theorem dX6_sorted_82 : decode cX6_sorted 82 = .ok (.iload_n 2, 1) := by decide +kernel
theorem dX6_sorted_83 : decode cX6_sorted 83 = .ok (.invokevirtual 81, 3) := by decide +kernel
theorem dX6_sorted_86 : decode cX6_sorted 86 = .ok (.goto 16, 3) := by decide +kernel
theorem dX6_sorted_89 : decode cX6_sorted 89 = .ok (.aload_n 0, 1) := by decide +kernel
theorem dX6_sorted_90 : decode cX6_sorted 90 = .ok (.getfield 19, 3) := by decide +kernel
theorem dX6_sorted_93 : decode cX6_sorted 93 = .ok (.sipush 400, 3) := by decide +kernel
theorem dX6_sorted_96 : decode cX6_sorted 96 = .ok (.iload 4, 2) := by decide +kernel
theorem dX6_sorted_98 : decode cX6_sorted 98 = .ok (.imul, 1) := by decide +kernel
theorem dX6_sorted_99 : decode cX6_sorted 99 = .ok (.iload_n 2, 1) := by decide +kernel
theorem dX6_sorted_100 : decode cX6_sorted 100 = .ok (.iadd, 1) := by decide +kernel
theorem dX6_sorted_101 : decode cX6_sorted 101 = .ok (.iaload, 1) := by decide +kernel
theorem dX6_sorted_102 : decode cX6_sorted 102 = .ok (.ireturn, 1) := by decide +kernel
theorem dX6_about_0 : decode cX6_about 0 = .ok (.aload_n 0, 1) := by decide +kernel
theorem dX6_about_1 : decode cX6_about 1 = .ok (.iload_n 1, 1) := by decide +kernel
theorem dX6_about_2 : decode cX6_about 2 = .ok (.ifCond .lt 8, 3) := by decide +kernel
theorem dX6_about_5 : decode cX6_about 5 = .ok (.iload_n 1, 1) := by decide +kernel
theorem dX6_about_6 : decode cX6_about 6 = .ok (.iconst 4, 1) := by decide +kernel
theorem dX6_about_7 : decode cX6_about 7 = .ok (.if_icmp .le 7, 3) := by decide +kernel
theorem dX6_about_10 : decode cX6_about 10 = .ok (.iconst 1, 1) := by decide +kernel
theorem dX6_about_11 : decode cX6_about 11 = .ok (.goto 4, 3) := by decide +kernel
theorem dX6_about_14 : decode cX6_about 14 = .ok (.iconst 0, 1) := by decide +kernel
theorem dX6_about_15 : decode cX6_about 15 = .ok (.invokevirtual 39, 3) := by decide +kernel
theorem dX6_about_18 : decode cX6_about 18 = .ok (.ifCond .eq 5, 3) := by decide +kernel
theorem dX6_about_21 : decode cX6_about 21 = .ok (.lconst 0, 1) := by decide +kernel
theorem dX6_about_22 : decode cX6_about 22 = .ok (.lreturn, 1) := by decide +kernel
theorem dX6_about_23 : decode cX6_about 23 = .ok (.iload_n 1, 1) := by decide +kernel
theorem dX6_about_24 : decode cX6_about 24 = .ok (.ifCond .ne 10, 3) := by decide +kernel
theorem dX6_about_27 : decode cX6_about 27 = .ok (.aload_n 0, 1) := by decide +kernel
theorem dX6_about_28 : decode cX6_about 28 = .ok (.getfield 53, 3) := by decide +kernel
theorem dX6_about_31 : decode cX6_about 31 = .ok (.goto 45, 3) := by decide +kernel
theorem dX6_about_34 : decode cX6_about 34 = .ok (.iload_n 1, 1) := by decide +kernel
theorem dX6_about_35 : decode cX6_about 35 = .ok (.iconst 3, 1) := by decide +kernel
theorem dX6_about_36 : decode cX6_about 36 = .ok (.if_icmp .ge 15, 3) := by decide +kernel
theorem dX6_about_39 : decode cX6_about 39 = .ok (.aload_n 0, 1) := by decide +kernel
theorem dX6_about_40 : decode cX6_about 40 = .ok (.getfield 22, 3) := by decide +kernel
theorem dX6_about_43 : decode cX6_about 43 = .ok (.iload_n 1, 1) := by decide +kernel
theorem dX6_about_44 : decode cX6_about 44 = .ok (.iconst 1, 1) := by decide +kernel
theorem dX6_about_45 : decode cX6_about 45 = .ok (.isub, 1) := by decide +kernel
theorem dX6_about_46 : decode cX6_about 46 = .ok (.iaload, 1) := by decide +kernel
theorem dX6_about_47 : decode cX6_about 47 = .ok (.i2l, 1) := by decide +kernel
theorem dX6_about_48 : decode cX6_about 48 = .ok (.goto 28, 3) := by decide +kernel
theorem dX6_about_51 : decode cX6_about 51 = .ok (.iload_n 1, 1) := by decide +kernel
theorem dX6_about_52 : decode cX6_about 52 = .ok (.iconst 3, 1) := by decide +kernel
theorem dX6_about_53 : decode cX6_about 53 = .ok (.if_icmp .ne 18, 3) := by decide +kernel
theorem dX6_about_56 : decode cX6_about 56 = .ok (.aload_n 0, 1) := by decide +kernel
theorem dX6_about_57 : decode cX6_about 57 = .ok (.getfield 43, 3) := by decide +kernel
theorem dX6_about_60 : decode cX6_about 60 = .ok (.ifCond .eq 7, 3) := by decide +kernel
theorem dX6_about_63 : decode cX6_about 63 = .ok (.lconst 1, 1) := by decide +kernel
theorem dX6_about_64 : decode cX6_about 64 = .ok (.goto 12, 3) := by decide +kernel
theorem dX6_about_67 : decode cX6_about 67 = .ok (.lconst 0, 1) := by decide +kernel
theorem dX6_about_68 : decode cX6_about 68 = .ok (.goto 8, 3) := by decide +kernel
theorem dX6_about_71 : decode cX6_about 71 = .ok (.aload_n 0, 1) := by decide +kernel
theorem dX6_about_72 : decode cX6_about 72 = .ok (.getfield 60, 3) := by decide +kernel
theorem dX6_about_75 : decode cX6_about 75 = .ok (.i2l, 1) := by decide +kernel
theorem dX6_about_76 : decode cX6_about 76 = .ok (.lreturn, 1) := by decide +kernel
theorem dX6_clear_0 : decode cX6_clear 0 = .ok (.aload_n 0, 1) := by decide +kernel
theorem dX6_clear_1 : decode cX6_clear 1 = .ok (.iconst 0, 1) := by decide +kernel
theorem dX6_clear_2 : decode cX6_clear 2 = .ok (.putfield 36, 3) := by decide +kernel
theorem dX6_clear_5 : decode cX6_clear 5 = .ok (.aload_n 0, 1) := by decide +kernel
theorem dX6_clear_6 : decode cX6_clear 6 = .ok (.getfield 22, 3) := by decide +kernel
theorem dX6_clear_9 : decode cX6_clear 9 = .ok (.iconst 0, 1) := by decide +kernel
theorem dX6_clear_10 : decode cX6_clear 10 = .ok (.iconst 0, 1) := by decide +kernel
theorem dX6_clear_11 : decode cX6_clear 11 = .ok (.iastore, 1) := by decide +kernel
theorem dX6_clear_12 : decode cX6_clear 12 = .ok (.aload_n 0, 1) := by decide +kernel
theorem dX6_clear_13 : decode cX6_clear 13 = .ok (.getfield 22, 3) := by decide +kernel
theorem dX6_clear_16 : decode cX6_clear 16 = .ok (.iconst 1, 1) := by decide +kernel
theorem dX6_clear_17 : decode cX6_clear 17 = .ok (.iconst 0, 1) := by decide +kernel
theorem dX6_clear_18 : decode cX6_clear 18 = .ok (.iastore, 1) := by decide +kernel
theorem dX6_clear_19 : decode cX6_clear 19 = .ok (.aload_n 0, 1) := by decide +kernel
theorem dX6_clear_20 : decode cX6_clear 20 = .ok (.iconst 0, 1) := by decide +kernel
theorem dX6_clear_21 : decode cX6_clear 21 = .ok (.putfield 60, 3) := by decide +kernel
theorem dX6_clear_24 : decode cX6_clear 24 = .ok (.aload_n 0, 1) := by decide +kernel
theorem dX6_clear_25 : decode cX6_clear 25 = .ok (.iconst 0, 1) := by decide +kernel
theorem dX6_clear_26 : decode cX6_clear 26 = .ok (.putfield 43, 3) := by decide +kernel
theorem dX6_clear_29 : decode cX6_clear 29 = .ok (.aload_n 0, 1) := by decide +kernel
theorem dX6_clear_30 : decode cX6_clear 30 = .ok (.iconst 0, 1) := by decide +kernel
theorem dX6_clear_31 : decode cX6_clear 31 = .ok (.putfield 47, 3) := by decide +kernel
theorem dX6_clear_34 : decode cX6_clear 34 = .ok (.aload_n 0, 1) := by decide +kernel
theorem dX6_clear_35 : decode cX6_clear 35 = .ok (.iconst 0, 1) := by decide +kernel
theorem dX6_clear_36 : decode cX6_clear 36 = .ok (.putfield 57, 3) := by decide +kernel
theorem dX6_clear_39 : decode cX6_clear 39 = .ok (.aload_n 0, 1) := by decide +kernel
theorem dX6_clear_40 : decode cX6_clear 40 = .ok (.lconst 0, 1) := by decide +kernel
theorem dX6_clear_41 : decode cX6_clear 41 = .ok (.putfield 53, 3) := by decide +kernel
theorem dX6_clear_44 : decode cX6_clear 44 = .ok (.aload_n 0, 1) := by decide +kernel
theorem dX6_clear_45 : decode cX6_clear 45 = .ok (.invokevirtual 50, 3) := by decide +kernel
theorem dX6_clear_48 : decode cX6_clear 48 = .ok (.return_, 1) := by decide +kernel

theorem dX6_init_0 : decode cX6_init 0 = .ok (.aload_n 0, 1) := by decide +kernel
theorem dX6_init_1 : decode cX6_init 1 = .ok (.invokespecial 1, 3) := by decide +kernel
theorem dX6_init_4 : decode cX6_init 4 = .ok (.aload_n 0, 1) := by decide +kernel
theorem dX6_init_5 : decode cX6_init 5 = .ok (.iconst 2, 1) := by decide +kernel
theorem dX6_init_6 : decode cX6_init 6 = .ok (.newarray .int, 2) := by decide +kernel
theorem dX6_init_8 : decode cX6_init 8 = .ok (.putfield 7, 3) := by decide +kernel
theorem dX6_init_11 : decode cX6_init 11 = .ok (.aload_n 0, 1) := by decide +kernel
theorem dX6_init_12 : decode cX6_init 12 = .ok (.sipush 800, 3) := by decide +kernel
theorem dX6_init_15 : decode cX6_init 15 = .ok (.newarray .int, 2) := by decide +kernel
theorem dX6_init_17 : decode cX6_init 17 = .ok (.putfield 13, 3) := by decide +kernel
theorem dX6_init_20 : decode cX6_init 20 = .ok (.aload_n 0, 1) := by decide +kernel
theorem dX6_init_21 : decode cX6_init 21 = .ok (.sipush 800, 3) := by decide +kernel
theorem dX6_init_24 : decode cX6_init 24 = .ok (.newarray .int, 2) := by decide +kernel
theorem dX6_init_26 : decode cX6_init 26 = .ok (.putfield 16, 3) := by decide +kernel
theorem dX6_init_29 : decode cX6_init 29 = .ok (.aload_n 0, 1) := by decide +kernel
theorem dX6_init_30 : decode cX6_init 30 = .ok (.sipush 800, 3) := by decide +kernel
theorem dX6_init_33 : decode cX6_init 33 = .ok (.newarray .int, 2) := by decide +kernel
theorem dX6_init_35 : decode cX6_init 35 = .ok (.putfield 19, 3) := by decide +kernel
theorem dX6_init_38 : decode cX6_init 38 = .ok (.aload_n 0, 1) := by decide +kernel
theorem dX6_init_39 : decode cX6_init 39 = .ok (.iconst 2, 1) := by decide +kernel
theorem dX6_init_40 : decode cX6_init 40 = .ok (.newarray .int, 2) := by decide +kernel
theorem dX6_init_42 : decode cX6_init 42 = .ok (.putfield 22, 3) := by decide +kernel
theorem dX6_init_45 : decode cX6_init 45 = .ok (.aload_n 0, 1) := by decide +kernel
theorem dX6_init_46 : decode cX6_init 46 = .ok (.bipush 24, 2) := by decide +kernel
theorem dX6_init_48 : decode cX6_init 48 = .ok (.newarray .int, 2) := by decide +kernel
theorem dX6_init_50 : decode cX6_init 50 = .ok (.putfield 25, 3) := by decide +kernel
theorem dX6_init_53 : decode cX6_init 53 = .ok (.aload_n 0, 1) := by decide +kernel
theorem dX6_init_54 : decode cX6_init 54 = .ok (.getfield 7, 3) := by decide +kernel
theorem dX6_init_57 : decode cX6_init 57 = .ok (.iconst 0, 1) := by decide +kernel
theorem dX6_init_58 : decode cX6_init 58 = .ok (.iload_n 1, 1) := by decide +kernel
theorem dX6_init_59 : decode cX6_init 59 = .ok (.invokestatic 28, 3) := by decide +kernel
theorem dX6_init_62 : decode cX6_init 62 = .ok (.iastore, 1) := by decide +kernel
theorem dX6_init_63 : decode cX6_init 63 = .ok (.aload_n 0, 1) := by decide +kernel
theorem dX6_init_64 : decode cX6_init 64 = .ok (.getfield 7, 3) := by decide +kernel
theorem dX6_init_67 : decode cX6_init 67 = .ok (.iconst 1, 1) := by decide +kernel
theorem dX6_init_68 : decode cX6_init 68 = .ok (.iload_n 2, 1) := by decide +kernel
theorem dX6_init_69 : decode cX6_init 69 = .ok (.invokestatic 28, 3) := by decide +kernel
theorem dX6_init_72 : decode cX6_init 72 = .ok (.iastore, 1) := by decide +kernel
theorem dX6_init_73 : decode cX6_init 73 = .ok (.aload_n 0, 1) := by decide +kernel
theorem dX6_init_74 : decode cX6_init 74 = .ok (.iload_n 3, 1) := by decide +kernel
theorem dX6_init_75 : decode cX6_init 75 = .ok (.invokestatic 28, 3) := by decide +kernel
theorem dX6_init_78 : decode cX6_init 78 = .ok (.putfield 32, 3) := by decide +kernel
theorem dX6_init_81 : decode cX6_init 81 = .ok (.return_, 1) := by decide +kernel
theorem dX6_between_0 : decode cX6_between 0 = .ok (.iload_n 0, 1) := by decide +kernel
theorem dX6_between_1 : decode cX6_between 1 = .ok (.ifCond .ge 7, 3) := by decide +kernel
theorem dX6_between_4 : decode cX6_between 4 = .ok (.iconst 0, 1) := by decide +kernel
theorem dX6_between_5 : decode cX6_between 5 = .ok (.goto 17, 3) := by decide +kernel
theorem dX6_between_8 : decode cX6_between 8 = .ok (.iload_n 0, 1) := by decide +kernel
theorem dX6_between_9 : decode cX6_between 9 = .ok (.sipush 400, 3) := by decide +kernel
theorem dX6_between_12 : decode cX6_between 12 = .ok (.if_icmp .le 9, 3) := by decide +kernel
theorem dX6_between_15 : decode cX6_between 15 = .ok (.sipush 400, 3) := by decide +kernel
theorem dX6_between_18 : decode cX6_between 18 = .ok (.goto 4, 3) := by decide +kernel
theorem dX6_between_21 : decode cX6_between 21 = .ok (.iload_n 0, 1) := by decide +kernel
theorem dX6_between_22 : decode cX6_between 22 = .ok (.ireturn, 1) := by decide +kernel
theorem dX6_thrown_0 : decode cX6_thrown 0 = .ok (.aload_n 0, 1) := by decide +kernel
theorem dX6_thrown_1 : decode cX6_thrown 1 = .ok (.getfield 36, 3) := by decide +kernel
theorem dX6_thrown_4 : decode cX6_thrown 4 = .ok (.ireturn, 1) := by decide +kernel
theorem dX6_refuses_0 : decode cX6_refuses 0 = .ok (.aload_n 0, 1) := by decide +kernel
theorem dX6_refuses_1 : decode cX6_refuses 1 = .ok (.iload_n 1, 1) := by decide +kernel
theorem dX6_refuses_2 : decode cX6_refuses 2 = .ok (.putfield 36, 3) := by decide +kernel
theorem dX6_refuses_5 : decode cX6_refuses 5 = .ok (.iload_n 1, 1) := by decide +kernel
theorem dX6_refuses_6 : decode cX6_refuses 6 = .ok (.ifCond .le 7, 3) := by decide +kernel
theorem dX6_refuses_9 : decode cX6_refuses 9 = .ok (.iconst 1, 1) := by decide +kernel
theorem dX6_refuses_10 : decode cX6_refuses 10 = .ok (.goto 4, 3) := by decide +kernel
theorem dX6_refuses_13 : decode cX6_refuses 13 = .ok (.iconst 0, 1) := by decide +kernel
theorem dX6_refuses_14 : decode cX6_refuses 14 = .ok (.ireturn, 1) := by decide +kernel
theorem dX6_key_0 : decode cX6_key 0 = .ok (.aload_n 0, 1) := by decide +kernel
theorem dX6_key_1 : decode cX6_key 1 = .ok (.getfield 13, 3) := by decide +kernel
theorem dX6_key_4 : decode cX6_key 4 = .ok (.sipush 400, 3) := by decide +kernel
theorem dX6_key_7 : decode cX6_key 7 = .ok (.iload_n 1, 1) := by decide +kernel
theorem dX6_key_8 : decode cX6_key 8 = .ok (.imul, 1) := by decide +kernel
theorem dX6_key_9 : decode cX6_key 9 = .ok (.aload_n 0, 1) := by decide +kernel
theorem dX6_key_10 : decode cX6_key 10 = .ok (.getfield 19, 3) := by decide +kernel
theorem dX6_key_13 : decode cX6_key 13 = .ok (.sipush 400, 3) := by decide +kernel
theorem dX6_key_16 : decode cX6_key 16 = .ok (.iload_n 1, 1) := by decide +kernel
theorem dX6_key_17 : decode cX6_key 17 = .ok (.imul, 1) := by decide +kernel
theorem dX6_key_18 : decode cX6_key 18 = .ok (.iload_n 2, 1) := by decide +kernel
theorem dX6_key_19 : decode cX6_key 19 = .ok (.iadd, 1) := by decide +kernel
theorem dX6_key_20 : decode cX6_key 20 = .ok (.iaload, 1) := by decide +kernel
theorem dX6_key_21 : decode cX6_key 21 = .ok (.iadd, 1) := by decide +kernel
theorem dX6_key_22 : decode cX6_key 22 = .ok (.iaload, 1) := by decide +kernel
theorem dX6_key_23 : decode cX6_key 23 = .ok (.ireturn, 1) := by decide +kernel
theorem dX6_value_0 : decode cX6_value 0 = .ok (.aload_n 0, 1) := by decide +kernel
theorem dX6_value_1 : decode cX6_value 1 = .ok (.getfield 16, 3) := by decide +kernel
theorem dX6_value_4 : decode cX6_value 4 = .ok (.sipush 400, 3) := by decide +kernel
theorem dX6_value_7 : decode cX6_value 7 = .ok (.iload_n 1, 1) := by decide +kernel
theorem dX6_value_8 : decode cX6_value 8 = .ok (.imul, 1) := by decide +kernel
theorem dX6_value_9 : decode cX6_value 9 = .ok (.aload_n 0, 1) := by decide +kernel
theorem dX6_value_10 : decode cX6_value 10 = .ok (.getfield 19, 3) := by decide +kernel
theorem dX6_value_13 : decode cX6_value 13 = .ok (.sipush 400, 3) := by decide +kernel
theorem dX6_value_16 : decode cX6_value 16 = .ok (.iload_n 1, 1) := by decide +kernel
theorem dX6_value_17 : decode cX6_value 17 = .ok (.imul, 1) := by decide +kernel
theorem dX6_value_18 : decode cX6_value 18 = .ok (.iload_n 2, 1) := by decide +kernel
theorem dX6_value_19 : decode cX6_value 19 = .ok (.iadd, 1) := by decide +kernel
theorem dX6_value_20 : decode cX6_value 20 = .ok (.iaload, 1) := by decide +kernel
theorem dX6_value_21 : decode cX6_value 21 = .ok (.iadd, 1) := by decide +kernel
theorem dX6_value_22 : decode cX6_value 22 = .ok (.iaload, 1) := by decide +kernel
theorem dX6_value_23 : decode cX6_value 23 = .ok (.ireturn, 1) := by decide +kernel
theorem dX6_begins_0 : decode cX6_begins 0 = .ok (.iconst 0, 1) := by decide +kernel
theorem dX6_begins_1 : decode cX6_begins 1 = .ok (.istore_n 1, 1) := by decide +kernel
theorem dX6_begins_2 : decode cX6_begins 2 = .ok (.iload_n 1, 1) := by decide +kernel
theorem dX6_begins_3 : decode cX6_begins 3 = .ok (.bipush 12, 2) := by decide +kernel
theorem dX6_begins_5 : decode cX6_begins 5 = .ok (.if_icmp .ge 16, 3) := by decide +kernel
theorem dX6_begins_8 : decode cX6_begins 8 = .ok (.aload_n 0, 1) := by decide +kernel
theorem dX6_begins_9 : decode cX6_begins 9 = .ok (.getfield 25, 3) := by decide +kernel
theorem dX6_begins_12 : decode cX6_begins 12 = .ok (.iload_n 1, 1) := by decide +kernel
theorem dX6_begins_13 : decode cX6_begins 13 = .ok (.iconst 0, 1) := by decide +kernel
theorem dX6_begins_14 : decode cX6_begins 14 = .ok (.iastore, 1) := by decide +kernel
theorem dX6_begins_15 : decode cX6_begins 15 = .ok (.iinc 1 1, 3) := by decide +kernel
theorem dX6_begins_18 : decode cX6_begins 18 = .ok (.goto (-16), 3) := by decide +kernel
theorem dX6_begins_21 : decode cX6_begins 21 = .ok (.return_, 1) := by decide +kernel
theorem dX6_add_0 : decode cX6_add 0 = .ok (.iload_n 1, 1) := by decide +kernel
theorem dX6_add_1 : decode cX6_add 1 = .ok (.ifCond .eq 7, 3) := by decide +kernel
theorem dX6_add_4 : decode cX6_add 4 = .ok (.iconst 0, 1) := by decide +kernel
theorem dX6_add_5 : decode cX6_add 5 = .ok (.goto 4, 3) := by decide +kernel
theorem dX6_add_8 : decode cX6_add 8 = .ok (.iconst 1, 1) := by decide +kernel
theorem dX6_add_9 : decode cX6_add 9 = .ok (.istore 4, 2) := by decide +kernel
theorem dX6_add_11 : decode cX6_add 11 = .ok (.aload_n 0, 1) := by decide +kernel
theorem dX6_add_12 : decode cX6_add 12 = .ok (.aload_n 0, 1) := by decide +kernel
theorem dX6_add_13 : decode cX6_add 13 = .ok (.getfield 22, 3) := by decide +kernel
theorem dX6_add_16 : decode cX6_add 16 = .ok (.iload 4, 2) := by decide +kernel
theorem dX6_add_18 : decode cX6_add 18 = .ok (.iaload, 1) := by decide +kernel
theorem dX6_add_19 : decode cX6_add 19 = .ok (.aload_n 0, 1) := by decide +kernel
theorem dX6_add_20 : decode cX6_add 20 = .ok (.getfield 7, 3) := by decide +kernel
theorem dX6_add_23 : decode cX6_add 23 = .ok (.iload 4, 2) := by decide +kernel
theorem dX6_add_25 : decode cX6_add 25 = .ok (.iaload, 1) := by decide +kernel
theorem dX6_add_26 : decode cX6_add 26 = .ok (.if_icmp .ne 7, 3) := by decide +kernel
theorem dX6_add_29 : decode cX6_add 29 = .ok (.iconst 1, 1) := by decide +kernel
theorem dX6_add_30 : decode cX6_add 30 = .ok (.goto 4, 3) := by decide +kernel
theorem dX6_add_33 : decode cX6_add 33 = .ok (.iconst 0, 1) := by decide +kernel
theorem dX6_add_34 : decode cX6_add 34 = .ok (.invokevirtual 39, 3) := by decide +kernel
theorem dX6_add_37 : decode cX6_add 37 = .ok (.ifCond .eq 5, 3) := by decide +kernel
theorem dX6_add_40 : decode cX6_add 40 = .ok (.iconst 0, 1) := by decide +kernel
theorem dX6_add_41 : decode cX6_add 41 = .ok (.ireturn, 1) := by decide +kernel
theorem dX6_add_42 : decode cX6_add 42 = .ok (.aload_n 0, 1) := by decide +kernel
theorem dX6_add_43 : decode cX6_add 43 = .ok (.getfield 22, 3) := by decide +kernel
theorem dX6_add_46 : decode cX6_add 46 = .ok (.iload 4, 2) := by decide +kernel
theorem dX6_add_48 : decode cX6_add 48 = .ok (.iaload, 1) := by decide +kernel
theorem dX6_add_49 : decode cX6_add 49 = .ok (.istore 5, 2) := by decide +kernel
theorem dX6_add_51 : decode cX6_add 51 = .ok (.aload_n 0, 1) := by decide +kernel
theorem dX6_add_52 : decode cX6_add 52 = .ok (.getfield 13, 3) := by decide +kernel
theorem dX6_add_55 : decode cX6_add 55 = .ok (.sipush 400, 3) := by decide +kernel
theorem dX6_add_58 : decode cX6_add 58 = .ok (.iload 4, 2) := by decide +kernel
theorem dX6_add_60 : decode cX6_add 60 = .ok (.imul, 1) := by decide +kernel
theorem dX6_add_61 : decode cX6_add 61 = .ok (.iload 5, 2) := by decide +kernel
theorem dX6_add_63 : decode cX6_add 63 = .ok (.iadd, 1) := by decide +kernel
theorem dX6_add_64 : decode cX6_add 64 = .ok (.iload_n 2, 1) := by decide +kernel
theorem dX6_add_65 : decode cX6_add 65 = .ok (.iastore, 1) := by decide +kernel
theorem dX6_add_66 : decode cX6_add 66 = .ok (.aload_n 0, 1) := by decide +kernel
theorem dX6_add_67 : decode cX6_add 67 = .ok (.getfield 16, 3) := by decide +kernel
theorem dX6_add_70 : decode cX6_add 70 = .ok (.sipush 400, 3) := by decide +kernel
theorem dX6_add_73 : decode cX6_add 73 = .ok (.iload 4, 2) := by decide +kernel
theorem dX6_add_75 : decode cX6_add 75 = .ok (.imul, 1) := by decide +kernel
theorem dX6_add_76 : decode cX6_add 76 = .ok (.iload 5, 2) := by decide +kernel
theorem dX6_add_78 : decode cX6_add 78 = .ok (.iadd, 1) := by decide +kernel
theorem dX6_add_79 : decode cX6_add 79 = .ok (.iload_n 3, 1) := by decide +kernel
theorem dX6_add_80 : decode cX6_add 80 = .ok (.iastore, 1) := by decide +kernel
theorem dX6_add_81 : decode cX6_add 81 = .ok (.aload_n 0, 1) := by decide +kernel
theorem dX6_add_82 : decode cX6_add 82 = .ok (.getfield 22, 3) := by decide +kernel
theorem dX6_add_85 : decode cX6_add 85 = .ok (.iload 4, 2) := by decide +kernel
theorem dX6_add_87 : decode cX6_add 87 = .ok (.dup2, 1) := by decide +kernel
theorem dX6_add_88 : decode cX6_add 88 = .ok (.iaload, 1) := by decide +kernel
theorem dX6_add_89 : decode cX6_add 89 = .ok (.iconst 1, 1) := by decide +kernel
theorem dX6_add_90 : decode cX6_add 90 = .ok (.iadd, 1) := by decide +kernel
theorem dX6_add_91 : decode cX6_add 91 = .ok (.iastore, 1) := by decide +kernel
theorem dX6_add_92 : decode cX6_add 92 = .ok (.aload_n 0, 1) := by decide +kernel
theorem dX6_add_93 : decode cX6_add 93 = .ok (.iconst 0, 1) := by decide +kernel
theorem dX6_add_94 : decode cX6_add 94 = .ok (.putfield 43, 3) := by decide +kernel
theorem dX6_add_97 : decode cX6_add 97 = .ok (.aload_n 0, 1) := by decide +kernel
theorem dX6_add_98 : decode cX6_add 98 = .ok (.iconst 0, 1) := by decide +kernel
theorem dX6_add_99 : decode cX6_add 99 = .ok (.putfield 47, 3) := by decide +kernel
theorem dX6_add_102 : decode cX6_add 102 = .ok (.iload 5, 2) := by decide +kernel
theorem dX6_add_104 : decode cX6_add 104 = .ok (.ireturn, 1) := by decide +kernel
theorem dX6_prepare_0 : decode cX6_prepare 0 = .ok (.aload_n 0, 1) := by decide +kernel
theorem dX6_prepare_1 : decode cX6_prepare 1 = .ok (.iconst 0, 1) := by decide +kernel
theorem dX6_prepare_2 : decode cX6_prepare 2 = .ok (.putfield 36, 3) := by decide +kernel
theorem dX6_prepare_5 : decode cX6_prepare 5 = .ok (.iconst 0, 1) := by decide +kernel
theorem dX6_prepare_6 : decode cX6_prepare 6 = .ok (.istore_n 1, 1) := by decide +kernel
theorem dX6_prepare_7 : decode cX6_prepare 7 = .ok (.iload_n 1, 1) := by decide +kernel
theorem dX6_prepare_8 : decode cX6_prepare 8 = .ok (.iconst 2, 1) := by decide +kernel
theorem dX6_prepare_9 : decode cX6_prepare 9 = .ok (.if_icmp .ge 118, 3) := by decide +kernel
theorem dX6_prepare_12 : decode cX6_prepare 12 = .ok (.iconst 0, 1) := by decide +kernel
theorem dX6_prepare_13 : decode cX6_prepare 13 = .ok (.istore_n 2, 1) := by decide +kernel
theorem dX6_prepare_14 : decode cX6_prepare 14 = .ok (.iload_n 2, 1) := by decide +kernel
theorem dX6_prepare_15 : decode cX6_prepare 15 = .ok (.aload_n 0, 1) := by decide +kernel
theorem dX6_prepare_16 : decode cX6_prepare 16 = .ok (.getfield 22, 3) := by decide +kernel
theorem dX6_prepare_19 : decode cX6_prepare 19 = .ok (.iload_n 1, 1) := by decide +kernel
theorem dX6_prepare_20 : decode cX6_prepare 20 = .ok (.iaload, 1) := by decide +kernel
theorem dX6_prepare_21 : decode cX6_prepare 21 = .ok (.if_icmp .ge 100, 3) := by decide +kernel
theorem dX6_prepare_24 : decode cX6_prepare 24 = .ok (.iload_n 2, 1) := by decide +kernel
theorem dX6_prepare_25 : decode cX6_prepare 25 = .ok (.istore_n 3, 1) := by decide +kernel
theorem dX6_prepare_26 : decode cX6_prepare 26 = .ok (.iload_n 3, 1) := by decide +kernel
theorem dX6_prepare_27 : decode cX6_prepare 27 = .ok (.ifCond .le 75, 3) := by decide +kernel
theorem dX6_prepare_30 : decode cX6_prepare 30 = .ok (.aload_n 0, 1) := by decide +kernel
theorem dX6_prepare_31 : decode cX6_prepare 31 = .ok (.getfield 13, 3) := by decide +kernel
theorem dX6_prepare_34 : decode cX6_prepare 34 = .ok (.sipush 400, 3) := by decide +kernel
theorem dX6_prepare_37 : decode cX6_prepare 37 = .ok (.iload_n 1, 1) := by decide +kernel
theorem dX6_prepare_38 : decode cX6_prepare 38 = .ok (.imul, 1) := by decide +kernel
theorem dX6_prepare_39 : decode cX6_prepare 39 = .ok (.aload_n 0, 1) := by decide +kernel
theorem dX6_prepare_40 : decode cX6_prepare 40 = .ok (.getfield 19, 3) := by decide +kernel
theorem dX6_prepare_43 : decode cX6_prepare 43 = .ok (.sipush 400, 3) := by decide +kernel
theorem dX6_prepare_46 : decode cX6_prepare 46 = .ok (.iload_n 1, 1) := by decide +kernel
theorem dX6_prepare_47 : decode cX6_prepare 47 = .ok (.imul, 1) := by decide +kernel
theorem dX6_prepare_48 : decode cX6_prepare 48 = .ok (.iload_n 3, 1) := by decide +kernel
theorem dX6_prepare_49 : decode cX6_prepare 49 = .ok (.iadd, 1) := by decide +kernel
theorem dX6_prepare_50 : decode cX6_prepare 50 = .ok (.iconst 1, 1) := by decide +kernel
theorem dX6_prepare_51 : decode cX6_prepare 51 = .ok (.isub, 1) := by decide +kernel
theorem dX6_prepare_52 : decode cX6_prepare 52 = .ok (.iaload, 1) := by decide +kernel
theorem dX6_prepare_53 : decode cX6_prepare 53 = .ok (.iadd, 1) := by decide +kernel
theorem dX6_prepare_54 : decode cX6_prepare 54 = .ok (.iaload, 1) := by decide +kernel
theorem dX6_prepare_55 : decode cX6_prepare 55 = .ok (.aload_n 0, 1) := by decide +kernel
theorem dX6_prepare_56 : decode cX6_prepare 56 = .ok (.getfield 13, 3) := by decide +kernel
theorem dX6_prepare_59 : decode cX6_prepare 59 = .ok (.sipush 400, 3) := by decide +kernel
theorem dX6_prepare_62 : decode cX6_prepare 62 = .ok (.iload_n 1, 1) := by decide +kernel
theorem dX6_prepare_63 : decode cX6_prepare 63 = .ok (.imul, 1) := by decide +kernel
theorem dX6_prepare_64 : decode cX6_prepare 64 = .ok (.iload_n 2, 1) := by decide +kernel
theorem dX6_prepare_65 : decode cX6_prepare 65 = .ok (.iadd, 1) := by decide +kernel
theorem dX6_prepare_66 : decode cX6_prepare 66 = .ok (.iaload, 1) := by decide +kernel
theorem dX6_prepare_67 : decode cX6_prepare 67 = .ok (.if_icmp .le 35, 3) := by decide +kernel
theorem dX6_prepare_70 : decode cX6_prepare 70 = .ok (.aload_n 0, 1) := by decide +kernel
theorem dX6_prepare_71 : decode cX6_prepare 71 = .ok (.getfield 19, 3) := by decide +kernel
theorem dX6_prepare_74 : decode cX6_prepare 74 = .ok (.sipush 400, 3) := by decide +kernel
theorem dX6_prepare_77 : decode cX6_prepare 77 = .ok (.iload_n 1, 1) := by decide +kernel
theorem dX6_prepare_78 : decode cX6_prepare 78 = .ok (.imul, 1) := by decide +kernel
theorem dX6_prepare_79 : decode cX6_prepare 79 = .ok (.iload_n 3, 1) := by decide +kernel
theorem dX6_prepare_80 : decode cX6_prepare 80 = .ok (.iadd, 1) := by decide +kernel
theorem dX6_prepare_81 : decode cX6_prepare 81 = .ok (.aload_n 0, 1) := by decide +kernel
theorem dX6_prepare_82 : decode cX6_prepare 82 = .ok (.getfield 19, 3) := by decide +kernel
theorem dX6_prepare_85 : decode cX6_prepare 85 = .ok (.sipush 400, 3) := by decide +kernel
theorem dX6_prepare_88 : decode cX6_prepare 88 = .ok (.iload_n 1, 1) := by decide +kernel
theorem dX6_prepare_89 : decode cX6_prepare 89 = .ok (.imul, 1) := by decide +kernel
theorem dX6_prepare_90 : decode cX6_prepare 90 = .ok (.iload_n 3, 1) := by decide +kernel
theorem dX6_prepare_91 : decode cX6_prepare 91 = .ok (.iadd, 1) := by decide +kernel
theorem dX6_prepare_92 : decode cX6_prepare 92 = .ok (.iconst 1, 1) := by decide +kernel
theorem dX6_prepare_93 : decode cX6_prepare 93 = .ok (.isub, 1) := by decide +kernel
theorem dX6_prepare_94 : decode cX6_prepare 94 = .ok (.iaload, 1) := by decide +kernel
theorem dX6_prepare_95 : decode cX6_prepare 95 = .ok (.iastore, 1) := by decide +kernel
theorem dX6_prepare_96 : decode cX6_prepare 96 = .ok (.iinc 3 (-1), 3) := by decide +kernel
theorem dX6_prepare_99 : decode cX6_prepare 99 = .ok (.goto (-73), 3) := by decide +kernel
theorem dX6_prepare_102 : decode cX6_prepare 102 = .ok (.aload_n 0, 1) := by decide +kernel
theorem dX6_prepare_103 : decode cX6_prepare 103 = .ok (.getfield 19, 3) := by decide +kernel
theorem dX6_prepare_106 : decode cX6_prepare 106 = .ok (.sipush 400, 3) := by decide +kernel
theorem dX6_prepare_109 : decode cX6_prepare 109 = .ok (.iload_n 1, 1) := by decide +kernel
theorem dX6_prepare_110 : decode cX6_prepare 110 = .ok (.imul, 1) := by decide +kernel
theorem dX6_prepare_111 : decode cX6_prepare 111 = .ok (.iload_n 3, 1) := by decide +kernel
theorem dX6_prepare_112 : decode cX6_prepare 112 = .ok (.iadd, 1) := by decide +kernel
theorem dX6_prepare_113 : decode cX6_prepare 113 = .ok (.iload_n 2, 1) := by decide +kernel
theorem dX6_prepare_114 : decode cX6_prepare 114 = .ok (.iastore, 1) := by decide +kernel
theorem dX6_prepare_115 : decode cX6_prepare 115 = .ok (.iinc 2 1, 3) := by decide +kernel
theorem dX6_prepare_118 : decode cX6_prepare 118 = .ok (.goto (-104), 3) := by decide +kernel
theorem dX6_prepare_121 : decode cX6_prepare 121 = .ok (.iinc 1 1, 3) := by decide +kernel
theorem dX6_prepare_124 : decode cX6_prepare 124 = .ok (.goto (-117), 3) := by decide +kernel
theorem dX6_prepare_127 : decode cX6_prepare 127 = .ok (.aload_n 0, 1) := by decide +kernel
theorem dX6_prepare_128 : decode cX6_prepare 128 = .ok (.invokevirtual 50, 3) := by decide +kernel
theorem dX6_prepare_131 : decode cX6_prepare 131 = .ok (.aload_n 0, 1) := by decide +kernel
theorem dX6_prepare_132 : decode cX6_prepare 132 = .ok (.lconst 0, 1) := by decide +kernel
theorem dX6_prepare_133 : decode cX6_prepare 133 = .ok (.putfield 53, 3) := by decide +kernel
theorem dX6_prepare_136 : decode cX6_prepare 136 = .ok (.aload_n 0, 1) := by decide +kernel
theorem dX6_prepare_137 : decode cX6_prepare 137 = .ok (.iconst 0, 1) := by decide +kernel
theorem dX6_prepare_138 : decode cX6_prepare 138 = .ok (.putfield 57, 3) := by decide +kernel
theorem dX6_prepare_141 : decode cX6_prepare 141 = .ok (.aload_n 0, 1) := by decide +kernel
theorem dX6_prepare_142 : decode cX6_prepare 142 = .ok (.iconst 0, 1) := by decide +kernel
theorem dX6_prepare_143 : decode cX6_prepare 143 = .ok (.putfield 47, 3) := by decide +kernel
theorem dX6_prepare_146 : decode cX6_prepare 146 = .ok (.aload_n 0, 1) := by decide +kernel
theorem dX6_prepare_147 : decode cX6_prepare 147 = .ok (.iconst 1, 1) := by decide +kernel
theorem dX6_prepare_148 : decode cX6_prepare 148 = .ok (.putfield 43, 3) := by decide +kernel
theorem dX6_prepare_151 : decode cX6_prepare 151 = .ok (.return_, 1) := by decide +kernel
theorem dX6_kind_0 : decode cX6_kind 0 = .ok (.aload_n 0, 1) := by decide +kernel
theorem dX6_kind_1 : decode cX6_kind 1 = .ok (.iload_n 1, 1) := by decide +kernel
theorem dX6_kind_2 : decode cX6_kind 2 = .ok (.ifCond .lt 8, 3) := by decide +kernel
theorem dX6_kind_5 : decode cX6_kind 5 = .ok (.iload_n 1, 1) := by decide +kernel
theorem dX6_kind_6 : decode cX6_kind 6 = .ok (.iconst 3, 1) := by decide +kernel
theorem dX6_kind_7 : decode cX6_kind 7 = .ok (.if_icmp .le 7, 3) := by decide +kernel
theorem dX6_kind_10 : decode cX6_kind 10 = .ok (.iconst 1, 1) := by decide +kernel
theorem dX6_kind_11 : decode cX6_kind 11 = .ok (.goto 4, 3) := by decide +kernel
theorem dX6_kind_14 : decode cX6_kind 14 = .ok (.iconst 0, 1) := by decide +kernel
theorem dX6_kind_15 : decode cX6_kind 15 = .ok (.invokevirtual 39, 3) := by decide +kernel
theorem dX6_kind_18 : decode cX6_kind 18 = .ok (.ifCond .eq 4, 3) := by decide +kernel
theorem dX6_kind_21 : decode cX6_kind 21 = .ok (.return_, 1) := by decide +kernel
theorem dX6_kind_22 : decode cX6_kind 22 = .ok (.aload_n 0, 1) := by decide +kernel
theorem dX6_kind_23 : decode cX6_kind 23 = .ok (.iload_n 1, 1) := by decide +kernel
theorem dX6_kind_24 : decode cX6_kind 24 = .ok (.putfield 60, 3) := by decide +kernel
theorem dX6_kind_27 : decode cX6_kind 27 = .ok (.aload_n 0, 1) := by decide +kernel
theorem dX6_kind_28 : decode cX6_kind 28 = .ok (.invokevirtual 50, 3) := by decide +kernel
theorem dX6_kind_31 : decode cX6_kind 31 = .ok (.aload_n 0, 1) := by decide +kernel
theorem dX6_kind_32 : decode cX6_kind 32 = .ok (.lconst 0, 1) := by decide +kernel
theorem dX6_kind_33 : decode cX6_kind 33 = .ok (.putfield 53, 3) := by decide +kernel
theorem dX6_kind_36 : decode cX6_kind 36 = .ok (.aload_n 0, 1) := by decide +kernel
theorem dX6_kind_37 : decode cX6_kind 37 = .ok (.iconst 0, 1) := by decide +kernel
theorem dX6_kind_38 : decode cX6_kind 38 = .ok (.putfield 57, 3) := by decide +kernel
theorem dX6_kind_41 : decode cX6_kind 41 = .ok (.return_, 1) := by decide +kernel
theorem dX6_tells_0 : decode cX6_tells 0 = .ok (.iload_n 1, 1) := by decide +kernel
theorem dX6_tells_1 : decode cX6_tells 1 = .ok (.ifCond .eq 14, 3) := by decide +kernel
theorem dX6_tells_4 : decode cX6_tells 4 = .ok (.iload_n 0, 1) := by decide +kernel
theorem dX6_tells_5 : decode cX6_tells 5 = .ok (.iload_n 1, 1) := by decide +kernel
theorem dX6_tells_6 : decode cX6_tells 6 = .ok (.iconst 1, 1) := by decide +kernel
theorem dX6_tells_7 : decode cX6_tells 7 = .ok (.isub, 1) := by decide +kernel
theorem dX6_tells_8 : decode cX6_tells 8 = .ok (.ishr, 1) := by decide +kernel
theorem dX6_tells_9 : decode cX6_tells 9 = .ok (.iconst 1, 1) := by decide +kernel
theorem dX6_tells_10 : decode cX6_tells 10 = .ok (.iand, 1) := by decide +kernel
theorem dX6_tells_11 : decode cX6_tells 11 = .ok (.iconst 1, 1) := by decide +kernel
theorem dX6_tells_12 : decode cX6_tells 12 = .ok (.if_icmp .ne 7, 3) := by decide +kernel
theorem dX6_tells_15 : decode cX6_tells 15 = .ok (.iconst 1, 1) := by decide +kernel
theorem dX6_tells_16 : decode cX6_tells 16 = .ok (.goto 4, 3) := by decide +kernel
theorem dX6_tells_19 : decode cX6_tells 19 = .ok (.iconst 0, 1) := by decide +kernel
theorem dX6_tells_20 : decode cX6_tells 20 = .ok (.ireturn, 1) := by decide +kernel
theorem dX6_goes_0 : decode cX6_goes 0 = .ok (.aload_n 0, 1) := by decide +kernel
theorem dX6_goes_1 : decode cX6_goes 1 = .ok (.getfield 25, 3) := by decide +kernel
theorem dX6_goes_4 : decode cX6_goes 4 = .ok (.iconst 0, 1) := by decide +kernel
theorem dX6_goes_5 : decode cX6_goes 5 = .ok (.iload_n 1, 1) := by decide +kernel
theorem dX6_goes_6 : decode cX6_goes 6 = .ok (.iadd, 1) := by decide +kernel
theorem dX6_goes_7 : decode cX6_goes 7 = .ok (.iaload, 1) := by decide +kernel
theorem dX6_goes_8 : decode cX6_goes 8 = .ok (.istore_n 2, 1) := by decide +kernel
theorem dX6_goes_9 : decode cX6_goes 9 = .ok (.iload_n 2, 1) := by decide +kernel
theorem dX6_goes_10 : decode cX6_goes 10 = .ok (.iconst 1, 1) := by decide +kernel
theorem dX6_goes_11 : decode cX6_goes 11 = .ok (.iadd, 1) := by decide +kernel
theorem dX6_goes_12 : decode cX6_goes 12 = .ok (.istore_n 3, 1) := by decide +kernel
theorem dX6_goes_13 : decode cX6_goes 13 = .ok (.aload_n 0, 1) := by decide +kernel
theorem dX6_goes_14 : decode cX6_goes 14 = .ok (.dup, 1) := by decide +kernel
theorem dX6_goes_15 : decode cX6_goes 15 = .ok (.getfield 53, 3) := by decide +kernel
theorem dX6_goes_18 : decode cX6_goes 18 = .ok (.lconst 1, 1) := by decide +kernel
theorem dX6_goes_19 : decode cX6_goes 19 = .ok (.ladd, 1) := by decide +kernel
theorem dX6_goes_20 : decode cX6_goes 20 = .ok (.putfield 53, 3) := by decide +kernel
theorem dX6_goes_23 : decode cX6_goes 23 = .ok (.iload_n 3, 1) := by decide +kernel
theorem dX6_goes_24 : decode cX6_goes 24 = .ok (.aload_n 0, 1) := by decide +kernel
theorem dX6_goes_25 : decode cX6_goes 25 = .ok (.getfield 22, 3) := by decide +kernel
theorem dX6_goes_28 : decode cX6_goes 28 = .ok (.iload_n 1, 1) := by decide +kernel
theorem dX6_goes_29 : decode cX6_goes 29 = .ok (.iaload, 1) := by decide +kernel
theorem dX6_goes_30 : decode cX6_goes 30 = .ok (.if_icmp .ge 34, 3) := by decide +kernel
theorem dX6_goes_33 : decode cX6_goes 33 = .ok (.aload_n 0, 1) := by decide +kernel
theorem dX6_goes_34 : decode cX6_goes 34 = .ok (.iload_n 1, 1) := by decide +kernel
theorem dX6_goes_35 : decode cX6_goes 35 = .ok (.iload_n 3, 1) := by decide +kernel
theorem dX6_goes_36 : decode cX6_goes 36 = .ok (.invokevirtual 63, 3) := by decide +kernel
theorem dX6_goes_39 : decode cX6_goes 39 = .ok (.aload_n 0, 1) := by decide +kernel
theorem dX6_goes_40 : decode cX6_goes 40 = .ok (.iload_n 1, 1) := by decide +kernel
theorem dX6_goes_41 : decode cX6_goes 41 = .ok (.iload_n 2, 1) := by decide +kernel
theorem dX6_goes_42 : decode cX6_goes 42 = .ok (.invokevirtual 63, 3) := by decide +kernel
theorem dX6_goes_45 : decode cX6_goes 45 = .ok (.if_icmp .ne 19, 3) := by decide +kernel
theorem dX6_goes_48 : decode cX6_goes 48 = .ok (.iinc 3 1, 3) := by decide +kernel
theorem dX6_goes_51 : decode cX6_goes 51 = .ok (.aload_n 0, 1) := by decide +kernel
theorem dX6_goes_52 : decode cX6_goes 52 = .ok (.dup, 1) := by decide +kernel
theorem dX6_goes_53 : decode cX6_goes 53 = .ok (.getfield 53, 3) := by decide +kernel
theorem dX6_goes_56 : decode cX6_goes 56 = .ok (.lconst 1, 1) := by decide +kernel
theorem dX6_goes_57 : decode cX6_goes 57 = .ok (.ladd, 1) := by decide +kernel
theorem dX6_goes_58 : decode cX6_goes 58 = .ok (.putfield 53, 3) := by decide +kernel
theorem dX6_goes_61 : decode cX6_goes 61 = .ok (.goto (-38), 3) := by decide +kernel
theorem dX6_goes_64 : decode cX6_goes 64 = .ok (.aload_n 0, 1) := by decide +kernel
theorem dX6_goes_65 : decode cX6_goes 65 = .ok (.dup, 1) := by decide +kernel
theorem dX6_goes_66 : decode cX6_goes 66 = .ok (.getfield 53, 3) := by decide +kernel
theorem dX6_goes_69 : decode cX6_goes 69 = .ok (.iload_n 3, 1) := by decide +kernel
theorem dX6_goes_70 : decode cX6_goes 70 = .ok (.aload_n 0, 1) := by decide +kernel
theorem dX6_goes_71 : decode cX6_goes 71 = .ok (.getfield 22, 3) := by decide +kernel
theorem dX6_goes_74 : decode cX6_goes 74 = .ok (.iload_n 1, 1) := by decide +kernel
theorem dX6_goes_75 : decode cX6_goes 75 = .ok (.iaload, 1) := by decide +kernel
theorem dX6_goes_76 : decode cX6_goes 76 = .ok (.if_icmp .ge 7, 3) := by decide +kernel
theorem dX6_goes_79 : decode cX6_goes 79 = .ok (.lconst 1, 1) := by decide +kernel
theorem dX6_goes_80 : decode cX6_goes 80 = .ok (.goto 4, 3) := by decide +kernel
theorem dX6_goes_83 : decode cX6_goes 83 = .ok (.lconst 0, 1) := by decide +kernel
theorem dX6_goes_84 : decode cX6_goes 84 = .ok (.ladd, 1) := by decide +kernel
theorem dX6_goes_85 : decode cX6_goes 85 = .ok (.putfield 53, 3) := by decide +kernel
theorem dX6_goes_88 : decode cX6_goes 88 = .ok (.aload_n 0, 1) := by decide +kernel
theorem dX6_goes_89 : decode cX6_goes 89 = .ok (.getfield 25, 3) := by decide +kernel
theorem dX6_goes_92 : decode cX6_goes 92 = .ok (.iconst 2, 1) := by decide +kernel
theorem dX6_goes_93 : decode cX6_goes 93 = .ok (.iload_n 1, 1) := by decide +kernel
theorem dX6_goes_94 : decode cX6_goes 94 = .ok (.iadd, 1) := by decide +kernel
theorem dX6_goes_95 : decode cX6_goes 95 = .ok (.iload_n 2, 1) := by decide +kernel
theorem dX6_goes_96 : decode cX6_goes 96 = .ok (.iastore, 1) := by decide +kernel
theorem dX6_goes_97 : decode cX6_goes 97 = .ok (.aload_n 0, 1) := by decide +kernel
theorem dX6_goes_98 : decode cX6_goes 98 = .ok (.getfield 25, 3) := by decide +kernel
theorem dX6_goes_101 : decode cX6_goes 101 = .ok (.iconst 4, 1) := by decide +kernel
theorem dX6_goes_102 : decode cX6_goes 102 = .ok (.iload_n 1, 1) := by decide +kernel
theorem dX6_goes_103 : decode cX6_goes 103 = .ok (.iadd, 1) := by decide +kernel
theorem dX6_goes_104 : decode cX6_goes 104 = .ok (.iload_n 3, 1) := by decide +kernel
theorem dX6_goes_105 : decode cX6_goes 105 = .ok (.iastore, 1) := by decide +kernel
theorem dX6_goes_106 : decode cX6_goes 106 = .ok (.aload_n 0, 1) := by decide +kernel
theorem dX6_goes_107 : decode cX6_goes 107 = .ok (.getfield 25, 3) := by decide +kernel
theorem dX6_goes_110 : decode cX6_goes 110 = .ok (.bipush 6, 2) := by decide +kernel
theorem dX6_goes_112 : decode cX6_goes 112 = .ok (.iload_n 1, 1) := by decide +kernel
theorem dX6_goes_113 : decode cX6_goes 113 = .ok (.iadd, 1) := by decide +kernel
theorem dX6_goes_114 : decode cX6_goes 114 = .ok (.iload_n 2, 1) := by decide +kernel
theorem dX6_goes_115 : decode cX6_goes 115 = .ok (.iastore, 1) := by decide +kernel
theorem dX6_goes_116 : decode cX6_goes 116 = .ok (.aload_n 0, 1) := by decide +kernel
theorem dX6_goes_117 : decode cX6_goes 117 = .ok (.getfield 25, 3) := by decide +kernel
theorem dX6_goes_120 : decode cX6_goes 120 = .ok (.iconst 0, 1) := by decide +kernel
theorem dX6_goes_121 : decode cX6_goes 121 = .ok (.iload_n 1, 1) := by decide +kernel
theorem dX6_goes_122 : decode cX6_goes 122 = .ok (.iadd, 1) := by decide +kernel
theorem dX6_goes_123 : decode cX6_goes 123 = .ok (.iload_n 3, 1) := by decide +kernel
theorem dX6_goes_124 : decode cX6_goes 124 = .ok (.iastore, 1) := by decide +kernel
theorem dX6_goes_125 : decode cX6_goes 125 = .ok (.return_, 1) := by decide +kernel
theorem dX6_steps_0 : decode cX6_steps 0 = .ok (.aload_n 0, 1) := by decide +kernel
theorem dX6_steps_1 : decode cX6_steps 1 = .ok (.getfield 25, 3) := by decide +kernel
theorem dX6_steps_4 : decode cX6_steps 4 = .ok (.bipush 8, 2) := by decide +kernel
theorem dX6_steps_6 : decode cX6_steps 6 = .ok (.iaload, 1) := by decide +kernel
theorem dX6_steps_7 : decode cX6_steps 7 = .ok (.istore_n 1, 1) := by decide +kernel
theorem dX6_steps_8 : decode cX6_steps 8 = .ok (.iload_n 1, 1) := by decide +kernel
theorem dX6_steps_9 : decode cX6_steps 9 = .ok (.ifCond .eq 48, 3) := by decide +kernel
theorem dX6_steps_12 : decode cX6_steps 12 = .ok (.aload_n 0, 1) := by decide +kernel
theorem dX6_steps_13 : decode cX6_steps 13 = .ok (.getfield 25, 3) := by decide +kernel
theorem dX6_steps_16 : decode cX6_steps 16 = .ok (.bipush 6, 2) := by decide +kernel
theorem dX6_steps_18 : decode cX6_steps 18 = .ok (.iload_n 1, 1) := by decide +kernel
theorem dX6_steps_19 : decode cX6_steps 19 = .ok (.iadd, 1) := by decide +kernel
theorem dX6_steps_20 : decode cX6_steps 20 = .ok (.iconst 1, 1) := by decide +kernel
theorem dX6_steps_21 : decode cX6_steps 21 = .ok (.isub, 1) := by decide +kernel
theorem dX6_steps_22 : decode cX6_steps 22 = .ok (.dup2, 1) := by decide +kernel
theorem dX6_steps_23 : decode cX6_steps 23 = .ok (.iaload, 1) := by decide +kernel
theorem dX6_steps_24 : decode cX6_steps 24 = .ok (.iconst 1, 1) := by decide +kernel
theorem dX6_steps_25 : decode cX6_steps 25 = .ok (.iadd, 1) := by decide +kernel
theorem dX6_steps_26 : decode cX6_steps 26 = .ok (.iastore, 1) := by decide +kernel
theorem dX6_steps_27 : decode cX6_steps 27 = .ok (.aload_n 0, 1) := by decide +kernel
theorem dX6_steps_28 : decode cX6_steps 28 = .ok (.getfield 25, 3) := by decide +kernel
theorem dX6_steps_31 : decode cX6_steps 31 = .ok (.bipush 6, 2) := by decide +kernel
theorem dX6_steps_33 : decode cX6_steps 33 = .ok (.iload_n 1, 1) := by decide +kernel
theorem dX6_steps_34 : decode cX6_steps 34 = .ok (.iadd, 1) := by decide +kernel
theorem dX6_steps_35 : decode cX6_steps 35 = .ok (.iconst 1, 1) := by decide +kernel
theorem dX6_steps_36 : decode cX6_steps 36 = .ok (.isub, 1) := by decide +kernel
theorem dX6_steps_37 : decode cX6_steps 37 = .ok (.iaload, 1) := by decide +kernel
theorem dX6_steps_38 : decode cX6_steps 38 = .ok (.aload_n 0, 1) := by decide +kernel
theorem dX6_steps_39 : decode cX6_steps 39 = .ok (.getfield 25, 3) := by decide +kernel
theorem dX6_steps_42 : decode cX6_steps 42 = .ok (.iconst 4, 1) := by decide +kernel
theorem dX6_steps_43 : decode cX6_steps 43 = .ok (.iload_n 1, 1) := by decide +kernel
theorem dX6_steps_44 : decode cX6_steps 44 = .ok (.iadd, 1) := by decide +kernel
theorem dX6_steps_45 : decode cX6_steps 45 = .ok (.iconst 1, 1) := by decide +kernel
theorem dX6_steps_46 : decode cX6_steps 46 = .ok (.isub, 1) := by decide +kernel
theorem dX6_steps_47 : decode cX6_steps 47 = .ok (.iaload, 1) := by decide +kernel
theorem dX6_steps_48 : decode cX6_steps 48 = .ok (.if_icmp .ge 7, 3) := by decide +kernel
theorem dX6_steps_51 : decode cX6_steps 51 = .ok (.iconst 1, 1) := by decide +kernel
theorem dX6_steps_52 : decode cX6_steps 52 = .ok (.goto 4, 3) := by decide +kernel
theorem dX6_steps_55 : decode cX6_steps 55 = .ok (.iconst 0, 1) := by decide +kernel
theorem dX6_steps_56 : decode cX6_steps 56 = .ok (.ireturn, 1) := by decide +kernel
theorem dX6_steps_57 : decode cX6_steps 57 = .ok (.aload_n 0, 1) := by decide +kernel
theorem dX6_steps_58 : decode cX6_steps 58 = .ok (.getfield 25, 3) := by decide +kernel
theorem dX6_steps_61 : decode cX6_steps 61 = .ok (.bipush 7, 2) := by decide +kernel
theorem dX6_steps_63 : decode cX6_steps 63 = .ok (.dup2, 1) := by decide +kernel
theorem dX6_steps_64 : decode cX6_steps 64 = .ok (.iaload, 1) := by decide +kernel
theorem dX6_steps_65 : decode cX6_steps 65 = .ok (.iconst 1, 1) := by decide +kernel
theorem dX6_steps_66 : decode cX6_steps 66 = .ok (.iadd, 1) := by decide +kernel
theorem dX6_steps_67 : decode cX6_steps 67 = .ok (.iastore, 1) := by decide +kernel
theorem dX6_steps_68 : decode cX6_steps 68 = .ok (.aload_n 0, 1) := by decide +kernel
theorem dX6_steps_69 : decode cX6_steps 69 = .ok (.getfield 25, 3) := by decide +kernel
theorem dX6_steps_72 : decode cX6_steps 72 = .ok (.bipush 7, 2) := by decide +kernel
theorem dX6_steps_74 : decode cX6_steps 74 = .ok (.iaload, 1) := by decide +kernel
theorem dX6_steps_75 : decode cX6_steps 75 = .ok (.aload_n 0, 1) := by decide +kernel
theorem dX6_steps_76 : decode cX6_steps 76 = .ok (.getfield 25, 3) := by decide +kernel
theorem dX6_steps_79 : decode cX6_steps 79 = .ok (.iconst 5, 1) := by decide +kernel
theorem dX6_steps_80 : decode cX6_steps 80 = .ok (.iaload, 1) := by decide +kernel
theorem dX6_steps_81 : decode cX6_steps 81 = .ok (.if_icmp .ne 27, 3) := by decide +kernel
theorem dX6_steps_84 : decode cX6_steps 84 = .ok (.aload_n 0, 1) := by decide +kernel
theorem dX6_steps_85 : decode cX6_steps 85 = .ok (.getfield 25, 3) := by decide +kernel
theorem dX6_steps_88 : decode cX6_steps 88 = .ok (.bipush 7, 2) := by decide +kernel
theorem dX6_steps_90 : decode cX6_steps 90 = .ok (.aload_n 0, 1) := by decide +kernel
theorem dX6_steps_91 : decode cX6_steps 91 = .ok (.getfield 25, 3) := by decide +kernel
theorem dX6_steps_94 : decode cX6_steps 94 = .ok (.iconst 3, 1) := by decide +kernel
theorem dX6_steps_95 : decode cX6_steps 95 = .ok (.iaload, 1) := by decide +kernel
theorem dX6_steps_96 : decode cX6_steps 96 = .ok (.iastore, 1) := by decide +kernel
theorem dX6_steps_97 : decode cX6_steps 97 = .ok (.aload_n 0, 1) := by decide +kernel
theorem dX6_steps_98 : decode cX6_steps 98 = .ok (.getfield 25, 3) := by decide +kernel
theorem dX6_steps_101 : decode cX6_steps 101 = .ok (.bipush 6, 2) := by decide +kernel
theorem dX6_steps_103 : decode cX6_steps 103 = .ok (.dup2, 1) := by decide +kernel
theorem dX6_steps_104 : decode cX6_steps 104 = .ok (.iaload, 1) := by decide +kernel
theorem dX6_steps_105 : decode cX6_steps 105 = .ok (.iconst 1, 1) := by decide +kernel
theorem dX6_steps_106 : decode cX6_steps 106 = .ok (.iadd, 1) := by decide +kernel
theorem dX6_steps_107 : decode cX6_steps 107 = .ok (.iastore, 1) := by decide +kernel
theorem dX6_steps_108 : decode cX6_steps 108 = .ok (.aload_n 0, 1) := by decide +kernel
theorem dX6_steps_109 : decode cX6_steps 109 = .ok (.getfield 25, 3) := by decide +kernel
theorem dX6_steps_112 : decode cX6_steps 112 = .ok (.bipush 6, 2) := by decide +kernel
theorem dX6_steps_114 : decode cX6_steps 114 = .ok (.iaload, 1) := by decide +kernel
theorem dX6_steps_115 : decode cX6_steps 115 = .ok (.aload_n 0, 1) := by decide +kernel
theorem dX6_steps_116 : decode cX6_steps 116 = .ok (.getfield 25, 3) := by decide +kernel
theorem dX6_steps_119 : decode cX6_steps 119 = .ok (.iconst 4, 1) := by decide +kernel
theorem dX6_steps_120 : decode cX6_steps 120 = .ok (.iaload, 1) := by decide +kernel
theorem dX6_steps_121 : decode cX6_steps 121 = .ok (.if_icmp .ge 7, 3) := by decide +kernel
theorem dX6_steps_124 : decode cX6_steps 124 = .ok (.iconst 1, 1) := by decide +kernel
theorem dX6_steps_125 : decode cX6_steps 125 = .ok (.goto 4, 3) := by decide +kernel
theorem dX6_steps_128 : decode cX6_steps 128 = .ok (.iconst 0, 1) := by decide +kernel
theorem dX6_steps_129 : decode cX6_steps 129 = .ok (.ireturn, 1) := by decide +kernel
theorem dX6_next_0 : decode cX6_next 0 = .ok (.aload_n 0, 1) := by decide +kernel
theorem dX6_next_1 : decode cX6_next 1 = .ok (.aload_n 0, 1) := by decide +kernel
theorem dX6_next_2 : decode cX6_next 2 = .ok (.getfield 43, 3) := by decide +kernel
theorem dX6_next_5 : decode cX6_next 5 = .ok (.ifCond .eq 7, 3) := by decide +kernel
theorem dX6_next_8 : decode cX6_next 8 = .ok (.iconst 0, 1) := by decide +kernel
theorem dX6_next_9 : decode cX6_next 9 = .ok (.goto 4, 3) := by decide +kernel
theorem dX6_next_12 : decode cX6_next 12 = .ok (.iconst 1, 1) := by decide +kernel
theorem dX6_next_13 : decode cX6_next 13 = .ok (.invokevirtual 39, 3) := by decide +kernel
theorem dX6_next_16 : decode cX6_next 16 = .ok (.ifCond .eq 5, 3) := by decide +kernel
theorem dX6_next_19 : decode cX6_next 19 = .ok (.iconst 0, 1) := by decide +kernel
theorem dX6_next_20 : decode cX6_next 20 = .ok (.ireturn, 1) := by decide +kernel
theorem dX6_next_21 : decode cX6_next 21 = .ok (.aload_n 0, 1) := by decide +kernel
theorem dX6_next_22 : decode cX6_next 22 = .ok (.getfield 25, 3) := by decide +kernel
theorem dX6_next_25 : decode cX6_next 25 = .ok (.bipush 9, 2) := by decide +kernel
theorem dX6_next_27 : decode cX6_next 27 = .ok (.iaload, 1) := by decide +kernel
theorem dX6_next_28 : decode cX6_next 28 = .ok (.iconst 1, 1) := by decide +kernel
theorem dX6_next_29 : decode cX6_next 29 = .ok (.if_icmp .ne 23, 3) := by decide +kernel
theorem dX6_next_32 : decode cX6_next 32 = .ok (.aload_n 0, 1) := by decide +kernel
theorem dX6_next_33 : decode cX6_next 33 = .ok (.invokevirtual 67, 3) := by decide +kernel
theorem dX6_next_36 : decode cX6_next 36 = .ok (.ifCond .eq 16, 3) := by decide +kernel
theorem dX6_next_39 : decode cX6_next 39 = .ok (.aload_n 0, 1) := by decide +kernel
theorem dX6_next_40 : decode cX6_next 40 = .ok (.getfield 25, 3) := by decide +kernel
theorem dX6_next_43 : decode cX6_next 43 = .ok (.bipush 10, 2) := by decide +kernel
theorem dX6_next_45 : decode cX6_next 45 = .ok (.dup2, 1) := by decide +kernel
theorem dX6_next_46 : decode cX6_next 46 = .ok (.iaload, 1) := by decide +kernel
theorem dX6_next_47 : decode cX6_next 47 = .ok (.iconst 1, 1) := by decide +kernel
theorem dX6_next_48 : decode cX6_next 48 = .ok (.iadd, 1) := by decide +kernel
theorem dX6_next_49 : decode cX6_next 49 = .ok (.iastore, 1) := by decide +kernel
theorem dX6_next_50 : decode cX6_next 50 = .ok (.iconst 1, 1) := by decide +kernel
theorem dX6_next_51 : decode cX6_next 51 = .ok (.ireturn, 1) := by decide +kernel
theorem dX6_next_52 : decode cX6_next 52 = .ok (.aload_n 0, 1) := by decide +kernel
theorem dX6_next_53 : decode cX6_next 53 = .ok (.getfield 25, 3) := by decide +kernel
theorem dX6_next_56 : decode cX6_next 56 = .ok (.bipush 9, 2) := by decide +kernel
theorem dX6_next_58 : decode cX6_next 58 = .ok (.iconst 0, 1) := by decide +kernel
theorem dX6_next_59 : decode cX6_next 59 = .ok (.iastore, 1) := by decide +kernel
theorem dX6_next_60 : decode cX6_next 60 = .ok (.aload_n 0, 1) := by decide +kernel
theorem dX6_next_61 : decode cX6_next 61 = .ok (.getfield 25, 3) := by decide +kernel
theorem dX6_next_64 : decode cX6_next 64 = .ok (.iconst 0, 1) := by decide +kernel
theorem dX6_next_65 : decode cX6_next 65 = .ok (.iaload, 1) := by decide +kernel
theorem dX6_next_66 : decode cX6_next 66 = .ok (.aload_n 0, 1) := by decide +kernel
theorem dX6_next_67 : decode cX6_next 67 = .ok (.getfield 22, 3) := by decide +kernel
theorem dX6_next_70 : decode cX6_next 70 = .ok (.iconst 0, 1) := by decide +kernel
theorem dX6_next_71 : decode cX6_next 71 = .ok (.iaload, 1) := by decide +kernel
theorem dX6_next_72 : decode cX6_next 72 = .ok (.if_icmp .lt 18, 3) := by decide +kernel
theorem dX6_next_75 : decode cX6_next 75 = .ok (.aload_n 0, 1) := by decide +kernel
theorem dX6_next_76 : decode cX6_next 76 = .ok (.getfield 25, 3) := by decide +kernel
theorem dX6_next_79 : decode cX6_next 79 = .ok (.iconst 1, 1) := by decide +kernel
theorem dX6_next_80 : decode cX6_next 80 = .ok (.iaload, 1) := by decide +kernel
theorem dX6_next_81 : decode cX6_next 81 = .ok (.aload_n 0, 1) := by decide +kernel
theorem dX6_next_82 : decode cX6_next 82 = .ok (.getfield 22, 3) := by decide +kernel
theorem dX6_next_85 : decode cX6_next 85 = .ok (.iconst 1, 1) := by decide +kernel
theorem dX6_next_86 : decode cX6_next 86 = .ok (.iaload, 1) := by decide +kernel
theorem dX6_next_87 : decode cX6_next 87 = .ok (.if_icmp .ge 201, 3) := by decide +kernel
theorem dX6_next_90 : decode cX6_next 90 = .ok (.aload_n 0, 1) := by decide +kernel
theorem dX6_next_91 : decode cX6_next 91 = .ok (.getfield 25, 3) := by decide +kernel
theorem dX6_next_94 : decode cX6_next 94 = .ok (.iconst 0, 1) := by decide +kernel
theorem dX6_next_95 : decode cX6_next 95 = .ok (.iaload, 1) := by decide +kernel
theorem dX6_next_96 : decode cX6_next 96 = .ok (.aload_n 0, 1) := by decide +kernel
theorem dX6_next_97 : decode cX6_next 97 = .ok (.getfield 22, 3) := by decide +kernel
theorem dX6_next_100 : decode cX6_next 100 = .ok (.iconst 0, 1) := by decide +kernel
theorem dX6_next_101 : decode cX6_next 101 = .ok (.iaload, 1) := by decide +kernel
theorem dX6_next_102 : decode cX6_next 102 = .ok (.if_icmp .ge 7, 3) := by decide +kernel
theorem dX6_next_105 : decode cX6_next 105 = .ok (.iconst 1, 1) := by decide +kernel
theorem dX6_next_106 : decode cX6_next 106 = .ok (.goto 4, 3) := by decide +kernel
theorem dX6_next_109 : decode cX6_next 109 = .ok (.iconst 0, 1) := by decide +kernel
theorem dX6_next_110 : decode cX6_next 110 = .ok (.istore_n 1, 1) := by decide +kernel
theorem dX6_next_111 : decode cX6_next 111 = .ok (.aload_n 0, 1) := by decide +kernel
theorem dX6_next_112 : decode cX6_next 112 = .ok (.getfield 25, 3) := by decide +kernel
theorem dX6_next_115 : decode cX6_next 115 = .ok (.iconst 1, 1) := by decide +kernel
theorem dX6_next_116 : decode cX6_next 116 = .ok (.iaload, 1) := by decide +kernel
theorem dX6_next_117 : decode cX6_next 117 = .ok (.aload_n 0, 1) := by decide +kernel
theorem dX6_next_118 : decode cX6_next 118 = .ok (.getfield 22, 3) := by decide +kernel
theorem dX6_next_121 : decode cX6_next 121 = .ok (.iconst 1, 1) := by decide +kernel
theorem dX6_next_122 : decode cX6_next 122 = .ok (.iaload, 1) := by decide +kernel
theorem dX6_next_123 : decode cX6_next 123 = .ok (.if_icmp .ge 7, 3) := by decide +kernel
theorem dX6_next_126 : decode cX6_next 126 = .ok (.iconst 1, 1) := by decide +kernel
theorem dX6_next_127 : decode cX6_next 127 = .ok (.goto 4, 3) := by decide +kernel
theorem dX6_next_130 : decode cX6_next 130 = .ok (.iconst 0, 1) := by decide +kernel
theorem dX6_next_131 : decode cX6_next 131 = .ok (.istore_n 2, 1) := by decide +kernel
theorem dX6_next_132 : decode cX6_next 132 = .ok (.iload_n 1, 1) := by decide +kernel
theorem dX6_next_133 : decode cX6_next 133 = .ok (.ifCond .eq 68, 3) := by decide +kernel
theorem dX6_next_136 : decode cX6_next 136 = .ok (.iload_n 2, 1) := by decide +kernel
theorem dX6_next_137 : decode cX6_next 137 = .ok (.ifCond .eq 64, 3) := by decide +kernel
theorem dX6_next_140 : decode cX6_next 140 = .ok (.aload_n 0, 1) := by decide +kernel
theorem dX6_next_141 : decode cX6_next 141 = .ok (.iconst 0, 1) := by decide +kernel
theorem dX6_next_142 : decode cX6_next 142 = .ok (.aload_n 0, 1) := by decide +kernel
theorem dX6_next_143 : decode cX6_next 143 = .ok (.getfield 25, 3) := by decide +kernel
theorem dX6_next_146 : decode cX6_next 146 = .ok (.iconst 0, 1) := by decide +kernel
theorem dX6_next_147 : decode cX6_next 147 = .ok (.iaload, 1) := by decide +kernel
theorem dX6_next_148 : decode cX6_next 148 = .ok (.invokevirtual 63, 3) := by decide +kernel
theorem dX6_next_151 : decode cX6_next 151 = .ok (.istore_n 3, 1) := by decide +kernel
theorem dX6_next_152 : decode cX6_next 152 = .ok (.aload_n 0, 1) := by decide +kernel
theorem dX6_next_153 : decode cX6_next 153 = .ok (.iconst 1, 1) := by decide +kernel
theorem dX6_next_154 : decode cX6_next 154 = .ok (.aload_n 0, 1) := by decide +kernel
theorem dX6_next_155 : decode cX6_next 155 = .ok (.getfield 25, 3) := by decide +kernel
theorem dX6_next_158 : decode cX6_next 158 = .ok (.iconst 1, 1) := by decide +kernel
theorem dX6_next_159 : decode cX6_next 159 = .ok (.iaload, 1) := by decide +kernel
theorem dX6_next_160 : decode cX6_next 160 = .ok (.invokevirtual 63, 3) := by decide +kernel
theorem dX6_next_163 : decode cX6_next 163 = .ok (.istore 4, 2) := by decide +kernel
theorem dX6_next_165 : decode cX6_next 165 = .ok (.aload_n 0, 1) := by decide +kernel
theorem dX6_next_166 : decode cX6_next 166 = .ok (.dup, 1) := by decide +kernel
theorem dX6_next_167 : decode cX6_next 167 = .ok (.getfield 53, 3) := by decide +kernel
theorem dX6_next_170 : decode cX6_next 170 = .ok (.ldc2_w 71, 3) := by decide +kernel
theorem dX6_next_173 : decode cX6_next 173 = .ok (.ladd, 1) := by decide +kernel
theorem dX6_next_174 : decode cX6_next 174 = .ok (.putfield 53, 3) := by decide +kernel
theorem dX6_next_177 : decode cX6_next 177 = .ok (.iload_n 3, 1) := by decide +kernel
theorem dX6_next_178 : decode cX6_next 178 = .ok (.iload 4, 2) := by decide +kernel
theorem dX6_next_180 : decode cX6_next 180 = .ok (.if_icmp .gt 7, 3) := by decide +kernel
theorem dX6_next_183 : decode cX6_next 183 = .ok (.iconst 1, 1) := by decide +kernel
theorem dX6_next_184 : decode cX6_next 184 = .ok (.goto 4, 3) := by decide +kernel
theorem dX6_next_187 : decode cX6_next 187 = .ok (.iconst 0, 1) := by decide +kernel
theorem dX6_next_188 : decode cX6_next 188 = .ok (.istore_n 1, 1) := by decide +kernel
theorem dX6_next_189 : decode cX6_next 189 = .ok (.iload 4, 2) := by decide +kernel
theorem dX6_next_191 : decode cX6_next 191 = .ok (.iload_n 3, 1) := by decide +kernel
theorem dX6_next_192 : decode cX6_next 192 = .ok (.if_icmp .gt 7, 3) := by decide +kernel
theorem dX6_next_195 : decode cX6_next 195 = .ok (.iconst 1, 1) := by decide +kernel
theorem dX6_next_196 : decode cX6_next 196 = .ok (.goto 4, 3) := by decide +kernel
theorem dX6_next_199 : decode cX6_next 199 = .ok (.iconst 0, 1) := by decide +kernel
theorem dX6_next_200 : decode cX6_next 200 = .ok (.istore_n 2, 1) := by decide +kernel
theorem dX6_next_201 : decode cX6_next 201 = .ok (.iload_n 1, 1) := by decide +kernel
theorem dX6_next_202 : decode cX6_next 202 = .ok (.ifCond .eq 8, 3) := by decide +kernel
theorem dX6_next_205 : decode cX6_next 205 = .ok (.aload_n 0, 1) := by decide +kernel
theorem dX6_next_206 : decode cX6_next 206 = .ok (.iconst 0, 1) := by decide +kernel
theorem dX6_next_207 : decode cX6_next 207 = .ok (.invokevirtual 73, 3) := by decide +kernel
theorem dX6_next_210 : decode cX6_next 210 = .ok (.iload_n 2, 1) := by decide +kernel
theorem dX6_next_211 : decode cX6_next 211 = .ok (.ifCond .eq 8, 3) := by decide +kernel
theorem dX6_next_214 : decode cX6_next 214 = .ok (.aload_n 0, 1) := by decide +kernel
theorem dX6_next_215 : decode cX6_next 215 = .ok (.iconst 1, 1) := by decide +kernel
theorem dX6_next_216 : decode cX6_next 216 = .ok (.invokevirtual 73, 3) := by decide +kernel
theorem dX6_next_219 : decode cX6_next 219 = .ok (.aload_n 0, 1) := by decide +kernel
theorem dX6_next_220 : decode cX6_next 220 = .ok (.getfield 25, 3) := by decide +kernel
theorem dX6_next_223 : decode cX6_next 223 = .ok (.bipush 8, 2) := by decide +kernel
theorem dX6_next_225 : decode cX6_next 225 = .ok (.iload_n 1, 1) := by decide +kernel
theorem dX6_next_226 : decode cX6_next 226 = .ok (.ifCond .eq 11, 3) := by decide +kernel
theorem dX6_next_229 : decode cX6_next 229 = .ok (.iload_n 2, 1) := by decide +kernel
theorem dX6_next_230 : decode cX6_next 230 = .ok (.ifCond .eq 7, 3) := by decide +kernel
theorem dX6_next_233 : decode cX6_next 233 = .ok (.iconst 0, 1) := by decide +kernel
theorem dX6_next_234 : decode cX6_next 234 = .ok (.goto 12, 3) := by decide +kernel
theorem dX6_next_237 : decode cX6_next 237 = .ok (.iload_n 1, 1) := by decide +kernel
theorem dX6_next_238 : decode cX6_next 238 = .ok (.ifCond .eq 7, 3) := by decide +kernel
theorem dX6_next_241 : decode cX6_next 241 = .ok (.iconst 1, 1) := by decide +kernel
theorem dX6_next_242 : decode cX6_next 242 = .ok (.goto 4, 3) := by decide +kernel
theorem dX6_next_245 : decode cX6_next 245 = .ok (.iconst 2, 1) := by decide +kernel
theorem dX6_next_246 : decode cX6_next 246 = .ok (.iastore, 1) := by decide +kernel
theorem dX6_next_247 : decode cX6_next 247 = .ok (.aload_n 0, 1) := by decide +kernel
theorem dX6_next_248 : decode cX6_next 248 = .ok (.getfield 60, 3) := by decide +kernel
theorem dX6_next_251 : decode cX6_next 251 = .ok (.aload_n 0, 1) := by decide +kernel
theorem dX6_next_252 : decode cX6_next 252 = .ok (.getfield 25, 3) := by decide +kernel
theorem dX6_next_255 : decode cX6_next 255 = .ok (.bipush 8, 2) := by decide +kernel
theorem dX6_next_257 : decode cX6_next 257 = .ok (.iaload, 1) := by decide +kernel
theorem dX6_next_258 : decode cX6_next 258 = .ok (.invokestatic 77, 3) := by decide +kernel
theorem dX6_next_261 : decode cX6_next 261 = .ok (.ifCond .eq 24, 3) := by decide +kernel
theorem dX6_next_264 : decode cX6_next 264 = .ok (.aload_n 0, 1) := by decide +kernel
theorem dX6_next_265 : decode cX6_next 265 = .ok (.getfield 25, 3) := by decide +kernel
theorem dX6_next_268 : decode cX6_next 268 = .ok (.bipush 9, 2) := by decide +kernel
theorem dX6_next_270 : decode cX6_next 270 = .ok (.iconst 1, 1) := by decide +kernel
theorem dX6_next_271 : decode cX6_next 271 = .ok (.iastore, 1) := by decide +kernel
theorem dX6_next_272 : decode cX6_next 272 = .ok (.aload_n 0, 1) := by decide +kernel
theorem dX6_next_273 : decode cX6_next 273 = .ok (.getfield 25, 3) := by decide +kernel
theorem dX6_next_276 : decode cX6_next 276 = .ok (.bipush 10, 2) := by decide +kernel
theorem dX6_next_278 : decode cX6_next 278 = .ok (.dup2, 1) := by decide +kernel
theorem dX6_next_279 : decode cX6_next 279 = .ok (.iaload, 1) := by decide +kernel
theorem dX6_next_280 : decode cX6_next 280 = .ok (.iconst 1, 1) := by decide +kernel
theorem dX6_next_281 : decode cX6_next 281 = .ok (.iadd, 1) := by decide +kernel
theorem dX6_next_282 : decode cX6_next 282 = .ok (.iastore, 1) := by decide +kernel
theorem dX6_next_283 : decode cX6_next 283 = .ok (.iconst 1, 1) := by decide +kernel
theorem dX6_next_284 : decode cX6_next 284 = .ok (.ireturn, 1) := by decide +kernel
theorem dX6_next_285 : decode cX6_next 285 = .ok (.goto (-225), 3) := by decide +kernel
theorem dX6_next_288 : decode cX6_next 288 = .ok (.iconst 0, 1) := by decide +kernel
theorem dX6_next_289 : decode cX6_next 289 = .ok (.ireturn, 1) := by decide +kernel
theorem dX6_pair_0 : decode cX6_pair 0 = .ok (.aload_n 0, 1) := by decide +kernel
theorem dX6_pair_1 : decode cX6_pair 1 = .ok (.iload_n 1, 1) := by decide +kernel
theorem dX6_pair_2 : decode cX6_pair 2 = .ok (.ifCond .lt 8, 3) := by decide +kernel
theorem dX6_pair_5 : decode cX6_pair 5 = .ok (.iload_n 1, 1) := by decide +kernel
theorem dX6_pair_6 : decode cX6_pair 6 = .ok (.iconst 4, 1) := by decide +kernel
theorem dX6_pair_7 : decode cX6_pair 7 = .ok (.if_icmp .le 7, 3) := by decide +kernel
theorem dX6_pair_10 : decode cX6_pair 10 = .ok (.iconst 1, 1) := by decide +kernel
theorem dX6_pair_11 : decode cX6_pair 11 = .ok (.goto 4, 3) := by decide +kernel
theorem dX6_pair_14 : decode cX6_pair 14 = .ok (.iconst 0, 1) := by decide +kernel
theorem dX6_pair_15 : decode cX6_pair 15 = .ok (.invokevirtual 39, 3) := by decide +kernel
theorem dX6_pair_18 : decode cX6_pair 18 = .ok (.ifCond .eq 5, 3) := by decide +kernel
theorem dX6_pair_21 : decode cX6_pair 21 = .ok (.iconst 0, 1) := by decide +kernel
theorem dX6_pair_22 : decode cX6_pair 22 = .ok (.ireturn, 1) := by decide +kernel
theorem dX6_pair_23 : decode cX6_pair 23 = .ok (.aload_n 0, 1) := by decide +kernel
theorem dX6_pair_24 : decode cX6_pair 24 = .ok (.getfield 43, 3) := by decide +kernel
theorem dX6_pair_27 : decode cX6_pair 27 = .ok (.ifCond .eq 18, 3) := by decide +kernel
theorem dX6_pair_30 : decode cX6_pair 30 = .ok (.aload_n 0, 1) := by decide +kernel
theorem dX6_pair_31 : decode cX6_pair 31 = .ok (.getfield 25, 3) := by decide +kernel
theorem dX6_pair_34 : decode cX6_pair 34 = .ok (.bipush 9, 2) := by decide +kernel
theorem dX6_pair_36 : decode cX6_pair 36 = .ok (.iaload, 1) := by decide +kernel
theorem dX6_pair_37 : decode cX6_pair 37 = .ok (.iconst 1, 1) := by decide +kernel
theorem dX6_pair_38 : decode cX6_pair 38 = .ok (.if_icmp .ne 7, 3) := by decide +kernel
theorem dX6_pair_41 : decode cX6_pair 41 = .ok (.iconst 1, 1) := by decide +kernel
theorem dX6_pair_42 : decode cX6_pair 42 = .ok (.goto 4, 3) := by decide +kernel
theorem dX6_pair_45 : decode cX6_pair 45 = .ok (.iconst 0, 1) := by decide +kernel
theorem dX6_pair_46 : decode cX6_pair 46 = .ok (.istore_n 2, 1) := by decide +kernel
theorem dX6_pair_47 : decode cX6_pair 47 = .ok (.iload_n 1, 1) := by decide +kernel
theorem dX6_pair_48 : decode cX6_pair 48 = .ok (.iconst 1, 1) := by decide +kernel
theorem dX6_pair_49 : decode cX6_pair 49 = .ok (.if_icmp .eq 8, 3) := by decide +kernel
theorem dX6_pair_52 : decode cX6_pair 52 = .ok (.iload_n 1, 1) := by decide +kernel
theorem dX6_pair_53 : decode cX6_pair 53 = .ok (.iconst 3, 1) := by decide +kernel
theorem dX6_pair_54 : decode cX6_pair 54 = .ok (.if_icmp .ne 7, 3) := by decide +kernel
theorem dX6_pair_57 : decode cX6_pair 57 = .ok (.iconst 0, 1) := by decide +kernel
theorem dX6_pair_58 : decode cX6_pair 58 = .ok (.goto 4, 3) := by decide +kernel
theorem dX6_pair_61 : decode cX6_pair 61 = .ok (.iconst 1, 1) := by decide +kernel
theorem dX6_pair_62 : decode cX6_pair 62 = .ok (.istore_n 3, 1) := by decide +kernel
theorem dX6_pair_63 : decode cX6_pair 63 = .ok (.iload_n 1, 1) := by decide +kernel
theorem dX6_pair_64 : decode cX6_pair 64 = .ok (.ifCond .ne 50, 3) := by decide +kernel
theorem dX6_pair_67 : decode cX6_pair 67 = .ok (.iload_n 2, 1) := by decide +kernel
theorem dX6_pair_68 : decode cX6_pair 68 = .ok (.ifCond .ne 7, 3) := by decide +kernel
theorem dX6_pair_71 : decode cX6_pair 71 = .ok (.iconst 0, 1) := by decide +kernel
theorem dX6_pair_72 : decode cX6_pair 72 = .ok (.goto 41, 3) := by decide +kernel
theorem dX6_pair_75 : decode cX6_pair 75 = .ok (.aload_n 0, 1) := by decide +kernel
theorem dX6_pair_76 : decode cX6_pair 76 = .ok (.getfield 25, 3) := by decide +kernel
theorem dX6_pair_79 : decode cX6_pair 79 = .ok (.bipush 8, 2) := by decide +kernel
theorem dX6_pair_81 : decode cX6_pair 81 = .ok (.iaload, 1) := by decide +kernel
theorem dX6_pair_82 : decode cX6_pair 82 = .ok (.iconst 2, 1) := by decide +kernel
theorem dX6_pair_83 : decode cX6_pair 83 = .ok (.if_icmp .ne 18, 3) := by decide +kernel
theorem dX6_pair_86 : decode cX6_pair 86 = .ok (.aload_n 0, 1) := by decide +kernel
theorem dX6_pair_87 : decode cX6_pair 87 = .ok (.iconst 1, 1) := by decide +kernel
theorem dX6_pair_88 : decode cX6_pair 88 = .ok (.aload_n 0, 1) := by decide +kernel
theorem dX6_pair_89 : decode cX6_pair 89 = .ok (.getfield 25, 3) := by decide +kernel
theorem dX6_pair_92 : decode cX6_pair 92 = .ok (.bipush 7, 2) := by decide +kernel
theorem dX6_pair_94 : decode cX6_pair 94 = .ok (.iaload, 1) := by decide +kernel
theorem dX6_pair_95 : decode cX6_pair 95 = .ok (.invokevirtual 63, 3) := by decide +kernel
theorem dX6_pair_98 : decode cX6_pair 98 = .ok (.goto 15, 3) := by decide +kernel
theorem dX6_pair_101 : decode cX6_pair 101 = .ok (.aload_n 0, 1) := by decide +kernel
theorem dX6_pair_102 : decode cX6_pair 102 = .ok (.iconst 0, 1) := by decide +kernel
theorem dX6_pair_103 : decode cX6_pair 103 = .ok (.aload_n 0, 1) := by decide +kernel
theorem dX6_pair_104 : decode cX6_pair 104 = .ok (.getfield 25, 3) := by decide +kernel
theorem dX6_pair_107 : decode cX6_pair 107 = .ok (.bipush 6, 2) := by decide +kernel
theorem dX6_pair_109 : decode cX6_pair 109 = .ok (.iaload, 1) := by decide +kernel
theorem dX6_pair_110 : decode cX6_pair 110 = .ok (.invokevirtual 63, 3) := by decide +kernel
theorem dX6_pair_113 : decode cX6_pair 113 = .ok (.ireturn, 1) := by decide +kernel
theorem dX6_pair_114 : decode cX6_pair 114 = .ok (.iload_n 2, 1) := by decide +kernel
theorem dX6_pair_115 : decode cX6_pair 115 = .ok (.ifCond .eq 20, 3) := by decide +kernel
theorem dX6_pair_118 : decode cX6_pair 118 = .ok (.aload_n 0, 1) := by decide +kernel
theorem dX6_pair_119 : decode cX6_pair 119 = .ok (.getfield 25, 3) := by decide +kernel
theorem dX6_pair_122 : decode cX6_pair 122 = .ok (.bipush 8, 2) := by decide +kernel
theorem dX6_pair_124 : decode cX6_pair 124 = .ok (.iaload, 1) := by decide +kernel
theorem dX6_pair_125 : decode cX6_pair 125 = .ok (.iconst 2, 1) := by decide +kernel
theorem dX6_pair_126 : decode cX6_pair 126 = .ok (.iload_n 3, 1) := by decide +kernel
theorem dX6_pair_127 : decode cX6_pair 127 = .ok (.isub, 1) := by decide +kernel
theorem dX6_pair_128 : decode cX6_pair 128 = .ok (.if_icmp .eq 7, 3) := by decide +kernel
theorem dX6_pair_131 : decode cX6_pair 131 = .ok (.iconst 1, 1) := by decide +kernel
theorem dX6_pair_132 : decode cX6_pair 132 = .ok (.goto 4, 3) := by decide +kernel
theorem dX6_pair_135 : decode cX6_pair 135 = .ok (.iconst 0, 1) := by decide +kernel
theorem dX6_pair_136 : decode cX6_pair 136 = .ok (.istore 4, 2) := by decide +kernel
theorem dX6_pair_138 : decode cX6_pair 138 = .ok (.iload_n 1, 1) := by decide +kernel
theorem dX6_pair_139 : decode cX6_pair 139 = .ok (.iconst 3, 1) := by decide +kernel
theorem dX6_pair_140 : decode cX6_pair 140 = .ok (.if_icmp .ge 29, 3) := by decide +kernel
theorem dX6_pair_143 : decode cX6_pair 143 = .ok (.iload 4, 2) := by decide +kernel
theorem dX6_pair_145 : decode cX6_pair 145 = .ok (.ifCond .eq 20, 3) := by decide +kernel
theorem dX6_pair_148 : decode cX6_pair 148 = .ok (.aload_n 0, 1) := by decide +kernel
theorem dX6_pair_149 : decode cX6_pair 149 = .ok (.iload_n 3, 1) := by decide +kernel
theorem dX6_pair_150 : decode cX6_pair 150 = .ok (.aload_n 0, 1) := by decide +kernel
theorem dX6_pair_151 : decode cX6_pair 151 = .ok (.getfield 25, 3) := by decide +kernel
theorem dX6_pair_154 : decode cX6_pair 154 = .ok (.bipush 6, 2) := by decide +kernel
theorem dX6_pair_156 : decode cX6_pair 156 = .ok (.iload_n 3, 1) := by decide +kernel
theorem dX6_pair_157 : decode cX6_pair 157 = .ok (.iadd, 1) := by decide +kernel
theorem dX6_pair_158 : decode cX6_pair 158 = .ok (.iaload, 1) := by decide +kernel
theorem dX6_pair_159 : decode cX6_pair 159 = .ok (.invokevirtual 81, 3) := by decide +kernel
theorem dX6_pair_162 : decode cX6_pair 162 = .ok (.goto 36, 3) := by decide +kernel
theorem dX6_pair_165 : decode cX6_pair 165 = .ok (.iconst 0, 1) := by decide +kernel
theorem dX6_pair_166 : decode cX6_pair 166 = .ok (.goto 32, 3) := by decide +kernel
theorem dX6_pair_169 : decode cX6_pair 169 = .ok (.iload 4, 2) := by decide +kernel
theorem dX6_pair_171 : decode cX6_pair 171 = .ok (.ifCond .eq 26, 3) := by decide +kernel
theorem dX6_pair_174 : decode cX6_pair 174 = .ok (.aload_n 0, 1) := by decide +kernel
theorem dX6_pair_175 : decode cX6_pair 175 = .ok (.getfield 19, 3) := by decide +kernel
theorem dX6_pair_178 : decode cX6_pair 178 = .ok (.sipush 400, 3) := by decide +kernel
theorem dX6_pair_181 : decode cX6_pair 181 = .ok (.iload_n 3, 1) := by decide +kernel
theorem dX6_pair_182 : decode cX6_pair 182 = .ok (.imul, 1) := by decide +kernel
theorem dX6_pair_183 : decode cX6_pair 183 = .ok (.aload_n 0, 1) := by decide +kernel
theorem dX6_pair_184 : decode cX6_pair 184 = .ok (.getfield 25, 3) := by decide +kernel
theorem dX6_pair_187 : decode cX6_pair 187 = .ok (.bipush 6, 2) := by decide +kernel
theorem dX6_pair_189 : decode cX6_pair 189 = .ok (.iload_n 3, 1) := by decide +kernel
theorem dX6_pair_190 : decode cX6_pair 190 = .ok (.iadd, 1) := by decide +kernel
theorem dX6_pair_191 : decode cX6_pair 191 = .ok (.iaload, 1) := by decide +kernel
theorem dX6_pair_192 : decode cX6_pair 192 = .ok (.iadd, 1) := by decide +kernel
theorem dX6_pair_193 : decode cX6_pair 193 = .ok (.iaload, 1) := by decide +kernel
theorem dX6_pair_194 : decode cX6_pair 194 = .ok (.goto 4, 3) := by decide +kernel
theorem dX6_pair_197 : decode cX6_pair 197 = .ok (.iconst (-1), 1) := by decide +kernel
theorem dX6_pair_198 : decode cX6_pair 198 = .ok (.ireturn, 1) := by decide +kernel
theorem dX6_mark_0 : decode cX6_mark 0 = .ok (.aload_n 0, 1) := by decide +kernel
theorem dX6_mark_1 : decode cX6_mark 1 = .ok (.aload_n 0, 1) := by decide +kernel
theorem dX6_mark_2 : decode cX6_mark 2 = .ok (.getfield 43, 3) := by decide +kernel
theorem dX6_mark_5 : decode cX6_mark 5 = .ok (.ifCond .eq 7, 3) := by decide +kernel
theorem dX6_mark_8 : decode cX6_mark 8 = .ok (.iconst 0, 1) := by decide +kernel
theorem dX6_mark_9 : decode cX6_mark 9 = .ok (.goto 4, 3) := by decide +kernel
theorem dX6_mark_12 : decode cX6_mark 12 = .ok (.iconst 1, 1) := by decide +kernel
theorem dX6_mark_13 : decode cX6_mark 13 = .ok (.invokevirtual 39, 3) := by decide +kernel
theorem dX6_mark_16 : decode cX6_mark 16 = .ok (.ifCond .eq 5, 3) := by decide +kernel
theorem dX6_mark_19 : decode cX6_mark 19 = .ok (.iconst 0, 1) := by decide +kernel
theorem dX6_mark_20 : decode cX6_mark 20 = .ok (.ireturn, 1) := by decide +kernel
theorem dX6_mark_21 : decode cX6_mark 21 = .ok (.iconst 0, 1) := by decide +kernel
theorem dX6_mark_22 : decode cX6_mark 22 = .ok (.istore_n 1, 1) := by decide +kernel
theorem dX6_mark_23 : decode cX6_mark 23 = .ok (.iload_n 1, 1) := by decide +kernel
theorem dX6_mark_24 : decode cX6_mark 24 = .ok (.bipush 12, 2) := by decide +kernel
theorem dX6_mark_26 : decode cX6_mark 26 = .ok (.if_icmp .ge 24, 3) := by decide +kernel
theorem dX6_mark_29 : decode cX6_mark 29 = .ok (.aload_n 0, 1) := by decide +kernel
theorem dX6_mark_30 : decode cX6_mark 30 = .ok (.getfield 25, 3) := by decide +kernel
theorem dX6_mark_33 : decode cX6_mark 33 = .ok (.bipush 12, 2) := by decide +kernel
theorem dX6_mark_35 : decode cX6_mark 35 = .ok (.iload_n 1, 1) := by decide +kernel
theorem dX6_mark_36 : decode cX6_mark 36 = .ok (.iadd, 1) := by decide +kernel
theorem dX6_mark_37 : decode cX6_mark 37 = .ok (.aload_n 0, 1) := by decide +kernel
theorem dX6_mark_38 : decode cX6_mark 38 = .ok (.getfield 25, 3) := by decide +kernel
theorem dX6_mark_41 : decode cX6_mark 41 = .ok (.iload_n 1, 1) := by decide +kernel
theorem dX6_mark_42 : decode cX6_mark 42 = .ok (.iaload, 1) := by decide +kernel
theorem dX6_mark_43 : decode cX6_mark 43 = .ok (.iastore, 1) := by decide +kernel
theorem dX6_mark_44 : decode cX6_mark 44 = .ok (.iinc 1 1, 3) := by decide +kernel
theorem dX6_mark_47 : decode cX6_mark 47 = .ok (.goto (-24), 3) := by decide +kernel
theorem dX6_mark_50 : decode cX6_mark 50 = .ok (.aload_n 0, 1) := by decide +kernel
theorem dX6_mark_51 : decode cX6_mark 51 = .ok (.iconst 1, 1) := by decide +kernel
theorem dX6_mark_52 : decode cX6_mark 52 = .ok (.putfield 57, 3) := by decide +kernel
theorem dX6_mark_55 : decode cX6_mark 55 = .ok (.aload_n 0, 1) := by decide +kernel
theorem dX6_mark_56 : decode cX6_mark 56 = .ok (.getfield 25, 3) := by decide +kernel
theorem dX6_mark_59 : decode cX6_mark 59 = .ok (.bipush 10, 2) := by decide +kernel
theorem dX6_mark_61 : decode cX6_mark 61 = .ok (.iaload, 1) := by decide +kernel
theorem dX6_mark_62 : decode cX6_mark 62 = .ok (.ireturn, 1) := by decide +kernel
theorem dX6_back_0 : decode cX6_back 0 = .ok (.aload_n 0, 1) := by decide +kernel
theorem dX6_back_1 : decode cX6_back 1 = .ok (.aload_n 0, 1) := by decide +kernel
theorem dX6_back_2 : decode cX6_back 2 = .ok (.getfield 43, 3) := by decide +kernel
theorem dX6_back_5 : decode cX6_back 5 = .ok (.ifCond .eq 14, 3) := by decide +kernel
theorem dX6_back_8 : decode cX6_back 8 = .ok (.aload_n 0, 1) := by decide +kernel
theorem dX6_back_9 : decode cX6_back 9 = .ok (.getfield 57, 3) := by decide +kernel

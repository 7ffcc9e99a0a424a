theorem dX6_back_12 : decode cX6_back 12 = .ok (.ifCond .eq 7, 3) := by decide +kernel
theorem dX6_back_15 : decode cX6_back 15 = .ok (.iconst 0, 1) := by decide +kernel
theorem dX6_back_16 : decode cX6_back 16 = .ok (.goto 4, 3) := by decide +kernel
theorem dX6_back_19 : decode cX6_back 19 = .ok (.iconst 1, 1) := by decide +kernel
theorem dX6_back_20 : decode cX6_back 20 = .ok (.invokevirtual 39, 3) := by decide +kernel
theorem dX6_back_23 : decode cX6_back 23 = .ok (.ifCond .eq 5, 3) := by decide +kernel
theorem dX6_back_26 : decode cX6_back 26 = .ok (.iconst 0, 1) := by decide +kernel
theorem dX6_back_27 : decode cX6_back 27 = .ok (.ireturn, 1) := by decide +kernel
theorem dX6_back_28 : decode cX6_back 28 = .ok (.iconst 0, 1) := by decide +kernel
theorem dX6_back_29 : decode cX6_back 29 = .ok (.istore_n 1, 1) := by decide +kernel
theorem dX6_back_30 : decode cX6_back 30 = .ok (.iload_n 1, 1) := by decide +kernel
theorem dX6_back_31 : decode cX6_back 31 = .ok (.bipush 12, 2) := by decide +kernel
theorem dX6_back_33 : decode cX6_back 33 = .ok (.if_icmp .ge 24, 3) := by decide +kernel
theorem dX6_back_36 : decode cX6_back 36 = .ok (.aload_n 0, 1) := by decide +kernel
theorem dX6_back_37 : decode cX6_back 37 = .ok (.getfield 25, 3) := by decide +kernel
theorem dX6_back_40 : decode cX6_back 40 = .ok (.iload_n 1, 1) := by decide +kernel
theorem dX6_back_41 : decode cX6_back 41 = .ok (.aload_n 0, 1) := by decide +kernel
theorem dX6_back_42 : decode cX6_back 42 = .ok (.getfield 25, 3) := by decide +kernel
theorem dX6_back_45 : decode cX6_back 45 = .ok (.bipush 12, 2) := by decide +kernel
theorem dX6_back_47 : decode cX6_back 47 = .ok (.iload_n 1, 1) := by decide +kernel
theorem dX6_back_48 : decode cX6_back 48 = .ok (.iadd, 1) := by decide +kernel
theorem dX6_back_49 : decode cX6_back 49 = .ok (.iaload, 1) := by decide +kernel
theorem dX6_back_50 : decode cX6_back 50 = .ok (.iastore, 1) := by decide +kernel
theorem dX6_back_51 : decode cX6_back 51 = .ok (.iinc 1 1, 3) := by decide +kernel
theorem dX6_back_54 : decode cX6_back 54 = .ok (.goto (-24), 3) := by decide +kernel
theorem dX6_back_57 : decode cX6_back 57 = .ok (.aload_n 0, 1) := by decide +kernel
theorem dX6_back_58 : decode cX6_back 58 = .ok (.getfield 25, 3) := by decide +kernel
theorem dX6_back_61 : decode cX6_back 61 = .ok (.bipush 10, 2) := by decide +kernel
theorem dX6_back_63 : decode cX6_back 63 = .ok (.iaload, 1) := by decide +kernel
theorem dX6_back_64 : decode cX6_back 64 = .ok (.ireturn, 1) := by decide +kernel
theorem dX6_rowsOf_0 : decode cX6_rowsOf 0 = .ok (.iconst 0, 1) := by decide +kernel
theorem dX6_rowsOf_1 : decode cX6_rowsOf 1 = .ok (.istore_n 3, 1) := by decide +kernel
theorem dX6_rowsOf_2 : decode cX6_rowsOf 2 = .ok (.iconst 0, 1) := by decide +kernel
theorem dX6_rowsOf_3 : decode cX6_rowsOf 3 = .ok (.istore 4, 2) := by decide +kernel
theorem dX6_rowsOf_5 : decode cX6_rowsOf 5 = .ok (.iload 4, 2) := by decide +kernel
theorem dX6_rowsOf_7 : decode cX6_rowsOf 7 = .ok (.aload_n 0, 1) := by decide +kernel
theorem dX6_rowsOf_8 : decode cX6_rowsOf 8 = .ok (.getfield 22, 3) := by decide +kernel
theorem dX6_rowsOf_11 : decode cX6_rowsOf 11 = .ok (.iload_n 1, 1) := by decide +kernel
theorem dX6_rowsOf_12 : decode cX6_rowsOf 12 = .ok (.iaload, 1) := by decide +kernel
theorem dX6_rowsOf_13 : decode cX6_rowsOf 13 = .ok (.if_icmp .ge 34, 3) := by decide +kernel
theorem dX6_rowsOf_16 : decode cX6_rowsOf 16 = .ok (.iload_n 3, 1) := by decide +kernel
theorem dX6_rowsOf_17 : decode cX6_rowsOf 17 = .ok (.aload_n 0, 1) := by decide +kernel
theorem dX6_rowsOf_18 : decode cX6_rowsOf 18 = .ok (.getfield 13, 3) := by decide +kernel
theorem dX6_rowsOf_21 : decode cX6_rowsOf 21 = .ok (.sipush 400, 3) := by decide +kernel
theorem dX6_rowsOf_24 : decode cX6_rowsOf 24 = .ok (.iload_n 1, 1) := by decide +kernel
theorem dX6_rowsOf_25 : decode cX6_rowsOf 25 = .ok (.imul, 1) := by decide +kernel
theorem dX6_rowsOf_26 : decode cX6_rowsOf 26 = .ok (.iload 4, 2) := by decide +kernel
theorem dX6_rowsOf_28 : decode cX6_rowsOf 28 = .ok (.iadd, 1) := by decide +kernel
theorem dX6_rowsOf_29 : decode cX6_rowsOf 29 = .ok (.iaload, 1) := by decide +kernel
theorem dX6_rowsOf_30 : decode cX6_rowsOf 30 = .ok (.iload_n 2, 1) := by decide +kernel
theorem dX6_rowsOf_31 : decode cX6_rowsOf 31 = .ok (.if_icmp .ne 7, 3) := by decide +kernel
theorem dX6_rowsOf_34 : decode cX6_rowsOf 34 = .ok (.iconst 1, 1) := by decide +kernel
theorem dX6_rowsOf_35 : decode cX6_rowsOf 35 = .ok (.goto 4, 3) := by decide +kernel
theorem dX6_rowsOf_38 : decode cX6_rowsOf 38 = .ok (.iconst 0, 1) := by decide +kernel
theorem dX6_rowsOf_39 : decode cX6_rowsOf 39 = .ok (.iadd, 1) := by decide +kernel
theorem dX6_rowsOf_40 : decode cX6_rowsOf 40 = .ok (.istore_n 3, 1) := by decide +kernel
theorem dX6_rowsOf_41 : decode cX6_rowsOf 41 = .ok (.iinc 4 1, 3) := by decide +kernel
theorem dX6_rowsOf_44 : decode cX6_rowsOf 44 = .ok (.goto (-39), 3) := by decide +kernel
theorem dX6_rowsOf_47 : decode cX6_rowsOf 47 = .ok (.iload_n 3, 1) := by decide +kernel
theorem dX6_rowsOf_48 : decode cX6_rowsOf 48 = .ok (.ireturn, 1) := by decide +kernel
theorem dX6_pairs_0 : decode cX6_pairs 0 = .ok (.lconst 0, 1) := by decide +kernel
theorem dX6_pairs_1 : decode cX6_pairs 1 = .ok (.lstore 5, 2) := by decide +kernel
theorem dX6_pairs_3 : decode cX6_pairs 3 = .ok (.iconst 0, 1) := by decide +kernel
theorem dX6_pairs_4 : decode cX6_pairs 4 = .ok (.istore 7, 2) := by decide +kernel
theorem dX6_pairs_6 : decode cX6_pairs 6 = .ok (.iload 7, 2) := by decide +kernel
theorem dX6_pairs_8 : decode cX6_pairs 8 = .ok (.iconst 2, 1) := by decide +kernel
theorem dX6_pairs_9 : decode cX6_pairs 9 = .ok (.if_icmp .ge 116, 3) := by decide +kernel
theorem dX6_pairs_12 : decode cX6_pairs 12 = .ok (.iconst 0, 1) := by decide +kernel
theorem dX6_pairs_13 : decode cX6_pairs 13 = .ok (.istore 8, 2) := by decide +kernel
theorem dX6_pairs_15 : decode cX6_pairs 15 = .ok (.iload 8, 2) := by decide +kernel
theorem dX6_pairs_17 : decode cX6_pairs 17 = .ok (.aload_n 0, 1) := by decide +kernel
theorem dX6_pairs_18 : decode cX6_pairs 18 = .ok (.getfield 22, 3) := by decide +kernel
theorem dX6_pairs_21 : decode cX6_pairs 21 = .ok (.iload 7, 2) := by decide +kernel
theorem dX6_pairs_23 : decode cX6_pairs 23 = .ok (.iaload, 1) := by decide +kernel
theorem dX6_pairs_24 : decode cX6_pairs 24 = .ok (.if_icmp .ge 95, 3) := by decide +kernel
theorem dX6_pairs_27 : decode cX6_pairs 27 = .ok (.aload_n 0, 1) := by decide +kernel
theorem dX6_pairs_28 : decode cX6_pairs 28 = .ok (.getfield 13, 3) := by decide +kernel
theorem dX6_pairs_31 : decode cX6_pairs 31 = .ok (.sipush 400, 3) := by decide +kernel
theorem dX6_pairs_34 : decode cX6_pairs 34 = .ok (.iload 7, 2) := by decide +kernel
theorem dX6_pairs_36 : decode cX6_pairs 36 = .ok (.imul, 1) := by decide +kernel
theorem dX6_pairs_37 : decode cX6_pairs 37 = .ok (.iload 8, 2) := by decide +kernel
theorem dX6_pairs_39 : decode cX6_pairs 39 = .ok (.iadd, 1) := by decide +kernel
theorem dX6_pairs_40 : decode cX6_pairs 40 = .ok (.iaload, 1) := by decide +kernel
theorem dX6_pairs_41 : decode cX6_pairs 41 = .ok (.istore 9, 2) := by decide +kernel
theorem dX6_pairs_43 : decode cX6_pairs 43 = .ok (.iload 9, 2) := by decide +kernel
theorem dX6_pairs_45 : decode cX6_pairs 45 = .ok (.i2l, 1) := by decide +kernel
theorem dX6_pairs_46 : decode cX6_pairs 46 = .ok (.lload_n 3, 1) := by decide +kernel
theorem dX6_pairs_47 : decode cX6_pairs 47 = .ok (.lcmp, 1) := by decide +kernel
theorem dX6_pairs_48 : decode cX6_pairs 48 = .ok (.ifCond .ge 7, 3) := by decide +kernel
theorem dX6_pairs_51 : decode cX6_pairs 51 = .ok (.iconst 1, 1) := by decide +kernel
theorem dX6_pairs_52 : decode cX6_pairs 52 = .ok (.goto 4, 3) := by decide +kernel
theorem dX6_pairs_55 : decode cX6_pairs 55 = .ok (.iconst 0, 1) := by decide +kernel
theorem dX6_pairs_56 : decode cX6_pairs 56 = .ok (.iload_n 2, 1) := by decide +kernel
theorem dX6_pairs_57 : decode cX6_pairs 57 = .ok (.if_icmp .ne 56, 3) := by decide +kernel
theorem dX6_pairs_60 : decode cX6_pairs 60 = .ok (.aload_n 0, 1) := by decide +kernel
theorem dX6_pairs_61 : decode cX6_pairs 61 = .ok (.iconst 1, 1) := by decide +kernel
theorem dX6_pairs_62 : decode cX6_pairs 62 = .ok (.iload 7, 2) := by decide +kernel
theorem dX6_pairs_64 : decode cX6_pairs 64 = .ok (.isub, 1) := by decide +kernel
theorem dX6_pairs_65 : decode cX6_pairs 65 = .ok (.iload 9, 2) := by decide +kernel
theorem dX6_pairs_67 : decode cX6_pairs 67 = .ok (.invokevirtual 84, 3) := by decide +kernel
theorem dX6_pairs_70 : decode cX6_pairs 70 = .ok (.istore 10, 2) := by decide +kernel
theorem dX6_pairs_72 : decode cX6_pairs 72 = .ok (.lload 5, 2) := by decide +kernel
theorem dX6_pairs_74 : decode cX6_pairs 74 = .ok (.iload 10, 2) := by decide +kernel
theorem dX6_pairs_76 : decode cX6_pairs 76 = .ok (.ifCond .ne 22, 3) := by decide +kernel
theorem dX6_pairs_79 : decode cX6_pairs 79 = .ok (.iload_n 1, 1) := by decide +kernel
theorem dX6_pairs_80 : decode cX6_pairs 80 = .ok (.iload 7, 2) := by decide +kernel
theorem dX6_pairs_82 : decode cX6_pairs 82 = .ok (.iconst 1, 1) := by decide +kernel
theorem dX6_pairs_83 : decode cX6_pairs 83 = .ok (.iadd, 1) := by decide +kernel
theorem dX6_pairs_84 : decode cX6_pairs 84 = .ok (.invokestatic 77, 3) := by decide +kernel
theorem dX6_pairs_87 : decode cX6_pairs 87 = .ok (.ifCond .eq 7, 3) := by decide +kernel
theorem dX6_pairs_90 : decode cX6_pairs 90 = .ok (.lconst 1, 1) := by decide +kernel
theorem dX6_pairs_91 : decode cX6_pairs 91 = .ok (.goto 19, 3) := by decide +kernel
theorem dX6_pairs_94 : decode cX6_pairs 94 = .ok (.lconst 0, 1) := by decide +kernel
theorem dX6_pairs_95 : decode cX6_pairs 95 = .ok (.goto 15, 3) := by decide +kernel
theorem dX6_pairs_98 : decode cX6_pairs 98 = .ok (.iload 7, 2) := by decide +kernel
theorem dX6_pairs_100 : decode cX6_pairs 100 = .ok (.ifCond .ne 9, 3) := by decide +kernel
theorem dX6_pairs_103 : decode cX6_pairs 103 = .ok (.iload 10, 2) := by decide +kernel
theorem dX6_pairs_105 : decode cX6_pairs 105 = .ok (.i2l, 1) := by decide +kernel
theorem dX6_pairs_106 : decode cX6_pairs 106 = .ok (.goto 4, 3) := by decide +kernel
theorem dX6_pairs_109 : decode cX6_pairs 109 = .ok (.lconst 0, 1) := by decide +kernel
theorem dX6_pairs_110 : decode cX6_pairs 110 = .ok (.ladd, 1) := by decide +kernel
theorem dX6_pairs_111 : decode cX6_pairs 111 = .ok (.lstore 5, 2) := by decide +kernel
theorem dX6_pairs_113 : decode cX6_pairs 113 = .ok (.iinc 8 1, 3) := by decide +kernel
theorem dX6_pairs_116 : decode cX6_pairs 116 = .ok (.goto (-101), 3) := by decide +kernel
theorem dX6_pairs_119 : decode cX6_pairs 119 = .ok (.iinc 7 1, 3) := by decide +kernel
theorem dX6_pairs_122 : decode cX6_pairs 122 = .ok (.goto (-116), 3) := by decide +kernel
theorem dX6_pairs_125 : decode cX6_pairs 125 = .ok (.lload 5, 2) := by decide +kernel
theorem dX6_pairs_127 : decode cX6_pairs 127 = .ok (.lreturn, 1) := by decide +kernel
theorem dX6_seek_0 : decode cX6_seek 0 = .ok (.aload_n 0, 1) := by decide +kernel
theorem dX6_seek_1 : decode cX6_seek 1 = .ok (.aload_n 0, 1) := by decide +kernel
theorem dX6_seek_2 : decode cX6_seek 2 = .ok (.getfield 43, 3) := by decide +kernel
theorem dX6_seek_5 : decode cX6_seek 5 = .ok (.ifCond .eq 7, 3) := by decide +kernel
theorem dX6_seek_8 : decode cX6_seek 8 = .ok (.iconst 0, 1) := by decide +kernel
theorem dX6_seek_9 : decode cX6_seek 9 = .ok (.goto 4, 3) := by decide +kernel
theorem dX6_seek_12 : decode cX6_seek 12 = .ok (.iconst 1, 1) := by decide +kernel
theorem dX6_seek_13 : decode cX6_seek 13 = .ok (.invokevirtual 39, 3) := by decide +kernel
theorem dX6_seek_16 : decode cX6_seek 16 = .ok (.ifCond .eq 5, 3) := by decide +kernel
theorem dX6_seek_19 : decode cX6_seek 19 = .ok (.iconst 0, 1) := by decide +kernel
theorem dX6_seek_20 : decode cX6_seek 20 = .ok (.ireturn, 1) := by decide +kernel
theorem dX6_seek_21 : decode cX6_seek 21 = .ok (.aload_n 0, 1) := by decide +kernel
theorem dX6_seek_22 : decode cX6_seek 22 = .ok (.invokevirtual 50, 3) := by decide +kernel
theorem dX6_seek_25 : decode cX6_seek 25 = .ok (.iconst 0, 1) := by decide +kernel
theorem dX6_seek_26 : decode cX6_seek 26 = .ok (.istore_n 2, 1) := by decide +kernel
theorem dX6_seek_27 : decode cX6_seek 27 = .ok (.iload_n 2, 1) := by decide +kernel
theorem dX6_seek_28 : decode cX6_seek 28 = .ok (.iconst 2, 1) := by decide +kernel
theorem dX6_seek_29 : decode cX6_seek 29 = .ok (.if_icmp .ge 78, 3) := by decide +kernel
theorem dX6_seek_32 : decode cX6_seek 32 = .ok (.iconst 0, 1) := by decide +kernel
theorem dX6_seek_33 : decode cX6_seek 33 = .ok (.istore_n 3, 1) := by decide +kernel
theorem dX6_seek_34 : decode cX6_seek 34 = .ok (.aload_n 0, 1) := by decide +kernel
theorem dX6_seek_35 : decode cX6_seek 35 = .ok (.getfield 22, 3) := by decide +kernel
theorem dX6_seek_38 : decode cX6_seek 38 = .ok (.iload_n 2, 1) := by decide +kernel
theorem dX6_seek_39 : decode cX6_seek 39 = .ok (.iaload, 1) := by decide +kernel
theorem dX6_seek_40 : decode cX6_seek 40 = .ok (.istore 4, 2) := by decide +kernel
theorem dX6_seek_42 : decode cX6_seek 42 = .ok (.iload_n 3, 1) := by decide +kernel
theorem dX6_seek_43 : decode cX6_seek 43 = .ok (.iload 4, 2) := by decide +kernel
theorem dX6_seek_45 : decode cX6_seek 45 = .ok (.if_icmp .ge 47, 3) := by decide +kernel
theorem dX6_seek_48 : decode cX6_seek 48 = .ok (.iload_n 3, 1) := by decide +kernel
theorem dX6_seek_49 : decode cX6_seek 49 = .ok (.iload 4, 2) := by decide +kernel
theorem dX6_seek_51 : decode cX6_seek 51 = .ok (.iadd, 1) := by decide +kernel
theorem dX6_seek_52 : decode cX6_seek 52 = .ok (.iconst 2, 1) := by decide +kernel
theorem dX6_seek_53 : decode cX6_seek 53 = .ok (.idiv, 1) := by decide +kernel
theorem dX6_seek_54 : decode cX6_seek 54 = .ok (.istore 5, 2) := by decide +kernel
theorem dX6_seek_56 : decode cX6_seek 56 = .ok (.aload_n 0, 1) := by decide +kernel
theorem dX6_seek_57 : decode cX6_seek 57 = .ok (.dup, 1) := by decide +kernel
theorem dX6_seek_58 : decode cX6_seek 58 = .ok (.getfield 53, 3) := by decide +kernel
theorem dX6_seek_61 : decode cX6_seek 61 = .ok (.lconst 1, 1) := by decide +kernel
theorem dX6_seek_62 : decode cX6_seek 62 = .ok (.ladd, 1) := by decide +kernel
theorem dX6_seek_63 : decode cX6_seek 63 = .ok (.putfield 53, 3) := by decide +kernel
theorem dX6_seek_66 : decode cX6_seek 66 = .ok (.aload_n 0, 1) := by decide +kernel
theorem dX6_seek_67 : decode cX6_seek 67 = .ok (.iload_n 2, 1) := by decide +kernel
theorem dX6_seek_68 : decode cX6_seek 68 = .ok (.iload 5, 2) := by decide +kernel
theorem dX6_seek_70 : decode cX6_seek 70 = .ok (.invokevirtual 63, 3) := by decide +kernel
theorem dX6_seek_73 : decode cX6_seek 73 = .ok (.iload_n 1, 1) := by decide +kernel
theorem dX6_seek_74 : decode cX6_seek 74 = .ok (.if_icmp .ge 11, 3) := by decide +kernel
theorem dX6_seek_77 : decode cX6_seek 77 = .ok (.iload 5, 2) := by decide +kernel
theorem dX6_seek_79 : decode cX6_seek 79 = .ok (.iconst 1, 1) := by decide +kernel
theorem dX6_seek_80 : decode cX6_seek 80 = .ok (.iadd, 1) := by decide +kernel
theorem dX6_seek_81 : decode cX6_seek 81 = .ok (.istore_n 3, 1) := by decide +kernel
theorem dX6_seek_82 : decode cX6_seek 82 = .ok (.goto 7, 3) := by decide +kernel
theorem dX6_seek_85 : decode cX6_seek 85 = .ok (.iload 5, 2) := by decide +kernel
theorem dX6_seek_87 : decode cX6_seek 87 = .ok (.istore 4, 2) := by decide +kernel
theorem dX6_seek_89 : decode cX6_seek 89 = .ok (.goto (-47), 3) := by decide +kernel
theorem dX6_seek_92 : decode cX6_seek 92 = .ok (.aload_n 0, 1) := by decide +kernel
theorem dX6_seek_93 : decode cX6_seek 93 = .ok (.getfield 25, 3) := by decide +kernel
theorem dX6_seek_96 : decode cX6_seek 96 = .ok (.iconst 0, 1) := by decide +kernel
theorem dX6_seek_97 : decode cX6_seek 97 = .ok (.iload_n 2, 1) := by decide +kernel
theorem dX6_seek_98 : decode cX6_seek 98 = .ok (.iadd, 1) := by decide +kernel
theorem dX6_seek_99 : decode cX6_seek 99 = .ok (.iload_n 3, 1) := by decide +kernel
theorem dX6_seek_100 : decode cX6_seek 100 = .ok (.iastore, 1) := by decide +kernel
theorem dX6_seek_101 : decode cX6_seek 101 = .ok (.iinc 2 1, 3) := by decide +kernel
theorem dX6_seek_104 : decode cX6_seek 104 = .ok (.goto (-77), 3) := by decide +kernel
theorem dX6_seek_107 : decode cX6_seek 107 = .ok (.aload_n 0, 1) := by decide +kernel
theorem dX6_seek_108 : decode cX6_seek 108 = .ok (.getfield 25, 3) := by decide +kernel
theorem dX6_seek_111 : decode cX6_seek 111 = .ok (.bipush 10, 2) := by decide +kernel
theorem dX6_seek_113 : decode cX6_seek 113 = .ok (.aload_n 0, 1) := by decide +kernel
theorem dX6_seek_114 : decode cX6_seek 114 = .ok (.aload_n 0, 1) := by decide +kernel
theorem dX6_seek_115 : decode cX6_seek 115 = .ok (.getfield 60, 3) := by decide +kernel
theorem dX6_seek_118 : decode cX6_seek 118 = .ok (.iconst 1, 1) := by decide +kernel
theorem dX6_seek_119 : decode cX6_seek 119 = .ok (.iload_n 1, 1) := by decide +kernel
theorem dX6_seek_120 : decode cX6_seek 120 = .ok (.i2l, 1) := by decide +kernel
theorem dX6_seek_121 : decode cX6_seek 121 = .ok (.invokevirtual 87, 3) := by decide +kernel
theorem dX6_seek_124 : decode cX6_seek 124 = .ok (.l2i, 1) := by decide +kernel
theorem dX6_seek_125 : decode cX6_seek 125 = .ok (.iastore, 1) := by decide +kernel
theorem dX6_seek_126 : decode cX6_seek 126 = .ok (.aload_n 0, 1) := by decide +kernel
theorem dX6_seek_127 : decode cX6_seek 127 = .ok (.aload_n 0, 1) := by decide +kernel
theorem dX6_seek_128 : decode cX6_seek 128 = .ok (.getfield 60, 3) := by decide +kernel
theorem dX6_seek_131 : decode cX6_seek 131 = .ok (.iconst 0, 1) := by decide +kernel
theorem dX6_seek_132 : decode cX6_seek 132 = .ok (.iload_n 1, 1) := by decide +kernel
theorem dX6_seek_133 : decode cX6_seek 133 = .ok (.i2l, 1) := by decide +kernel
theorem dX6_seek_134 : decode cX6_seek 134 = .ok (.invokevirtual 87, 3) := by decide +kernel
theorem dX6_seek_137 : decode cX6_seek 137 = .ok (.lconst 0, 1) := by decide +kernel
theorem dX6_seek_138 : decode cX6_seek 138 = .ok (.lcmp, 1) := by decide +kernel
theorem dX6_seek_139 : decode cX6_seek 139 = .ok (.ifCond .le 7, 3) := by decide +kernel
theorem dX6_seek_142 : decode cX6_seek 142 = .ok (.iconst 1, 1) := by decide +kernel
theorem dX6_seek_143 : decode cX6_seek 143 = .ok (.goto 4, 3) := by decide +kernel
theorem dX6_seek_146 : decode cX6_seek 146 = .ok (.iconst 0, 1) := by decide +kernel
theorem dX6_seek_147 : decode cX6_seek 147 = .ok (.ireturn, 1) := by decide +kernel
theorem dX6_rewind_0 : decode cX6_rewind 0 = .ok (.aload_n 0, 1) := by decide +kernel
theorem dX6_rewind_1 : decode cX6_rewind 1 = .ok (.aload_n 0, 1) := by decide +kernel
theorem dX6_rewind_2 : decode cX6_rewind 2 = .ok (.getfield 43, 3) := by decide +kernel
theorem dX6_rewind_5 : decode cX6_rewind 5 = .ok (.ifCond .eq 7, 3) := by decide +kernel
theorem dX6_rewind_8 : decode cX6_rewind 8 = .ok (.iconst 0, 1) := by decide +kernel
theorem dX6_rewind_9 : decode cX6_rewind 9 = .ok (.goto 4, 3) := by decide +kernel
theorem dX6_rewind_12 : decode cX6_rewind 12 = .ok (.iconst 1, 1) := by decide +kernel
theorem dX6_rewind_13 : decode cX6_rewind 13 = .ok (.invokevirtual 39, 3) := by decide +kernel
theorem dX6_rewind_16 : decode cX6_rewind 16 = .ok (.ifCond .eq 4, 3) := by decide +kernel
theorem dX6_rewind_19 : decode cX6_rewind 19 = .ok (.return_, 1) := by decide +kernel
theorem dX6_rewind_20 : decode cX6_rewind 20 = .ok (.aload_n 0, 1) := by decide +kernel
theorem dX6_rewind_21 : decode cX6_rewind 21 = .ok (.invokevirtual 50, 3) := by decide +kernel
theorem dX6_rewind_24 : decode cX6_rewind 24 = .ok (.aload_n 0, 1) := by decide +kernel
theorem dX6_rewind_25 : decode cX6_rewind 25 = .ok (.lconst 0, 1) := by decide +kernel
theorem dX6_rewind_26 : decode cX6_rewind 26 = .ok (.putfield 53, 3) := by decide +kernel
theorem dX6_rewind_29 : decode cX6_rewind 29 = .ok (.return_, 1) := by decide +kernel
theorem dX6_count_0 : decode cX6_count 0 = .ok (.aload_n 0, 1) := by decide +kernel
theorem dX6_count_1 : decode cX6_count 1 = .ok (.iload_n 1, 1) := by decide +kernel
theorem dX6_count_2 : decode cX6_count 2 = .ok (.ifCond .lt 8, 3) := by decide +kernel
theorem dX6_count_5 : decode cX6_count 5 = .ok (.iload_n 1, 1) := by decide +kernel
theorem dX6_count_6 : decode cX6_count 6 = .ok (.iconst 3, 1) := by decide +kernel
theorem dX6_count_7 : decode cX6_count 7 = .ok (.if_icmp .le 7, 3) := by decide +kernel
theorem dX6_count_10 : decode cX6_count 10 = .ok (.iconst 1, 1) := by decide +kernel
theorem dX6_count_11 : decode cX6_count 11 = .ok (.goto 15, 3) := by decide +kernel
theorem dX6_count_14 : decode cX6_count 14 = .ok (.aload_n 0, 1) := by decide +kernel
theorem dX6_count_15 : decode cX6_count 15 = .ok (.getfield 43, 3) := by decide +kernel
theorem dX6_count_18 : decode cX6_count 18 = .ok (.ifCond .eq 7, 3) := by decide +kernel
theorem dX6_count_21 : decode cX6_count 21 = .ok (.iconst 0, 1) := by decide +kernel
theorem dX6_count_22 : decode cX6_count 22 = .ok (.goto 4, 3) := by decide +kernel
theorem dX6_count_25 : decode cX6_count 25 = .ok (.iconst 2, 1) := by decide +kernel
theorem dX6_count_26 : decode cX6_count 26 = .ok (.invokevirtual 39, 3) := by decide +kernel
theorem dX6_count_29 : decode cX6_count 29 = .ok (.ifCond .eq 5, 3) := by decide +kernel
theorem dX6_count_32 : decode cX6_count 32 = .ok (.lconst 0, 1) := by decide +kernel
theorem dX6_count_33 : decode cX6_count 33 = .ok (.lreturn, 1) := by decide +kernel
theorem dX6_count_34 : decode cX6_count 34 = .ok (.aload_n 0, 1) := by decide +kernel
theorem dX6_count_35 : decode cX6_count 35 = .ok (.iload_n 1, 1) := by decide +kernel
theorem dX6_count_36 : decode cX6_count 36 = .ok (.iconst 1, 1) := by decide +kernel
theorem dX6_count_37 : decode cX6_count 37 = .ok (.ldc2_w 91, 3) := by decide +kernel
theorem dX6_count_40 : decode cX6_count 40 = .ok (.invokevirtual 87, 3) := by decide +kernel
theorem dX6_count_43 : decode cX6_count 43 = .ok (.lreturn, 1) := by decide +kernel
theorem dX6_rows_0 : decode cX6_rows 0 = .ok (.aload_n 0, 1) := by decide +kernel
theorem dX6_rows_1 : decode cX6_rows 1 = .ok (.aload_n 0, 1) := by decide +kernel
theorem dX6_rows_2 : decode cX6_rows 2 = .ok (.getfield 43, 3) := by decide +kernel
theorem dX6_rows_5 : decode cX6_rows 5 = .ok (.ifCond .eq 7, 3) := by decide +kernel
theorem dX6_rows_8 : decode cX6_rows 8 = .ok (.iconst 0, 1) := by decide +kernel
theorem dX6_rows_9 : decode cX6_rows 9 = .ok (.goto 4, 3) := by decide +kernel
theorem dX6_rows_12 : decode cX6_rows 12 = .ok (.iconst 1, 1) := by decide +kernel
theorem dX6_rows_13 : decode cX6_rows 13 = .ok (.invokevirtual 39, 3) := by decide +kernel
theorem dX6_rows_16 : decode cX6_rows 16 = .ok (.ifCond .eq 5, 3) := by decide +kernel
theorem dX6_rows_19 : decode cX6_rows 19 = .ok (.iconst 0, 1) := by decide +kernel
theorem dX6_rows_20 : decode cX6_rows 20 = .ok (.ireturn, 1) := by decide +kernel
theorem dX6_rows_21 : decode cX6_rows 21 = .ok (.iload_n 1, 1) := by decide +kernel
theorem dX6_rows_22 : decode cX6_rows 22 = .ok (.ifCond .eq 7, 3) := by decide +kernel
theorem dX6_rows_25 : decode cX6_rows 25 = .ok (.iconst 0, 1) := by decide +kernel
theorem dX6_rows_26 : decode cX6_rows 26 = .ok (.goto 4, 3) := by decide +kernel
theorem dX6_rows_29 : decode cX6_rows 29 = .ok (.iconst 1, 1) := by decide +kernel
theorem dX6_rows_30 : decode cX6_rows 30 = .ok (.istore_n 3, 1) := by decide +kernel
theorem dX6_rows_31 : decode cX6_rows 31 = .ok (.iconst 0, 1) := by decide +kernel
theorem dX6_rows_32 : decode cX6_rows 32 = .ok (.istore 4, 2) := by decide +kernel
theorem dX6_rows_34 : decode cX6_rows 34 = .ok (.iconst 0, 1) := by decide +kernel
theorem dX6_rows_35 : decode cX6_rows 35 = .ok (.istore 5, 2) := by decide +kernel
theorem dX6_rows_37 : decode cX6_rows 37 = .ok (.iload 5, 2) := by decide +kernel
theorem dX6_rows_39 : decode cX6_rows 39 = .ok (.aload_n 0, 1) := by decide +kernel
theorem dX6_rows_40 : decode cX6_rows 40 = .ok (.getfield 22, 3) := by decide +kernel
theorem dX6_rows_43 : decode cX6_rows 43 = .ok (.iload_n 3, 1) := by decide +kernel
theorem dX6_rows_44 : decode cX6_rows 44 = .ok (.iaload, 1) := by decide +kernel
theorem dX6_rows_45 : decode cX6_rows 45 = .ok (.if_icmp .ge 51, 3) := by decide +kernel
theorem dX6_rows_48 : decode cX6_rows 48 = .ok (.iload 4, 2) := by decide +kernel
theorem dX6_rows_50 : decode cX6_rows 50 = .ok (.aload_n 0, 1) := by decide +kernel
theorem dX6_rows_51 : decode cX6_rows 51 = .ok (.iconst 1, 1) := by decide +kernel
theorem dX6_rows_52 : decode cX6_rows 52 = .ok (.iload_n 3, 1) := by decide +kernel
theorem dX6_rows_53 : decode cX6_rows 53 = .ok (.isub, 1) := by decide +kernel
theorem dX6_rows_54 : decode cX6_rows 54 = .ok (.aload_n 0, 1) := by decide +kernel
theorem dX6_rows_55 : decode cX6_rows 55 = .ok (.getfield 13, 3) := by decide +kernel
theorem dX6_rows_58 : decode cX6_rows 58 = .ok (.sipush 400, 3) := by decide +kernel
theorem dX6_rows_61 : decode cX6_rows 61 = .ok (.iload_n 3, 1) := by decide +kernel
theorem dX6_rows_62 : decode cX6_rows 62 = .ok (.imul, 1) := by decide +kernel
theorem dX6_rows_63 : decode cX6_rows 63 = .ok (.iload 5, 2) := by decide +kernel
theorem dX6_rows_65 : decode cX6_rows 65 = .ok (.iadd, 1) := by decide +kernel
theorem dX6_rows_66 : decode cX6_rows 66 = .ok (.iaload, 1) := by decide +kernel
theorem dX6_rows_67 : decode cX6_rows 67 = .ok (.invokevirtual 84, 3) := by decide +kernel
theorem dX6_rows_70 : decode cX6_rows 70 = .ok (.ifCond .le 7, 3) := by decide +kernel
theorem dX6_rows_73 : decode cX6_rows 73 = .ok (.iconst 1, 1) := by decide +kernel
theorem dX6_rows_74 : decode cX6_rows 74 = .ok (.goto 4, 3) := by decide +kernel
theorem dX6_rows_77 : decode cX6_rows 77 = .ok (.iconst 0, 1) := by decide +kernel
theorem dX6_rows_78 : decode cX6_rows 78 = .ok (.iload_n 2, 1) := by decide +kernel
theorem dX6_rows_79 : decode cX6_rows 79 = .ok (.if_icmp .ne 7, 3) := by decide +kernel
theorem dX6_rows_82 : decode cX6_rows 82 = .ok (.iconst 1, 1) := by decide +kernel
theorem dX6_rows_83 : decode cX6_rows 83 = .ok (.goto 4, 3) := by decide +kernel
theorem dX6_rows_86 : decode cX6_rows 86 = .ok (.iconst 0, 1) := by decide +kernel
theorem dX6_rows_87 : decode cX6_rows 87 = .ok (.iadd, 1) := by decide +kernel
theorem dX6_rows_88 : decode cX6_rows 88 = .ok (.istore 4, 2) := by decide +kernel
theorem dX6_rows_90 : decode cX6_rows 90 = .ok (.iinc 5 1, 3) := by decide +kernel
theorem dX6_rows_93 : decode cX6_rows 93 = .ok (.goto (-56), 3) := by decide +kernel
theorem dX6_rows_96 : decode cX6_rows 96 = .ok (.iload 4, 2) := by decide +kernel
theorem dX6_rows_98 : decode cX6_rows 98 = .ok (.ireturn, 1) := by decide +kernel
theorem dX6_groupAt_0 : decode cX6_groupAt 0 = .ok (.iconst 0, 1) := by decide +kernel
theorem dX6_groupAt_1 : decode cX6_groupAt 1 = .ok (.istore_n 2, 1) := by decide +kernel
theorem dX6_groupAt_2 : decode cX6_groupAt 2 = .ok (.iconst 0, 1) := by decide +kernel
theorem dX6_groupAt_3 : decode cX6_groupAt 3 = .ok (.istore_n 3, 1) := by decide +kernel
theorem dX6_groupAt_4 : decode cX6_groupAt 4 = .ok (.iload_n 3, 1) := by decide +kernel
theorem dX6_groupAt_5 : decode cX6_groupAt 5 = .ok (.aload_n 0, 1) := by decide +kernel
theorem dX6_groupAt_6 : decode cX6_groupAt 6 = .ok (.getfield 22, 3) := by decide +kernel
theorem dX6_groupAt_9 : decode cX6_groupAt 9 = .ok (.iconst 0, 1) := by decide +kernel
theorem dX6_groupAt_10 : decode cX6_groupAt 10 = .ok (.iaload, 1) := by decide +kernel
theorem dX6_groupAt_11 : decode cX6_groupAt 11 = .ok (.if_icmp .ge 66, 3) := by decide +kernel
theorem dX6_groupAt_14 : decode cX6_groupAt 14 = .ok (.iload_n 3, 1) := by decide +kernel
theorem dX6_groupAt_15 : decode cX6_groupAt 15 = .ok (.ifCond .eq 20, 3) := by decide +kernel
theorem dX6_groupAt_18 : decode cX6_groupAt 18 = .ok (.aload_n 0, 1) := by decide +kernel
theorem dX6_groupAt_19 : decode cX6_groupAt 19 = .ok (.iconst 0, 1) := by decide +kernel
theorem dX6_groupAt_20 : decode cX6_groupAt 20 = .ok (.iload_n 3, 1) := by decide +kernel
theorem dX6_groupAt_21 : decode cX6_groupAt 21 = .ok (.invokevirtual 63, 3) := by decide +kernel
theorem dX6_groupAt_24 : decode cX6_groupAt 24 = .ok (.aload_n 0, 1) := by decide +kernel
theorem dX6_groupAt_25 : decode cX6_groupAt 25 = .ok (.iconst 0, 1) := by decide +kernel
theorem dX6_groupAt_26 : decode cX6_groupAt 26 = .ok (.iload_n 3, 1) := by decide +kernel
theorem dX6_groupAt_27 : decode cX6_groupAt 27 = .ok (.iconst 1, 1) := by decide +kernel
theorem dX6_groupAt_28 : decode cX6_groupAt 28 = .ok (.isub, 1) := by decide +kernel
theorem dX6_groupAt_29 : decode cX6_groupAt 29 = .ok (.invokevirtual 63, 3) := by decide +kernel
theorem dX6_groupAt_32 : decode cX6_groupAt 32 = .ok (.if_icmp .eq 7, 3) := by decide +kernel
theorem dX6_groupAt_35 : decode cX6_groupAt 35 = .ok (.iconst 1, 1) := by decide +kernel
theorem dX6_groupAt_36 : decode cX6_groupAt 36 = .ok (.goto 4, 3) := by decide +kernel
theorem dX6_groupAt_39 : decode cX6_groupAt 39 = .ok (.iconst 0, 1) := by decide +kernel
theorem dX6_groupAt_40 : decode cX6_groupAt 40 = .ok (.istore 4, 2) := by decide +kernel
theorem dX6_groupAt_42 : decode cX6_groupAt 42 = .ok (.iload 4, 2) := by decide +kernel
theorem dX6_groupAt_44 : decode cX6_groupAt 44 = .ok (.ifCond .eq 27, 3) := by decide +kernel
theorem dX6_groupAt_47 : decode cX6_groupAt 47 = .ok (.aload_n 0, 1) := by decide +kernel
theorem dX6_groupAt_48 : decode cX6_groupAt 48 = .ok (.iconst 1, 1) := by decide +kernel
theorem dX6_groupAt_49 : decode cX6_groupAt 49 = .ok (.aload_n 0, 1) := by decide +kernel
theorem dX6_groupAt_50 : decode cX6_groupAt 50 = .ok (.iconst 0, 1) := by decide +kernel
theorem dX6_groupAt_51 : decode cX6_groupAt 51 = .ok (.iload_n 3, 1) := by decide +kernel
theorem dX6_groupAt_52 : decode cX6_groupAt 52 = .ok (.invokevirtual 63, 3) := by decide +kernel
theorem dX6_groupAt_55 : decode cX6_groupAt 55 = .ok (.invokevirtual 84, 3) := by decide +kernel
theorem dX6_groupAt_58 : decode cX6_groupAt 58 = .ok (.ifCond .le 13, 3) := by decide +kernel
theorem dX6_groupAt_61 : decode cX6_groupAt 61 = .ok (.iload_n 2, 1) := by decide +kernel
theorem dX6_groupAt_62 : decode cX6_groupAt 62 = .ok (.iload_n 1, 1) := by decide +kernel
theorem dX6_groupAt_63 : decode cX6_groupAt 63 = .ok (.if_icmp .ne 5, 3) := by decide +kernel
theorem dX6_groupAt_66 : decode cX6_groupAt 66 = .ok (.iload_n 3, 1) := by decide +kernel
theorem dX6_groupAt_67 : decode cX6_groupAt 67 = .ok (.ireturn, 1) := by decide +kernel
theorem dX6_groupAt_68 : decode cX6_groupAt 68 = .ok (.iinc 2 1, 3) := by decide +kernel
theorem dX6_groupAt_71 : decode cX6_groupAt 71 = .ok (.iinc 3 1, 3) := by decide +kernel
theorem dX6_groupAt_74 : decode cX6_groupAt 74 = .ok (.goto (-70), 3) := by decide +kernel
theorem dX6_groupAt_77 : decode cX6_groupAt 77 = .ok (.iload_n 2, 1) := by decide +kernel
theorem dX6_groupAt_78 : decode cX6_groupAt 78 = .ok (.ireturn, 1) := by decide +kernel
theorem dX6_groups_0 : decode cX6_groups 0 = .ok (.aload_n 0, 1) := by decide +kernel
theorem dX6_groups_1 : decode cX6_groups 1 = .ok (.aload_n 0, 1) := by decide +kernel
theorem dX6_groups_2 : decode cX6_groups 2 = .ok (.getfield 43, 3) := by decide +kernel
theorem dX6_groups_5 : decode cX6_groups 5 = .ok (.ifCond .eq 7, 3) := by decide +kernel
theorem dX6_groups_8 : decode cX6_groups 8 = .ok (.iconst 0, 1) := by decide +kernel
theorem dX6_groups_9 : decode cX6_groups 9 = .ok (.goto 4, 3) := by decide +kernel
theorem dX6_groups_12 : decode cX6_groups 12 = .ok (.iconst 1, 1) := by decide +kernel
theorem dX6_groups_13 : decode cX6_groups 13 = .ok (.invokevirtual 39, 3) := by decide +kernel
theorem dX6_groups_16 : decode cX6_groups 16 = .ok (.ifCond .eq 5, 3) := by decide +kernel
theorem dX6_groups_19 : decode cX6_groups 19 = .ok (.iconst 0, 1) := by decide +kernel
theorem dX6_groups_20 : decode cX6_groups 20 = .ok (.ireturn, 1) := by decide +kernel
theorem dX6_groups_21 : decode cX6_groups 21 = .ok (.aload_n 0, 1) := by decide +kernel
theorem dX6_groups_22 : decode cX6_groups 22 = .ok (.iconst (-1), 1) := by decide +kernel
theorem dX6_groups_23 : decode cX6_groups 23 = .ok (.invokevirtual 93, 3) := by decide +kernel
theorem dX6_groups_26 : decode cX6_groups 26 = .ok (.istore_n 1, 1) := by decide +kernel
theorem dX6_groups_27 : decode cX6_groups 27 = .ok (.aload_n 0, 1) := by decide +kernel
theorem dX6_groups_28 : decode cX6_groups 28 = .ok (.iload_n 1, 1) := by decide +kernel
theorem dX6_groups_29 : decode cX6_groups 29 = .ok (.aload_n 0, 1) := by decide +kernel
theorem dX6_groups_30 : decode cX6_groups 30 = .ok (.getfield 32, 3) := by decide +kernel
theorem dX6_groups_33 : decode cX6_groups 33 = .ok (.if_icmp .gt 7, 3) := by decide +kernel
theorem dX6_groups_36 : decode cX6_groups 36 = .ok (.iconst 1, 1) := by decide +kernel
theorem dX6_groups_37 : decode cX6_groups 37 = .ok (.goto 4, 3) := by decide +kernel
theorem dX6_groups_40 : decode cX6_groups 40 = .ok (.iconst 0, 1) := by decide +kernel
theorem dX6_groups_41 : decode cX6_groups 41 = .ok (.putfield 47, 3) := by decide +kernel
theorem dX6_groups_44 : decode cX6_groups 44 = .ok (.aload_n 0, 1) := by decide +kernel
theorem dX6_groups_45 : decode cX6_groups 45 = .ok (.aload_n 0, 1) := by decide +kernel
theorem dX6_groups_46 : decode cX6_groups 46 = .ok (.getfield 47, 3) := by decide +kernel
theorem dX6_groups_49 : decode cX6_groups 49 = .ok (.ifCond .eq 7, 3) := by decide +kernel
theorem dX6_groups_52 : decode cX6_groups 52 = .ok (.iconst 0, 1) := by decide +kernel
theorem dX6_groups_53 : decode cX6_groups 53 = .ok (.goto 4, 3) := by decide +kernel
theorem dX6_groups_56 : decode cX6_groups 56 = .ok (.iconst 2, 1) := by decide +kernel
theorem dX6_groups_57 : decode cX6_groups 57 = .ok (.invokevirtual 39, 3) := by decide +kernel
theorem dX6_groups_60 : decode cX6_groups 60 = .ok (.ifCond .eq 7, 3) := by decide +kernel
theorem dX6_groups_63 : decode cX6_groups 63 = .ok (.iconst 0, 1) := by decide +kernel
theorem dX6_groups_64 : decode cX6_groups 64 = .ok (.goto 4, 3) := by decide +kernel
theorem dX6_groups_67 : decode cX6_groups 67 = .ok (.iload_n 1, 1) := by decide +kernel
theorem dX6_groups_68 : decode cX6_groups 68 = .ok (.ireturn, 1) := by decide +kernel
theorem dX6_group_0 : decode cX6_group 0 = .ok (.aload_n 0, 1) := by decide +kernel
theorem dX6_group_1 : decode cX6_group 1 = .ok (.getfield 43, 3) := by decide +kernel
theorem dX6_group_4 : decode cX6_group 4 = .ok (.ifCond .eq 14, 3) := by decide +kernel
theorem dX6_group_7 : decode cX6_group 7 = .ok (.aload_n 0, 1) := by decide +kernel
theorem dX6_group_8 : decode cX6_group 8 = .ok (.getfield 47, 3) := by decide +kernel
theorem dX6_group_11 : decode cX6_group 11 = .ok (.ifCond .eq 7, 3) := by decide +kernel
theorem dX6_group_14 : decode cX6_group 14 = .ok (.iconst 1, 1) := by decide +kernel
theorem dX6_group_15 : decode cX6_group 15 = .ok (.goto 4, 3) := by decide +kernel
theorem dX6_group_18 : decode cX6_group 18 = .ok (.iconst 0, 1) := by decide +kernel
theorem dX6_group_19 : decode cX6_group 19 = .ok (.istore_n 3, 1) := by decide +kernel
theorem dX6_group_20 : decode cX6_group 20 = .ok (.aload_n 0, 1) := by decide +kernel
theorem dX6_group_21 : decode cX6_group 21 = .ok (.iload_n 1, 1) := by decide +kernel
theorem dX6_group_22 : decode cX6_group 22 = .ok (.ifCond .lt 25, 3) := by decide +kernel
theorem dX6_group_25 : decode cX6_group 25 = .ok (.iload_n 2, 1) := by decide +kernel
theorem dX6_group_26 : decode cX6_group 26 = .ok (.ifCond .lt 21, 3) := by decide +kernel
theorem dX6_group_29 : decode cX6_group 29 = .ok (.iload_n 2, 1) := by decide +kernel
theorem dX6_group_30 : decode cX6_group 30 = .ok (.iconst 4, 1) := by decide +kernel
theorem dX6_group_31 : decode cX6_group 31 = .ok (.if_icmp .gt 16, 3) := by decide +kernel
theorem dX6_group_34 : decode cX6_group 34 = .ok (.iload_n 3, 1) := by decide +kernel
theorem dX6_group_35 : decode cX6_group 35 = .ok (.ifCond .eq 16, 3) := by decide +kernel
theorem dX6_group_38 : decode cX6_group 38 = .ok (.iload_n 1, 1) := by decide +kernel
theorem dX6_group_39 : decode cX6_group 39 = .ok (.aload_n 0, 1) := by decide +kernel
theorem dX6_group_40 : decode cX6_group 40 = .ok (.iconst (-1), 1) := by decide +kernel
theorem dX6_group_41 : decode cX6_group 41 = .ok (.invokevirtual 93, 3) := by decide +kernel
theorem dX6_group_44 : decode cX6_group 44 = .ok (.if_icmp .lt 7, 3) := by decide +kernel
theorem dX6_group_47 : decode cX6_group 47 = .ok (.iconst 1, 1) := by decide +kernel
theorem dX6_group_48 : decode cX6_group 48 = .ok (.goto 12, 3) := by decide +kernel
theorem dX6_group_51 : decode cX6_group 51 = .ok (.iload_n 3, 1) := by decide +kernel
theorem dX6_group_52 : decode cX6_group 52 = .ok (.ifCond .eq 7, 3) := by decide +kernel
theorem dX6_group_55 : decode cX6_group 55 = .ok (.iconst 0, 1) := by decide +kernel
theorem dX6_group_56 : decode cX6_group 56 = .ok (.goto 4, 3) := by decide +kernel
theorem dX6_group_59 : decode cX6_group 59 = .ok (.iconst 2, 1) := by decide +kernel
theorem dX6_group_60 : decode cX6_group 60 = .ok (.invokevirtual 39, 3) := by decide +kernel
theorem dX6_group_63 : decode cX6_group 63 = .ok (.ifCond .eq 5, 3) := by decide +kernel
theorem dX6_group_66 : decode cX6_group 66 = .ok (.lconst 0, 1) := by decide +kernel
theorem dX6_group_67 : decode cX6_group 67 = .ok (.lreturn, 1) := by decide +kernel
theorem dX6_group_68 : decode cX6_group 68 = .ok (.aload_n 0, 1) := by decide +kernel
theorem dX6_group_69 : decode cX6_group 69 = .ok (.iconst 0, 1) := by decide +kernel
theorem dX6_group_70 : decode cX6_group 70 = .ok (.aload_n 0, 1) := by decide +kernel
theorem dX6_group_71 : decode cX6_group 71 = .ok (.iload_n 1, 1) := by decide +kernel
theorem dX6_group_72 : decode cX6_group 72 = .ok (.invokevirtual 93, 3) := by decide +kernel
theorem dX6_group_75 : decode cX6_group 75 = .ok (.invokevirtual 63, 3) := by decide +kernel
theorem dX6_group_78 : decode cX6_group 78 = .ok (.istore 4, 2) := by decide +kernel
theorem dX6_group_80 : decode cX6_group 80 = .ok (.lconst 0, 1) := by decide +kernel
theorem dX6_group_81 : decode cX6_group 81 = .ok (.lstore 5, 2) := by decide +kernel
theorem dX6_group_83 : decode cX6_group 83 = .ok (.lconst 0, 1) := by decide +kernel
theorem dX6_group_84 : decode cX6_group 84 = .ok (.lstore 7, 2) := by decide +kernel
theorem dX6_group_86 : decode cX6_group 86 = .ok (.aload_n 0, 1) := by decide +kernel
theorem dX6_group_87 : decode cX6_group 87 = .ok (.ldc2_w 96, 3) := by decide +kernel
theorem dX6_group_90 : decode cX6_group 90 = .ok (.putfield 98, 3) := by decide +kernel
theorem dX6_group_93 : decode cX6_group 93 = .ok (.aload_n 0, 1) := by decide +kernel
theorem dX6_group_94 : decode cX6_group 94 = .ok (.ldc2_w 101, 3) := by decide +kernel
theorem dX6_group_97 : decode cX6_group 97 = .ok (.putfield 103, 3) := by decide +kernel
theorem dX6_group_100 : decode cX6_group 100 = .ok (.iconst 0, 1) := by decide +kernel
theorem dX6_group_101 : decode cX6_group 101 = .ok (.istore 9, 2) := by decide +kernel
theorem dX6_group_103 : decode cX6_group 103 = .ok (.iload 9, 2) := by decide +kernel
theorem dX6_group_105 : decode cX6_group 105 = .ok (.aload_n 0, 1) := by decide +kernel
theorem dX6_group_106 : decode cX6_group 106 = .ok (.getfield 22, 3) := by decide +kernel
theorem dX6_group_109 : decode cX6_group 109 = .ok (.iconst 0, 1) := by decide +kernel
theorem dX6_group_110 : decode cX6_group 110 = .ok (.iaload, 1) := by decide +kernel
theorem dX6_group_111 : decode cX6_group 111 = .ok (.if_icmp .ge 139, 3) := by decide +kernel
theorem dX6_group_114 : decode cX6_group 114 = .ok (.iconst 0, 1) := by decide +kernel
theorem dX6_group_115 : decode cX6_group 115 = .ok (.istore 10, 2) := by decide +kernel
theorem dX6_group_117 : decode cX6_group 117 = .ok (.iload 10, 2) := by decide +kernel
theorem dX6_group_119 : decode cX6_group 119 = .ok (.aload_n 0, 1) := by decide +kernel
theorem dX6_group_120 : decode cX6_group 120 = .ok (.getfield 22, 3) := by decide +kernel
theorem dX6_group_123 : decode cX6_group 123 = .ok (.iconst 1, 1) := by decide +kernel
theorem dX6_group_124 : decode cX6_group 124 = .ok (.iaload, 1) := by decide +kernel
theorem dX6_group_125 : decode cX6_group 125 = .ok (.if_icmp .ge 119, 3) := by decide +kernel
theorem dX6_group_128 : decode cX6_group 128 = .ok (.aload_n 0, 1) := by decide +kernel
theorem dX6_group_129 : decode cX6_group 129 = .ok (.getfield 13, 3) := by decide +kernel
theorem dX6_group_132 : decode cX6_group 132 = .ok (.iload 9, 2) := by decide +kernel
theorem dX6_group_134 : decode cX6_group 134 = .ok (.iaload, 1) := by decide +kernel
theorem dX6_group_135 : decode cX6_group 135 = .ok (.iload 4, 2) := by decide +kernel
theorem dX6_group_137 : decode cX6_group 137 = .ok (.if_icmp .ne 107, 3) := by decide +kernel
theorem dX6_group_140 : decode cX6_group 140 = .ok (.aload_n 0, 1) := by decide +kernel
theorem dX6_group_141 : decode cX6_group 141 = .ok (.getfield 13, 3) := by decide +kernel
theorem dX6_group_144 : decode cX6_group 144 = .ok (.sipush 400, 3) := by decide +kernel
theorem dX6_group_147 : decode cX6_group 147 = .ok (.iload 10, 2) := by decide +kernel
theorem dX6_group_149 : decode cX6_group 149 = .ok (.iadd, 1) := by decide +kernel
theorem dX6_group_150 : decode cX6_group 150 = .ok (.iaload, 1) := by decide +kernel
theorem dX6_group_151 : decode cX6_group 151 = .ok (.iload 4, 2) := by decide +kernel
theorem dX6_group_153 : decode cX6_group 153 = .ok (.if_icmp .ne 85, 3) := by decide +kernel
theorem dX6_group_156 : decode cX6_group 156 = .ok (.aload_n 0, 1) := by decide +kernel
theorem dX6_group_157 : decode cX6_group 157 = .ok (.getfield 16, 3) := by decide +kernel
theorem dX6_group_160 : decode cX6_group 160 = .ok (.iload 9, 2) := by decide +kernel
theorem dX6_group_162 : decode cX6_group 162 = .ok (.iaload, 1) := by decide +kernel
theorem dX6_group_163 : decode cX6_group 163 = .ok (.i2l, 1) := by decide +kernel
theorem dX6_group_164 : decode cX6_group 164 = .ok (.aload_n 0, 1) := by decide +kernel
theorem dX6_group_165 : decode cX6_group 165 = .ok (.getfield 16, 3) := by decide +kernel
theorem dX6_group_168 : decode cX6_group 168 = .ok (.sipush 400, 3) := by decide +kernel
theorem dX6_group_171 : decode cX6_group 171 = .ok (.iload 10, 2) := by decide +kernel
theorem dX6_group_173 : decode cX6_group 173 = .ok (.iadd, 1) := by decide +kernel
theorem dX6_group_174 : decode cX6_group 174 = .ok (.iaload, 1) := by decide +kernel
theorem dX6_group_175 : decode cX6_group 175 = .ok (.i2l, 1) := by decide +kernel
theorem dX6_group_176 : decode cX6_group 176 = .ok (.lmul, 1) := by decide +kernel
theorem dX6_group_177 : decode cX6_group 177 = .ok (.lstore 11, 2) := by decide +kernel
theorem dX6_group_179 : decode cX6_group 179 = .ok (.lload 5, 2) := by decide +kernel
theorem dX6_group_181 : decode cX6_group 181 = .ok (.lload 11, 2) := by decide +kernel
theorem dX6_group_183 : decode cX6_group 183 = .ok (.ladd, 1) := by decide +kernel
theorem dX6_group_184 : decode cX6_group 184 = .ok (.lstore 5, 2) := by decide +kernel
theorem dX6_group_186 : decode cX6_group 186 = .ok (.lload 7, 2) := by decide +kernel
theorem dX6_group_188 : decode cX6_group 188 = .ok (.lconst 1, 1) := by decide +kernel
theorem dX6_group_189 : decode cX6_group 189 = .ok (.ladd, 1) := by decide +kernel
theorem dX6_group_190 : decode cX6_group 190 = .ok (.lstore 7, 2) := by decide +kernel
theorem dX6_group_192 : decode cX6_group 192 = .ok (.aload_n 0, 1) := by decide +kernel
theorem dX6_group_193 : decode cX6_group 193 = .ok (.lload 11, 2) := by decide +kernel
theorem dX6_group_195 : decode cX6_group 195 = .ok (.aload_n 0, 1) := by decide +kernel
theorem dX6_group_196 : decode cX6_group 196 = .ok (.getfield 98, 3) := by decide +kernel
theorem dX6_group_199 : decode cX6_group 199 = .ok (.lcmp, 1) := by decide +kernel
theorem dX6_group_200 : decode cX6_group 200 = .ok (.ifCond .ge 8, 3) := by decide +kernel
theorem dX6_group_203 : decode cX6_group 203 = .ok (.lload 11, 2) := by decide +kernel
theorem dX6_group_205 : decode cX6_group 205 = .ok (.goto 7, 3) := by decide +kernel
theorem dX6_group_208 : decode cX6_group 208 = .ok (.aload_n 0, 1) := by decide +kernel
theorem dX6_group_209 : decode cX6_group 209 = .ok (.getfield 98, 3) := by decide +kernel
theorem dX6_group_212 : decode cX6_group 212 = .ok (.putfield 98, 3) := by decide +kernel
theorem dX6_group_215 : decode cX6_group 215 = .ok (.aload_n 0, 1) := by decide +kernel
theorem dX6_group_216 : decode cX6_group 216 = .ok (.lload 11, 2) := by decide +kernel
theorem dX6_group_218 : decode cX6_group 218 = .ok (.aload_n 0, 1) := by decide +kernel
theorem dX6_group_219 : decode cX6_group 219 = .ok (.getfield 103, 3) := by decide +kernel
theorem dX6_group_222 : decode cX6_group 222 = .ok (.lcmp, 1) := by decide +kernel
theorem dX6_group_223 : decode cX6_group 223 = .ok (.ifCond .le 8, 3) := by decide +kernel
theorem dX6_group_226 : decode cX6_group 226 = .ok (.lload 11, 2) := by decide +kernel
theorem dX6_group_228 : decode cX6_group 228 = .ok (.goto 7, 3) := by decide +kernel
theorem dX6_group_231 : decode cX6_group 231 = .ok (.aload_n 0, 1) := by decide +kernel
theorem dX6_group_232 : decode cX6_group 232 = .ok (.getfield 103, 3) := by decide +kernel
theorem dX6_group_235 : decode cX6_group 235 = .ok (.putfield 103, 3) := by decide +kernel
theorem dX6_group_238 : decode cX6_group 238 = .ok (.iinc 10 1, 3) := by decide +kernel
theorem dX6_group_241 : decode cX6_group 241 = .ok (.goto (-124), 3) := by decide +kernel
theorem dX6_group_244 : decode cX6_group 244 = .ok (.iinc 9 1, 3) := by decide +kernel
theorem dX6_group_247 : decode cX6_group 247 = .ok (.goto (-144), 3) := by decide +kernel
theorem dX6_group_250 : decode cX6_group 250 = .ok (.iload_n 2, 1) := by decide +kernel
theorem dX6_group_251 : decode cX6_group 251 = .ok (.ifCond .ne 9, 3) := by decide +kernel
theorem dX6_group_254 : decode cX6_group 254 = .ok (.iload 4, 2) := by decide +kernel
theorem dX6_group_256 : decode cX6_group 256 = .ok (.i2l, 1) := by decide +kernel
theorem dX6_group_257 : decode cX6_group 257 = .ok (.goto 39, 3) := by decide +kernel
theorem dX6_group_260 : decode cX6_group 260 = .ok (.iload_n 2, 1) := by decide +kernel
theorem dX6_group_261 : decode cX6_group 261 = .ok (.iconst 1, 1) := by decide +kernel
theorem dX6_group_262 : decode cX6_group 262 = .ok (.if_icmp .ne 8, 3) := by decide +kernel
theorem dX6_group_265 : decode cX6_group 265 = .ok (.lload 7, 2) := by decide +kernel
theorem dX6_group_267 : decode cX6_group 267 = .ok (.goto 29, 3) := by decide +kernel
theorem dX6_group_270 : decode cX6_group 270 = .ok (.iload_n 2, 1) := by decide +kernel
theorem dX6_group_271 : decode cX6_group 271 = .ok (.iconst 2, 1) := by decide +kernel
theorem dX6_group_272 : decode cX6_group 272 = .ok (.if_icmp .ne 8, 3) := by decide +kernel
theorem dX6_group_275 : decode cX6_group 275 = .ok (.lload 5, 2) := by decide +kernel
theorem dX6_group_277 : decode cX6_group 277 = .ok (.goto 19, 3) := by decide +kernel
theorem dX6_group_280 : decode cX6_group 280 = .ok (.iload_n 2, 1) := by decide +kernel
theorem dX6_group_281 : decode cX6_group 281 = .ok (.iconst 3, 1) := by decide +kernel
theorem dX6_group_282 : decode cX6_group 282 = .ok (.if_icmp .ne 10, 3) := by decide +kernel
theorem dX6_group_285 : decode cX6_group 285 = .ok (.aload_n 0, 1) := by decide +kernel
theorem dX6_group_286 : decode cX6_group 286 = .ok (.getfield 98, 3) := by decide +kernel
theorem dX6_group_289 : decode cX6_group 289 = .ok (.goto 7, 3) := by decide +kernel
theorem dX6_group_292 : decode cX6_group 292 = .ok (.aload_n 0, 1) := by decide +kernel
theorem dX6_group_293 : decode cX6_group 293 = .ok (.getfield 103, 3) := by decide +kernel
theorem dX6_group_296 : decode cX6_group 296 = .ok (.lreturn, 1) := by decide +kernel
theorem dX6_sorted_0 : decode cX6_sorted 0 = .ok (.iload_n 1, 1) := by decide +kernel
theorem dX6_sorted_1 : decode cX6_sorted 1 = .ok (.ifCond .eq 7, 3) := by decide +kernel
theorem dX6_sorted_4 : decode cX6_sorted 4 = .ok (.iconst 0, 1) := by decide +kernel
theorem dX6_sorted_5 : decode cX6_sorted 5 = .ok (.goto 4, 3) := by decide +kernel
theorem dX6_sorted_8 : decode cX6_sorted 8 = .ok (.iconst 1, 1) := by decide +kernel
theorem dX6_sorted_9 : decode cX6_sorted 9 = .ok (.istore 4, 2) := by decide +kernel
theorem dX6_sorted_11 : decode cX6_sorted 11 = .ok (.aload_n 0, 1) := by decide +kernel
theorem dX6_sorted_12 : decode cX6_sorted 12 = .ok (.iload_n 2, 1) := by decide +kernel
theorem dX6_sorted_13 : decode cX6_sorted 13 = .ok (.ifCond .lt 23, 3) := by decide +kernel
theorem dX6_sorted_16 : decode cX6_sorted 16 = .ok (.iload_n 2, 1) := by decide +kernel
theorem dX6_sorted_17 : decode cX6_sorted 17 = .ok (.aload_n 0, 1) := by decide +kernel
theorem dX6_sorted_18 : decode cX6_sorted 18 = .ok (.getfield 22, 3) := by decide +kernel
theorem dX6_sorted_21 : decode cX6_sorted 21 = .ok (.iload 4, 2) := by decide +kernel
theorem dX6_sorted_23 : decode cX6_sorted 23 = .ok (.iaload, 1) := by decide +kernel
theorem dX6_sorted_24 : decode cX6_sorted 24 = .ok (.if_icmp .ge 12, 3) := by decide +kernel
theorem dX6_sorted_27 : decode cX6_sorted 27 = .ok (.iload_n 3, 1) := by decide +kernel
theorem dX6_sorted_28 : decode cX6_sorted 28 = .ok (.ifCond .lt 8, 3) := by decide +kernel
theorem dX6_sorted_31 : decode cX6_sorted 31 = .ok (.iload_n 3, 1) := by decide +kernel
theorem dX6_sorted_32 : decode cX6_sorted 32 = .ok (.iconst 2, 1) := by decide +kernel
theorem dX6_sorted_33 : decode cX6_sorted 33 = .ok (.if_icmp .le 7, 3) := by decide +kernel
theorem dX6_sorted_36 : decode cX6_sorted 36 = .ok (.iconst 1, 1) := by decide +kernel
theorem dX6_sorted_37 : decode cX6_sorted 37 = .ok (.goto 15, 3) := by decide +kernel
theorem dX6_sorted_40 : decode cX6_sorted 40 = .ok (.aload_n 0, 1) := by decide +kernel
theorem dX6_sorted_41 : decode cX6_sorted 41 = .ok (.getfield 43, 3) := by decide +kernel
theorem dX6_sorted_44 : decode cX6_sorted 44 = .ok (.ifCond .eq 7, 3) := by decide +kernel
theorem dX6_sorted_47 : decode cX6_sorted 47 = .ok (.iconst 0, 1) := by decide +kernel
theorem dX6_sorted_48 : decode cX6_sorted 48 = .ok (.goto 4, 3) := by decide +kernel
theorem dX6_sorted_51 : decode cX6_sorted 51 = .ok (.iconst 2, 1) := by decide +kernel
theorem dX6_sorted_52 : decode cX6_sorted 52 = .ok (.invokevirtual 39, 3) := by decide +kernel
theorem dX6_sorted_55 : decode cX6_sorted 55 = .ok (.ifCond .eq 5, 3) := by decide +kernel
theorem dX6_sorted_58 : decode cX6_sorted 58 = .ok (.iconst 0, 1) := by decide +kernel
theorem dX6_sorted_59 : decode cX6_sorted 59 = .ok (.ireturn, 1) := by decide +kernel
theorem dX6_sorted_60 : decode cX6_sorted 60 = .ok (.iload_n 3, 1) := by decide +kernel
theorem dX6_sorted_61 : decode cX6_sorted 61 = .ok (.ifCond .ne 13, 3) := by decide +kernel
theorem dX6_sorted_64 : decode cX6_sorted 64 = .ok (.aload_n 0, 1) := by decide +kernel
theorem dX6_sorted_65 : decode cX6_sorted 65 = .ok (.iload 4, 2) := by decide +kernel
theorem dX6_sorted_67 : decode cX6_sorted 67 = .ok (.iload_n 2, 1) := by decide +kernel
theorem dX6_sorted_68 : decode cX6_sorted 68 = .ok (.invokevirtual 63, 3) := by decide +kernel
theorem dX6_sorted_71 : decode cX6_sorted 71 = .ok (.goto 31, 3) := by decide +kernel
theorem dX6_sorted_74 : decode cX6_sorted 74 = .ok (.iload_n 3, 1) := by decide +kernel
theorem dX6_sorted_75 : decode cX6_sorted 75 = .ok (.iconst 1, 1) := by decide +kernel
theorem dX6_sorted_76 : decode cX6_sorted 76 = .ok (.if_icmp .ne 13, 3) := by decide +kernel
theorem dX6_sorted_79 : decode cX6_sorted 79 = .ok (.aload_n 0, 1) := by decide +kernel
theorem dX6_sorted_80 : decode cX6_sorted 80 = .ok (.iload 4, 2) := by decide +kernel
theorem dX6_sorted_82 : decode cX6_sorted 82 = .ok (.iload_n 2, 1) := by decide +kernel
theorem dX6_sorted_83 : decode cX6_sorted 83 = .ok (.invokevirtual 81, 3) := by decide +kernel
theorem dX6_sorted_86 : decode cX6_sorted 86 = .ok (.goto 16, 3) := by decide +kernel
theorem dX6_sorted_89 : decode cX6_sorted 89 = .ok (.aload_n 0, 1) := by decide +kernel
theorem dX6_sorted_90 : decode cX6_sorted 90 = .ok (.getfield 19, 3) := by decide +kernel
theorem dX6_sorted_93 : decode cX6_sorted 93 = .ok (.sipush 400, 3) := by decide +kernel
theorem dX6_sorted_96 : decode cX6_sorted 96 = .ok (.iload 4, 2) := by decide +kernel
theorem dX6_sorted_98 : decode cX6_sorted 98 = .ok (.imul, 1) := by decide +kernel
theorem dX6_sorted_99 : decode cX6_sorted 99 = .ok (.iload_n 2, 1) := by decide +kernel
theorem dX6_sorted_100 : decode cX6_sorted 100 = .ok (.iadd, 1) := by decide +kernel
theorem dX6_sorted_101 : decode cX6_sorted 101 = .ok (.iaload, 1) := by decide +kernel
theorem dX6_sorted_102 : decode cX6_sorted 102 = .ok (.ireturn, 1) := by decide +kernel
theorem dX6_about_0 : decode cX6_about 0 = .ok (.aload_n 0, 1) := by decide +kernel
theorem dX6_about_1 : decode cX6_about 1 = .ok (.iload_n 1, 1) := by decide +kernel
theorem dX6_about_2 : decode cX6_about 2 = .ok (.ifCond .lt 8, 3) := by decide +kernel
theorem dX6_about_5 : decode cX6_about 5 = .ok (.iload_n 1, 1) := by decide +kernel
theorem dX6_about_6 : decode cX6_about 6 = .ok (.iconst 4, 1) := by decide +kernel
theorem dX6_about_7 : decode cX6_about 7 = .ok (.if_icmp .le 7, 3) := by decide +kernel
theorem dX6_about_10 : decode cX6_about 10 = .ok (.iconst 1, 1) := by decide +kernel
theorem dX6_about_11 : decode cX6_about 11 = .ok (.goto 4, 3) := by decide +kernel
theorem dX6_about_14 : decode cX6_about 14 = .ok (.iconst 0, 1) := by decide +kernel
theorem dX6_about_15 : decode cX6_about 15 = .ok (.invokevirtual 39, 3) := by decide +kernel
theorem dX6_about_18 : decode cX6_about 18 = .ok (.ifCond .eq 5, 3) := by decide +kernel
theorem dX6_about_21 : decode cX6_about 21 = .ok (.lconst 0, 1) := by decide +kernel
theorem dX6_about_22 : decode cX6_about 22 = .ok (.lreturn, 1) := by decide +kernel
theorem dX6_about_23 : decode cX6_about 23 = .ok (.iload_n 1, 1) := by decide +kernel
theorem dX6_about_24 : decode cX6_about 24 = .ok (.ifCond .ne 10, 3) := by decide +kernel
theorem dX6_about_27 : decode cX6_about 27 = .ok (.aload_n 0, 1) := by decide +kernel
theorem dX6_about_28 : decode cX6_about 28 = .ok (.getfield 53, 3) := by decide +kernel
theorem dX6_about_31 : decode cX6_about 31 = .ok (.goto 45, 3) := by decide +kernel
theorem dX6_about_34 : decode cX6_about 34 = .ok (.iload_n 1, 1) := by decide +kernel
theorem dX6_about_35 : decode cX6_about 35 = .ok (.iconst 3, 1) := by decide +kernel
theorem dX6_about_36 : decode cX6_about 36 = .ok (.if_icmp .ge 15, 3) := by decide +kernel
theorem dX6_about_39 : decode cX6_about 39 = .ok (.aload_n 0, 1) := by decide +kernel
theorem dX6_about_40 : decode cX6_about 40 = .ok (.getfield 22, 3) := by decide +kernel
theorem dX6_about_43 : decode cX6_about 43 = .ok (.iload_n 1, 1) := by decide +kernel
theorem dX6_about_44 : decode cX6_about 44 = .ok (.iconst 1, 1) := by decide +kernel
theorem dX6_about_45 : decode cX6_about 45 = .ok (.isub, 1) := by decide +kernel
theorem dX6_about_46 : decode cX6_about 46 = .ok (.iaload, 1) := by decide +kernel
theorem dX6_about_47 : decode cX6_about 47 = .ok (.i2l, 1) := by decide +kernel
theorem dX6_about_48 : decode cX6_about 48 = .ok (.goto 28, 3) := by decide +kernel
theorem dX6_about_51 : decode cX6_about 51 = .ok (.iload_n 1, 1) := by decide +kernel
theorem dX6_about_52 : decode cX6_about 52 = .ok (.iconst 3, 1) := by decide +kernel
theorem dX6_about_53 : decode cX6_about 53 = .ok (.if_icmp .ne 18, 3) := by decide +kernel
theorem dX6_about_56 : decode cX6_about 56 = .ok (.aload_n 0, 1) := by decide +kernel
theorem dX6_about_57 : decode cX6_about 57 = .ok (.getfield 43, 3) := by decide +kernel
theorem dX6_about_60 : decode cX6_about 60 = .ok (.ifCond .eq 7, 3) := by decide +kernel
theorem dX6_about_63 : decode cX6_about 63 = .ok (.lconst 1, 1) := by decide +kernel
theorem dX6_about_64 : decode cX6_about 64 = .ok (.goto 12, 3) := by decide +kernel
theorem dX6_about_67 : decode cX6_about 67 = .ok (.lconst 0, 1) := by decide +kernel
theorem dX6_about_68 : decode cX6_about 68 = .ok (.goto 8, 3) := by decide +kernel
theorem dX6_about_71 : decode cX6_about 71 = .ok (.aload_n 0, 1) := by decide +kernel
theorem dX6_about_72 : decode cX6_about 72 = .ok (.getfield 60, 3) := by decide +kernel
theorem dX6_about_75 : decode cX6_about 75 = .ok (.i2l, 1) := by decide +kernel
theorem dX6_about_76 : decode cX6_about 76 = .ok (.lreturn, 1) := by decide +kernel
theorem dX6_clear_0 : decode cX6_clear 0 = .ok (.aload_n 0, 1) := by decide +kernel
theorem dX6_clear_1 : decode cX6_clear 1 = .ok (.iconst 0, 1) := by decide +kernel
theorem dX6_clear_2 : decode cX6_clear 2 = .ok (.putfield 36, 3) := by decide +kernel
theorem dX6_clear_5 : decode cX6_clear 5 = .ok (.aload_n 0, 1) := by decide +kernel
theorem dX6_clear_6 : decode cX6_clear 6 = .ok (.getfield 22, 3) := by decide +kernel
theorem dX6_clear_9 : decode cX6_clear 9 = .ok (.iconst 0, 1) := by decide +kernel
theorem dX6_clear_10 : decode cX6_clear 10 = .ok (.iconst 0, 1) := by decide +kernel
theorem dX6_clear_11 : decode cX6_clear 11 = .ok (.iastore, 1) := by decide +kernel
theorem dX6_clear_12 : decode cX6_clear 12 = .ok (.aload_n 0, 1) := by decide +kernel
theorem dX6_clear_13 : decode cX6_clear 13 = .ok (.getfield 22, 3) := by decide +kernel
theorem dX6_clear_16 : decode cX6_clear 16 = .ok (.iconst 1, 1) := by decide +kernel
theorem dX6_clear_17 : decode cX6_clear 17 = .ok (.iconst 0, 1) := by decide +kernel
theorem dX6_clear_18 : decode cX6_clear 18 = .ok (.iastore, 1) := by decide +kernel
theorem dX6_clear_19 : decode cX6_clear 19 = .ok (.aload_n 0, 1) := by decide +kernel
theorem dX6_clear_20 : decode cX6_clear 20 = .ok (.iconst 0, 1) := by decide +kernel
theorem dX6_clear_21 : decode cX6_clear 21 = .ok (.putfield 60, 3) := by decide +kernel
theorem dX6_clear_24 : decode cX6_clear 24 = .ok (.aload_n 0, 1) := by decide +kernel
theorem dX6_clear_25 : decode cX6_clear 25 = .ok (.iconst 0, 1) := by decide +kernel
theorem dX6_clear_26 : decode cX6_clear 26 = .ok (.putfield 43, 3) := by decide +kernel
theorem dX6_clear_29 : decode cX6_clear 29 = .ok (.aload_n 0, 1) := by decide +kernel
theorem dX6_clear_30 : decode cX6_clear 30 = .ok (.iconst 0, 1) := by decide +kernel
theorem dX6_clear_31 : decode cX6_clear 31 = .ok (.putfield 47, 3) := by decide +kernel
theorem dX6_clear_34 : decode cX6_clear 34 = .ok (.aload_n 0, 1) := by decide +kernel
theorem dX6_clear_35 : decode cX6_clear 35 = .ok (.iconst 0, 1) := by decide +kernel
theorem dX6_clear_36 : decode cX6_clear 36 = .ok (.putfield 57, 3) := by decide +kernel
theorem dX6_clear_39 : decode cX6_clear 39 = .ok (.aload_n 0, 1) := by decide +kernel
theorem dX6_clear_40 : decode cX6_clear 40 = .ok (.lconst 0, 1) := by decide +kernel
theorem dX6_clear_41 : decode cX6_clear 41 = .ok (.putfield 53, 3) := by decide +kernel
theorem dX6_clear_44 : decode cX6_clear 44 = .ok (.aload_n 0, 1) := by decide +kernel
theorem dX6_clear_45 : decode cX6_clear 45 = .ok (.invokevirtual 50, 3) := by decide +kernel
theorem dX6_clear_48 : decode cX6_clear 48 = .ok (.return_, 1) := by decide +kernel
